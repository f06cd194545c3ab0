theorem dX10_findings_9 : decode cX10_findings 9 = .ok (.ifCond .eq 8, 3) := by decide +kernel
theorem dX10_findings_12 : decode cX10_findings 12 = .ok (.iload_n 2, 1) := by decide +kernel
theorem dX10_findings_13 : decode cX10_findings 13 = .ok (.iconst 4, 1) := by decide +kernel
theorem dX10_findings_14 : decode cX10_findings 14 = .ok (.if_icmp .ne 15, 3) := by decide +kernel
theorem dX10_findings_17 : decode cX10_findings 17 = .ok (.aload_n 0, 1) := by decide +kernel
theorem dX10_findings_18 : decode cX10_findings 18 = .ok (.iload_n 1, 1) := by decide +kernel
theorem dX10_findings_19 : decode cX10_findings 19 = .ok (.invokevirtual 268, 3) := by decide +kernel
theorem dX10_findings_22 : decode cX10_findings 22 = .ok (.ifCond .ne 7, 3) := by decide +kernel
theorem dX10_findings_25 : decode cX10_findings 25 = .ok (.iload_n 3, 1) := by decide +kernel
theorem dX10_findings_26 : decode cX10_findings 26 = .ok (.iconst 1, 1) := by decide +kernel
theorem dX10_findings_27 : decode cX10_findings 27 = .ok (.ior, 1) := by decide +kernel
theorem dX10_findings_28 : decode cX10_findings 28 = .ok (.istore_n 3, 1) := by decide +kernel
theorem dX10_findings_29 : decode cX10_findings 29 = .ok (.iload_n 2, 1) := by decide +kernel
theorem dX10_findings_30 : decode cX10_findings 30 = .ok (.iconst 2, 1) := by decide +kernel
theorem dX10_findings_31 : decode cX10_findings 31 = .ok (.if_icmp .ne 19, 3) := by decide +kernel
theorem dX10_findings_34 : decode cX10_findings 34 = .ok (.aload_n 0, 1) := by decide +kernel
theorem dX10_findings_35 : decode cX10_findings 35 = .ok (.getfield 76, 3) := by decide +kernel
theorem dX10_findings_38 : decode cX10_findings 38 = .ok (.getfield 184, 3) := by decide +kernel
theorem dX10_findings_41 : decode cX10_findings 41 = .ok (.iload_n 1, 1) := by decide +kernel
theorem dX10_findings_42 : decode cX10_findings 42 = .ok (.iaload, 1) := by decide +kernel
theorem dX10_findings_43 : decode cX10_findings 43 = .ok (.ifCond .ne 7, 3) := by decide +kernel
theorem dX10_findings_46 : decode cX10_findings 46 = .ok (.iload_n 3, 1) := by decide +kernel
theorem dX10_findings_47 : decode cX10_findings 47 = .ok (.iconst 2, 1) := by decide +kernel
theorem dX10_findings_48 : decode cX10_findings 48 = .ok (.ior, 1) := by decide +kernel
theorem dX10_findings_49 : decode cX10_findings 49 = .ok (.istore_n 3, 1) := by decide +kernel
theorem dX10_findings_50 : decode cX10_findings 50 = .ok (.aload_n 0, 1) := by decide +kernel
theorem dX10_findings_51 : decode cX10_findings 51 = .ok (.iload_n 1, 1) := by decide +kernel
theorem dX10_findings_52 : decode cX10_findings 52 = .ok (.invokevirtual 271, 3) := by decide +kernel
theorem dX10_findings_55 : decode cX10_findings 55 = .ok (.ifCond .eq 7, 3) := by decide +kernel
theorem dX10_findings_58 : decode cX10_findings 58 = .ok (.iload_n 3, 1) := by decide +kernel
theorem dX10_findings_59 : decode cX10_findings 59 = .ok (.iconst 4, 1) := by decide +kernel
theorem dX10_findings_60 : decode cX10_findings 60 = .ok (.ior, 1) := by decide +kernel
theorem dX10_findings_61 : decode cX10_findings 61 = .ok (.istore_n 3, 1) := by decide +kernel
theorem dX10_findings_62 : decode cX10_findings 62 = .ok (.aload_n 0, 1) := by decide +kernel
theorem dX10_findings_63 : decode cX10_findings 63 = .ok (.getfield 55, 3) := by decide +kernel
theorem dX10_findings_66 : decode cX10_findings 66 = .ok (.iload_n 1, 1) := by decide +kernel
theorem dX10_findings_67 : decode cX10_findings 67 = .ok (.aload_n 0, 1) := by decide +kernel
theorem dX10_findings_68 : decode cX10_findings 68 = .ok (.getfield 62, 3) := by decide +kernel
theorem dX10_findings_71 : decode cX10_findings 71 = .ok (.getfield 166, 3) := by decide +kernel
theorem dX10_findings_74 : decode cX10_findings 74 = .ok (.invokevirtual 274, 3) := by decide +kernel
theorem dX10_findings_77 : decode cX10_findings 77 = .ok (.ifCond .eq 8, 3) := by decide +kernel
theorem dX10_findings_80 : decode cX10_findings 80 = .ok (.iload_n 3, 1) := by decide +kernel
theorem dX10_findings_81 : decode cX10_findings 81 = .ok (.bipush 8, 2) := by decide +kernel
theorem dX10_findings_83 : decode cX10_findings 83 = .ok (.ior, 1) := by decide +kernel
theorem dX10_findings_84 : decode cX10_findings 84 = .ok (.istore_n 3, 1) := by decide +kernel
theorem dX10_findings_85 : decode cX10_findings 85 = .ok (.iload_n 1, 1) := by decide +kernel
theorem dX10_findings_86 : decode cX10_findings 86 = .ok (.ifCond .ne 15, 3) := by decide +kernel
theorem dX10_findings_89 : decode cX10_findings 89 = .ok (.iload_n 2, 1) := by decide +kernel
theorem dX10_findings_90 : decode cX10_findings 90 = .ok (.invokestatic 242, 3) := by decide +kernel
theorem dX10_findings_93 : decode cX10_findings 93 = .ok (.ifCond .eq 8, 3) := by decide +kernel
theorem dX10_findings_96 : decode cX10_findings 96 = .ok (.iload_n 3, 1) := by decide +kernel
theorem dX10_findings_97 : decode cX10_findings 97 = .ok (.bipush 16, 2) := by decide +kernel
theorem dX10_findings_99 : decode cX10_findings 99 = .ok (.ior, 1) := by decide +kernel
theorem dX10_findings_100 : decode cX10_findings 100 = .ok (.istore_n 3, 1) := by decide +kernel
theorem dX10_findings_101 : decode cX10_findings 101 = .ok (.iload_n 3, 1) := by decide +kernel
theorem dX10_findings_102 : decode cX10_findings 102 = .ok (.ireturn, 1) := by decide +kernel
theorem dX10_hasSupport_0 : decode cX10_hasSupport 0 = .ok (.iconst 0, 1) := by decide +kernel
theorem dX10_hasSupport_1 : decode cX10_hasSupport 1 = .ok (.istore_n 2, 1) := by decide +kernel
theorem dX10_hasSupport_2 : decode cX10_hasSupport 2 = .ok (.iload_n 2, 1) := by decide +kernel
theorem dX10_hasSupport_3 : decode cX10_hasSupport 3 = .ok (.aload_n 0, 1) := by decide +kernel
theorem dX10_hasSupport_4 : decode cX10_hasSupport 4 = .ok (.getfield 45, 3) := by decide +kernel
theorem dX10_hasSupport_7 : decode cX10_hasSupport 7 = .ok (.getfield 149, 3) := by decide +kernel
theorem dX10_hasSupport_10 : decode cX10_hasSupport 10 = .ok (.if_icmp .ge 40, 3) := by decide +kernel
theorem dX10_hasSupport_13 : decode cX10_hasSupport 13 = .ok (.aload_n 0, 1) := by decide +kernel
theorem dX10_hasSupport_14 : decode cX10_hasSupport 14 = .ok (.iload_n 2, 1) := by decide +kernel
theorem dX10_hasSupport_15 : decode cX10_hasSupport 15 = .ok (.invokevirtual 239, 3) := by decide +kernel
theorem dX10_hasSupport_18 : decode cX10_hasSupport 18 = .ok (.istore_n 3, 1) := by decide +kernel
theorem dX10_hasSupport_19 : decode cX10_hasSupport 19 = .ok (.aload_n 0, 1) := by decide +kernel
theorem dX10_hasSupport_20 : decode cX10_hasSupport 20 = .ok (.getfield 76, 3) := by decide +kernel
theorem dX10_hasSupport_23 : decode cX10_hasSupport 23 = .ok (.getfield 181, 3) := by decide +kernel
theorem dX10_hasSupport_26 : decode cX10_hasSupport 26 = .ok (.iload_n 2, 1) := by decide +kernel
theorem dX10_hasSupport_27 : decode cX10_hasSupport 27 = .ok (.iaload, 1) := by decide +kernel
theorem dX10_hasSupport_28 : decode cX10_hasSupport 28 = .ok (.iload_n 1, 1) := by decide +kernel
theorem dX10_hasSupport_29 : decode cX10_hasSupport 29 = .ok (.if_icmp .ne 15, 3) := by decide +kernel
theorem dX10_hasSupport_32 : decode cX10_hasSupport 32 = .ok (.iload_n 3, 1) := by decide +kernel
theorem dX10_hasSupport_33 : decode cX10_hasSupport 33 = .ok (.iconst 1, 1) := by decide +kernel
theorem dX10_hasSupport_34 : decode cX10_hasSupport 34 = .ok (.if_icmp .eq 8, 3) := by decide +kernel
theorem dX10_hasSupport_37 : decode cX10_hasSupport 37 = .ok (.iload_n 3, 1) := by decide +kernel
theorem dX10_hasSupport_38 : decode cX10_hasSupport 38 = .ok (.iconst 3, 1) := by decide +kernel
theorem dX10_hasSupport_39 : decode cX10_hasSupport 39 = .ok (.if_icmp .ne 5, 3) := by decide +kernel
theorem dX10_hasSupport_42 : decode cX10_hasSupport 42 = .ok (.iconst 1, 1) := by decide +kernel
theorem dX10_hasSupport_43 : decode cX10_hasSupport 43 = .ok (.ireturn, 1) := by decide +kernel
theorem dX10_hasSupport_44 : decode cX10_hasSupport 44 = .ok (.iinc 2 1, 3) := by decide +kernel
theorem dX10_hasSupport_47 : decode cX10_hasSupport 47 = .ok (.goto (-45), 3) := by decide +kernel
theorem dX10_hasSupport_50 : decode cX10_hasSupport 50 = .ok (.iconst 0, 1) := by decide +kernel
theorem dX10_hasSupport_51 : decode cX10_hasSupport 51 = .ok (.ireturn, 1) := by decide +kernel
theorem dX10_isToldTwice_0 : decode cX10_isToldTwice 0 = .ok (.aload_n 0, 1) := by decide +kernel
theorem dX10_isToldTwice_1 : decode cX10_isToldTwice 1 = .ok (.getfield 55, 3) := by decide +kernel
theorem dX10_isToldTwice_4 : decode cX10_isToldTwice 4 = .ok (.getfield 172, 3) := by decide +kernel
theorem dX10_isToldTwice_7 : decode cX10_isToldTwice 7 = .ok (.aload_n 0, 1) := by decide +kernel
theorem dX10_isToldTwice_8 : decode cX10_isToldTwice 8 = .ok (.getfield 62, 3) := by decide +kernel
theorem dX10_isToldTwice_11 : decode cX10_isToldTwice 11 = .ok (.getfield 166, 3) := by decide +kernel
theorem dX10_isToldTwice_14 : decode cX10_isToldTwice 14 = .ok (.iload_n 1, 1) := by decide +kernel
theorem dX10_isToldTwice_15 : decode cX10_isToldTwice 15 = .ok (.iaload, 1) := by decide +kernel
theorem dX10_isToldTwice_16 : decode cX10_isToldTwice 16 = .ok (.iaload, 1) := by decide +kernel
theorem dX10_isToldTwice_17 : decode cX10_isToldTwice 17 = .ok (.istore_n 2, 1) := by decide +kernel
theorem dX10_isToldTwice_18 : decode cX10_isToldTwice 18 = .ok (.aload_n 0, 1) := by decide +kernel
theorem dX10_isToldTwice_19 : decode cX10_isToldTwice 19 = .ok (.getfield 76, 3) := by decide +kernel
theorem dX10_isToldTwice_22 : decode cX10_isToldTwice 22 = .ok (.getfield 181, 3) := by decide +kernel
theorem dX10_isToldTwice_25 : decode cX10_isToldTwice 25 = .ok (.iload_n 1, 1) := by decide +kernel
theorem dX10_isToldTwice_26 : decode cX10_isToldTwice 26 = .ok (.iaload, 1) := by decide +kernel
theorem dX10_isToldTwice_27 : decode cX10_isToldTwice 27 = .ok (.istore_n 3, 1) := by decide +kernel
theorem dX10_isToldTwice_28 : decode cX10_isToldTwice 28 = .ok (.iload_n 3, 1) := by decide +kernel
theorem dX10_isToldTwice_29 : decode cX10_isToldTwice 29 = .ok (.iconst (-1), 1) := by decide +kernel
theorem dX10_isToldTwice_30 : decode cX10_isToldTwice 30 = .ok (.if_icmp .eq 7, 3) := by decide +kernel
theorem dX10_isToldTwice_33 : decode cX10_isToldTwice 33 = .ok (.iload_n 2, 1) := by decide +kernel
theorem dX10_isToldTwice_34 : decode cX10_isToldTwice 34 = .ok (.ifCond .ne 5, 3) := by decide +kernel
theorem dX10_isToldTwice_37 : decode cX10_isToldTwice 37 = .ok (.iconst 0, 1) := by decide +kernel
theorem dX10_isToldTwice_38 : decode cX10_isToldTwice 38 = .ok (.ireturn, 1) := by decide +kernel
theorem dX10_isToldTwice_39 : decode cX10_isToldTwice 39 = .ok (.iconst 0, 1) := by decide +kernel
theorem dX10_isToldTwice_40 : decode cX10_isToldTwice 40 = .ok (.istore 4, 2) := by decide +kernel
theorem dX10_isToldTwice_42 : decode cX10_isToldTwice 42 = .ok (.iload 4, 2) := by decide +kernel
theorem dX10_isToldTwice_44 : decode cX10_isToldTwice 44 = .ok (.iload_n 1, 1) := by decide +kernel
theorem dX10_isToldTwice_45 : decode cX10_isToldTwice 45 = .ok (.if_icmp .ge 38, 3) := by decide +kernel
theorem dX10_isToldTwice_48 : decode cX10_isToldTwice 48 = .ok (.aload_n 0, 1) := by decide +kernel
theorem dX10_isToldTwice_49 : decode cX10_isToldTwice 49 = .ok (.getfield 76, 3) := by decide +kernel
theorem dX10_isToldTwice_52 : decode cX10_isToldTwice 52 = .ok (.getfield 181, 3) := by decide +kernel
theorem dX10_isToldTwice_55 : decode cX10_isToldTwice 55 = .ok (.iload 4, 2) := by decide +kernel
theorem dX10_isToldTwice_57 : decode cX10_isToldTwice 57 = .ok (.iaload, 1) := by decide +kernel
theorem dX10_isToldTwice_58 : decode cX10_isToldTwice 58 = .ok (.iload_n 3, 1) := by decide +kernel
theorem dX10_isToldTwice_59 : decode cX10_isToldTwice 59 = .ok (.if_icmp .ne 18, 3) := by decide +kernel
theorem dX10_isToldTwice_62 : decode cX10_isToldTwice 62 = .ok (.iconst 2, 1) := by decide +kernel
theorem dX10_isToldTwice_63 : decode cX10_isToldTwice 63 = .ok (.aload_n 0, 1) := by decide +kernel
theorem dX10_isToldTwice_64 : decode cX10_isToldTwice 64 = .ok (.iload 4, 2) := by decide +kernel
theorem dX10_isToldTwice_66 : decode cX10_isToldTwice 66 = .ok (.iload_n 1, 1) := by decide +kernel
theorem dX10_isToldTwice_67 : decode cX10_isToldTwice 67 = .ok (.invokevirtual 205, 3) := by decide +kernel
theorem dX10_isToldTwice_70 : decode cX10_isToldTwice 70 = .ok (.imul, 1) := by decide +kernel
theorem dX10_isToldTwice_71 : decode cX10_isToldTwice 71 = .ok (.iload_n 2, 1) := by decide +kernel
theorem dX10_isToldTwice_72 : decode cX10_isToldTwice 72 = .ok (.if_icmp .lt 5, 3) := by decide +kernel
theorem dX10_isToldTwice_75 : decode cX10_isToldTwice 75 = .ok (.iconst 1, 1) := by decide +kernel
theorem dX10_isToldTwice_76 : decode cX10_isToldTwice 76 = .ok (.ireturn, 1) := by decide +kernel
theorem dX10_isToldTwice_77 : decode cX10_isToldTwice 77 = .ok (.iinc 4 1, 3) := by decide +kernel
theorem dX10_isToldTwice_80 : decode cX10_isToldTwice 80 = .ok (.goto (-38), 3) := by decide +kernel
theorem dX10_isToldTwice_83 : decode cX10_isToldTwice 83 = .ok (.iconst 0, 1) := by decide +kernel
theorem dX10_isToldTwice_84 : decode cX10_isToldTwice 84 = .ok (.ireturn, 1) := by decide +kernel
theorem dX10_pair_0 : decode cX10_pair 0 = .ok (.aload_n 0, 1) := by decide +kernel
theorem dX10_pair_1 : decode cX10_pair 1 = .ok (.iload_n 1, 1) := by decide +kernel
theorem dX10_pair_2 : decode cX10_pair 2 = .ok (.invokevirtual 159, 3) := by decide +kernel
theorem dX10_pair_5 : decode cX10_pair 5 = .ok (.ifCond .ne 16, 3) := by decide +kernel
theorem dX10_pair_8 : decode cX10_pair 8 = .ok (.aload_n 0, 1) := by decide +kernel
theorem dX10_pair_9 : decode cX10_pair 9 = .ok (.iload_n 2, 1) := by decide +kernel
theorem dX10_pair_10 : decode cX10_pair 10 = .ok (.invokevirtual 159, 3) := by decide +kernel
theorem dX10_pair_13 : decode cX10_pair 13 = .ok (.ifCond .ne 8, 3) := by decide +kernel
theorem dX10_pair_16 : decode cX10_pair 16 = .ok (.iload_n 1, 1) := by decide +kernel
theorem dX10_pair_17 : decode cX10_pair 17 = .ok (.iload_n 2, 1) := by decide +kernel
theorem dX10_pair_18 : decode cX10_pair 18 = .ok (.if_icmp .ne 6, 3) := by decide +kernel
theorem dX10_pair_21 : decode cX10_pair 21 = .ok (.bipush (-2), 2) := by decide +kernel
theorem dX10_pair_23 : decode cX10_pair 23 = .ok (.ireturn, 1) := by decide +kernel
theorem dX10_pair_24 : decode cX10_pair 24 = .ok (.aload_n 0, 1) := by decide +kernel
theorem dX10_pair_25 : decode cX10_pair 25 = .ok (.getfield 62, 3) := by decide +kernel
theorem dX10_pair_28 : decode cX10_pair 28 = .ok (.getfield 166, 3) := by decide +kernel
theorem dX10_pair_31 : decode cX10_pair 31 = .ok (.iload_n 1, 1) := by decide +kernel
theorem dX10_pair_32 : decode cX10_pair 32 = .ok (.iaload, 1) := by decide +kernel
theorem dX10_pair_33 : decode cX10_pair 33 = .ok (.istore_n 3, 1) := by decide +kernel
theorem dX10_pair_34 : decode cX10_pair 34 = .ok (.aload_n 0, 1) := by decide +kernel
theorem dX10_pair_35 : decode cX10_pair 35 = .ok (.getfield 62, 3) := by decide +kernel
theorem dX10_pair_38 : decode cX10_pair 38 = .ok (.getfield 166, 3) := by decide +kernel
theorem dX10_pair_41 : decode cX10_pair 41 = .ok (.iload_n 2, 1) := by decide +kernel
theorem dX10_pair_42 : decode cX10_pair 42 = .ok (.iaload, 1) := by decide +kernel
theorem dX10_pair_43 : decode cX10_pair 43 = .ok (.istore 4, 2) := by decide +kernel
theorem dX10_pair_45 : decode cX10_pair 45 = .ok (.aload_n 0, 1) := by decide +kernel
theorem dX10_pair_46 : decode cX10_pair 46 = .ok (.getfield 83, 3) := by decide +kernel
theorem dX10_pair_49 : decode cX10_pair 49 = .ok (.iload 4, 2) := by decide +kernel
theorem dX10_pair_51 : decode cX10_pair 51 = .ok (.iload_n 3, 1) := by decide +kernel
theorem dX10_pair_52 : decode cX10_pair 52 = .ok (.invokevirtual 278, 3) := by decide +kernel
theorem dX10_pair_55 : decode cX10_pair 55 = .ok (.ifCond .eq 6, 3) := by decide +kernel
theorem dX10_pair_58 : decode cX10_pair 58 = .ok (.bipush (-2), 2) := by decide +kernel
theorem dX10_pair_60 : decode cX10_pair 60 = .ok (.ireturn, 1) := by decide +kernel
theorem dX10_pair_61 : decode cX10_pair 61 = .ok (.aload_n 0, 1) := by decide +kernel
theorem dX10_pair_62 : decode cX10_pair 62 = .ok (.getfield 83, 3) := by decide +kernel
theorem dX10_pair_65 : decode cX10_pair 65 = .ok (.iload_n 3, 1) := by decide +kernel
theorem dX10_pair_66 : decode cX10_pair 66 = .ok (.iload 4, 2) := by decide +kernel
theorem dX10_pair_68 : decode cX10_pair 68 = .ok (.invokevirtual 281, 3) := by decide +kernel
theorem dX10_pair_71 : decode cX10_pair 71 = .ok (.ifCond .eq 11, 3) := by decide +kernel
theorem dX10_pair_74 : decode cX10_pair 74 = .ok (.aload_n 0, 1) := by decide +kernel
theorem dX10_pair_75 : decode cX10_pair 75 = .ok (.getfield 83, 3) := by decide +kernel
theorem dX10_pair_78 : decode cX10_pair 78 = .ok (.getfield 155, 3) := by decide +kernel
theorem dX10_pair_81 : decode cX10_pair 81 = .ok (.ireturn, 1) := by decide +kernel
theorem dX10_pair_82 : decode cX10_pair 82 = .ok (.aload_n 0, 1) := by decide +kernel
theorem dX10_pair_83 : decode cX10_pair 83 = .ok (.getfield 83, 3) := by decide +kernel
theorem dX10_pair_86 : decode cX10_pair 86 = .ok (.getfield 155, 3) := by decide +kernel
theorem dX10_pair_89 : decode cX10_pair 89 = .ok (.bipush 20, 2) := by decide +kernel
theorem dX10_pair_91 : decode cX10_pair 91 = .ok (.if_icmp .lt 6, 3) := by decide +kernel
theorem dX10_pair_94 : decode cX10_pair 94 = .ok (.bipush (-3), 2) := by decide +kernel
theorem dX10_pair_96 : decode cX10_pair 96 = .ok (.ireturn, 1) := by decide +kernel
theorem dX10_pair_97 : decode cX10_pair 97 = .ok (.aload_n 0, 1) := by decide +kernel
theorem dX10_pair_98 : decode cX10_pair 98 = .ok (.getfield 83, 3) := by decide +kernel
theorem dX10_pair_101 : decode cX10_pair 101 = .ok (.iload_n 3, 1) := by decide +kernel
theorem dX10_pair_102 : decode cX10_pair 102 = .ok (.iload 4, 2) := by decide +kernel
theorem dX10_pair_104 : decode cX10_pair 104 = .ok (.invokevirtual 284, 3) := by decide +kernel
theorem dX10_pair_107 : decode cX10_pair 107 = .ok (.aload_n 0, 1) := by decide +kernel
theorem dX10_pair_108 : decode cX10_pair 108 = .ok (.getfield 83, 3) := by decide +kernel
theorem dX10_pair_111 : decode cX10_pair 111 = .ok (.getfield 155, 3) := by decide +kernel
theorem dX10_pair_114 : decode cX10_pair 114 = .ok (.ireturn, 1) := by decide +kernel
theorem dX10_order_0 : decode cX10_order 0 = .ok (.aload_n 0, 1) := by decide +kernel
theorem dX10_order_1 : decode cX10_order 1 = .ok (.iload_n 1, 1) := by decide +kernel
theorem dX10_order_2 : decode cX10_order 2 = .ok (.invokevirtual 159, 3) := by decide +kernel
theorem dX10_order_5 : decode cX10_order 5 = .ok (.ifCond .eq 6, 3) := by decide +kernel
theorem dX10_order_8 : decode cX10_order 8 = .ok (.bipush (-2), 2) := by decide +kernel
theorem dX10_order_10 : decode cX10_order 10 = .ok (.ireturn, 1) := by decide +kernel
theorem dX10_order_11 : decode cX10_order 11 = .ok (.aload_n 0, 1) := by decide +kernel
theorem dX10_order_12 : decode cX10_order 12 = .ok (.invokevirtual 163, 3) := by decide +kernel
theorem dX10_order_15 : decode cX10_order 15 = .ok (.aload_n 0, 1) := by decide +kernel
theorem dX10_order_16 : decode cX10_order 16 = .ok (.iload_n 1, 1) := by decide +kernel
theorem dX10_order_17 : decode cX10_order 17 = .ok (.invokevirtual 286, 3) := by decide +kernel
theorem dX10_order_20 : decode cX10_order 20 = .ok (.istore_n 2, 1) := by decide +kernel
theorem dX10_order_21 : decode cX10_order 21 = .ok (.iload_n 2, 1) := by decide +kernel
theorem dX10_order_22 : decode cX10_order 22 = .ok (.ifCond .lt 10, 3) := by decide +kernel
theorem dX10_order_25 : decode cX10_order 25 = .ok (.aload_n 0, 1) := by decide +kernel
theorem dX10_order_26 : decode cX10_order 26 = .ok (.getfield 90, 3) := by decide +kernel
theorem dX10_order_29 : decode cX10_order 29 = .ok (.invokevirtual 289, 3) := by decide +kernel
theorem dX10_order_32 : decode cX10_order 32 = .ok (.iload_n 2, 1) := by decide +kernel
theorem dX10_order_33 : decode cX10_order 33 = .ok (.ireturn, 1) := by decide +kernel
theorem dX10_ordered_0 : decode cX10_ordered 0 = .ok (.iload_n 1, 1) := by decide +kernel
theorem dX10_ordered_1 : decode cX10_ordered 1 = .ok (.ifCond .lt 14, 3) := by decide +kernel
theorem dX10_ordered_4 : decode cX10_ordered 4 = .ok (.iload_n 1, 1) := by decide +kernel
theorem dX10_ordered_5 : decode cX10_ordered 5 = .ok (.aload_n 0, 1) := by decide +kernel
theorem dX10_ordered_6 : decode cX10_ordered 6 = .ok (.getfield 90, 3) := by decide +kernel
theorem dX10_ordered_9 : decode cX10_ordered 9 = .ok (.getfield 292, 3) := by decide +kernel
theorem dX10_ordered_12 : decode cX10_ordered 12 = .ok (.if_icmp .lt 7, 3) := by decide +kernel
theorem dX10_ordered_15 : decode cX10_ordered 15 = .ok (.iconst (-1), 1) := by decide +kernel
theorem dX10_ordered_16 : decode cX10_ordered 16 = .ok (.goto 12, 3) := by decide +kernel
theorem dX10_ordered_19 : decode cX10_ordered 19 = .ok (.aload_n 0, 1) := by decide +kernel
theorem dX10_ordered_20 : decode cX10_ordered 20 = .ok (.getfield 90, 3) := by decide +kernel
theorem dX10_ordered_23 : decode cX10_ordered 23 = .ok (.getfield 295, 3) := by decide +kernel
theorem dX10_ordered_26 : decode cX10_ordered 26 = .ok (.iload_n 1, 1) := by decide +kernel
theorem dX10_ordered_27 : decode cX10_ordered 27 = .ok (.iaload, 1) := by decide +kernel
theorem dX10_ordered_28 : decode cX10_ordered 28 = .ok (.ireturn, 1) := by decide +kernel
theorem dX10_stands_0 : decode cX10_stands 0 = .ok (.aload_n 0, 1) := by decide +kernel
theorem dX10_stands_1 : decode cX10_stands 1 = .ok (.iload_n 1, 1) := by decide +kernel
theorem dX10_stands_2 : decode cX10_stands 2 = .ok (.invokevirtual 159, 3) := by decide +kernel
theorem dX10_stands_5 : decode cX10_stands 5 = .ok (.ifCond .eq 6, 3) := by decide +kernel
theorem dX10_stands_8 : decode cX10_stands 8 = .ok (.bipush (-2), 2) := by decide +kernel
theorem dX10_stands_10 : decode cX10_stands 10 = .ok (.ireturn, 1) := by decide +kernel
theorem dX10_stands_11 : decode cX10_stands 11 = .ok (.aload_n 0, 1) := by decide +kernel
theorem dX10_stands_12 : decode cX10_stands 12 = .ok (.invokevirtual 163, 3) := by decide +kernel
theorem dX10_stands_15 : decode cX10_stands 15 = .ok (.iconst 0, 1) := by decide +kernel
theorem dX10_stands_16 : decode cX10_stands 16 = .ok (.istore_n 2, 1) := by decide +kernel
theorem dX10_stands_17 : decode cX10_stands 17 = .ok (.iconst 0, 1) := by decide +kernel
theorem dX10_stands_18 : decode cX10_stands 18 = .ok (.istore_n 3, 1) := by decide +kernel
theorem dX10_stands_19 : decode cX10_stands 19 = .ok (.iload_n 3, 1) := by decide +kernel
theorem dX10_stands_20 : decode cX10_stands 20 = .ok (.aload_n 0, 1) := by decide +kernel
theorem dX10_stands_21 : decode cX10_stands 21 = .ok (.getfield 45, 3) := by decide +kernel
theorem dX10_stands_24 : decode cX10_stands 24 = .ok (.getfield 149, 3) := by decide +kernel
theorem dX10_stands_27 : decode cX10_stands 27 = .ok (.if_icmp .ge 31, 3) := by decide +kernel
theorem dX10_stands_30 : decode cX10_stands 30 = .ok (.aload_n 0, 1) := by decide +kernel
theorem dX10_stands_31 : decode cX10_stands 31 = .ok (.getfield 76, 3) := by decide +kernel
theorem dX10_stands_34 : decode cX10_stands 34 = .ok (.getfield 181, 3) := by decide +kernel
theorem dX10_stands_37 : decode cX10_stands 37 = .ok (.iload_n 3, 1) := by decide +kernel
theorem dX10_stands_38 : decode cX10_stands 38 = .ok (.iaload, 1) := by decide +kernel
theorem dX10_stands_39 : decode cX10_stands 39 = .ok (.iload_n 1, 1) := by decide +kernel
theorem dX10_stands_40 : decode cX10_stands 40 = .ok (.if_icmp .ne 12, 3) := by decide +kernel
theorem dX10_stands_43 : decode cX10_stands 43 = .ok (.iload_n 2, 1) := by decide +kernel
theorem dX10_stands_44 : decode cX10_stands 44 = .ok (.iload_n 1, 1) := by decide +kernel
theorem dX10_stands_45 : decode cX10_stands 45 = .ok (.iload_n 3, 1) := by decide +kernel
theorem dX10_stands_46 : decode cX10_stands 46 = .ok (.isub, 1) := by decide +kernel
theorem dX10_stands_47 : decode cX10_stands 47 = .ok (.invokestatic 256, 3) := by decide +kernel
theorem dX10_stands_50 : decode cX10_stands 50 = .ok (.iadd, 1) := by decide +kernel
theorem dX10_stands_51 : decode cX10_stands 51 = .ok (.istore_n 2, 1) := by decide +kernel
theorem dX10_stands_52 : decode cX10_stands 52 = .ok (.iinc 3 1, 3) := by decide +kernel
theorem dX10_stands_55 : decode cX10_stands 55 = .ok (.goto (-36), 3) := by decide +kernel
theorem dX10_stands_58 : decode cX10_stands 58 = .ok (.iload_n 2, 1) := by decide +kernel
theorem dX10_stands_59 : decode cX10_stands 59 = .ok (.ireturn, 1) := by decide +kernel
theorem dX10_arrange_0 : decode cX10_arrange 0 = .ok (.aload_n 0, 1) := by decide +kernel
theorem dX10_arrange_1 : decode cX10_arrange 1 = .ok (.iload_n 1, 1) := by decide +kernel
theorem dX10_arrange_2 : decode cX10_arrange 2 = .ok (.invokevirtual 159, 3) := by decide +kernel
theorem dX10_arrange_5 : decode cX10_arrange 5 = .ok (.ifCond .eq 6, 3) := by decide +kernel
theorem dX10_arrange_8 : decode cX10_arrange 8 = .ok (.bipush (-2), 2) := by decide +kernel
theorem dX10_arrange_10 : decode cX10_arrange 10 = .ok (.ireturn, 1) := by decide +kernel
theorem dX10_arrange_11 : decode cX10_arrange 11 = .ok (.aload_n 0, 1) := by decide +kernel
theorem dX10_arrange_12 : decode cX10_arrange 12 = .ok (.invokevirtual 163, 3) := by decide +kernel
theorem dX10_arrange_15 : decode cX10_arrange 15 = .ok (.aload_n 0, 1) := by decide +kernel
theorem dX10_arrange_16 : decode cX10_arrange 16 = .ok (.iload_n 1, 1) := by decide +kernel
theorem dX10_arrange_17 : decode cX10_arrange 17 = .ok (.invokevirtual 286, 3) := by decide +kernel
theorem dX10_arrange_20 : decode cX10_arrange 20 = .ok (.ifCond .ge 5, 3) := by decide +kernel
theorem dX10_arrange_23 : decode cX10_arrange 23 = .ok (.iconst (-1), 1) := by decide +kernel
theorem dX10_arrange_24 : decode cX10_arrange 24 = .ok (.ireturn, 1) := by decide +kernel
theorem dX10_arrange_25 : decode cX10_arrange 25 = .ok (.aload_n 0, 1) := by decide +kernel
theorem dX10_arrange_26 : decode cX10_arrange 26 = .ok (.getfield 62, 3) := by decide +kernel
theorem dX10_arrange_29 : decode cX10_arrange 29 = .ok (.aload_n 0, 1) := by decide +kernel
theorem dX10_arrange_30 : decode cX10_arrange 30 = .ok (.getfield 76, 3) := by decide +kernel
theorem dX10_arrange_33 : decode cX10_arrange 33 = .ok (.getfield 298, 3) := by decide +kernel
theorem dX10_arrange_36 : decode cX10_arrange 36 = .ok (.iload_n 1, 1) := by decide +kernel
theorem dX10_arrange_37 : decode cX10_arrange 37 = .ok (.iaload, 1) := by decide +kernel
theorem dX10_arrange_38 : decode cX10_arrange 38 = .ok (.invokevirtual 301, 3) := by decide +kernel
theorem dX10_arrange_41 : decode cX10_arrange 41 = .ok (.iconst 0, 1) := by decide +kernel
theorem dX10_arrange_42 : decode cX10_arrange 42 = .ok (.istore_n 2, 1) := by decide +kernel
theorem dX10_arrange_43 : decode cX10_arrange 43 = .ok (.iload_n 2, 1) := by decide +kernel
theorem dX10_arrange_44 : decode cX10_arrange 44 = .ok (.aload_n 0, 1) := by decide +kernel
theorem dX10_arrange_45 : decode cX10_arrange 45 = .ok (.getfield 90, 3) := by decide +kernel
theorem dX10_arrange_48 : decode cX10_arrange 48 = .ok (.getfield 304, 3) := by decide +kernel
theorem dX10_arrange_51 : decode cX10_arrange 51 = .ok (.if_icmp .ge 44, 3) := by decide +kernel
theorem dX10_arrange_54 : decode cX10_arrange 54 = .ok (.aload_n 0, 1) := by decide +kernel
theorem dX10_arrange_55 : decode cX10_arrange 55 = .ok (.getfield 90, 3) := by decide +kernel
theorem dX10_arrange_58 : decode cX10_arrange 58 = .ok (.getfield 307, 3) := by decide +kernel
theorem dX10_arrange_61 : decode cX10_arrange 61 = .ok (.iload_n 2, 1) := by decide +kernel
theorem dX10_arrange_62 : decode cX10_arrange 62 = .ok (.iaload, 1) := by decide +kernel
theorem dX10_arrange_63 : decode cX10_arrange 63 = .ok (.istore_n 3, 1) := by decide +kernel
theorem dX10_arrange_64 : decode cX10_arrange 64 = .ok (.aload_n 0, 1) := by decide +kernel
theorem dX10_arrange_65 : decode cX10_arrange 65 = .ok (.getfield 62, 3) := by decide +kernel
theorem dX10_arrange_68 : decode cX10_arrange 68 = .ok (.aload_n 0, 1) := by decide +kernel
theorem dX10_arrange_69 : decode cX10_arrange 69 = .ok (.getfield 90, 3) := by decide +kernel
theorem dX10_arrange_72 : decode cX10_arrange 72 = .ok (.getfield 310, 3) := by decide +kernel
theorem dX10_arrange_75 : decode cX10_arrange 75 = .ok (.iload_n 3, 1) := by decide +kernel
theorem dX10_arrange_76 : decode cX10_arrange 76 = .ok (.iaload, 1) := by decide +kernel
theorem dX10_arrange_77 : decode cX10_arrange 77 = .ok (.aload_n 0, 1) := by decide +kernel
theorem dX10_arrange_78 : decode cX10_arrange 78 = .ok (.getfield 90, 3) := by decide +kernel
theorem dX10_arrange_81 : decode cX10_arrange 81 = .ok (.getfield 313, 3) := by decide +kernel
theorem dX10_arrange_84 : decode cX10_arrange 84 = .ok (.iload_n 3, 1) := by decide +kernel
theorem dX10_arrange_85 : decode cX10_arrange 85 = .ok (.iaload, 1) := by decide +kernel
theorem dX10_arrange_86 : decode cX10_arrange 86 = .ok (.invokevirtual 315, 3) := by decide +kernel
theorem dX10_arrange_89 : decode cX10_arrange 89 = .ok (.iinc 2 1, 3) := by decide +kernel
theorem dX10_arrange_92 : decode cX10_arrange 92 = .ok (.goto (-49), 3) := by decide +kernel
theorem dX10_arrange_95 : decode cX10_arrange 95 = .ok (.aload_n 0, 1) := by decide +kernel
theorem dX10_arrange_96 : decode cX10_arrange 96 = .ok (.iconst 1, 1) := by decide +kernel
theorem dX10_arrange_97 : decode cX10_arrange 97 = .ok (.putfield 136, 3) := by decide +kernel
theorem dX10_arrange_100 : decode cX10_arrange 100 = .ok (.aload_n 0, 1) := by decide +kernel
theorem dX10_arrange_101 : decode cX10_arrange 101 = .ok (.getfield 62, 3) := by decide +kernel
theorem dX10_arrange_104 : decode cX10_arrange 104 = .ok (.invokevirtual 318, 3) := by decide +kernel
theorem dX10_arrange_107 : decode cX10_arrange 107 = .ok (.ireturn, 1) := by decide +kernel
theorem dX10_move_0 : decode cX10_move 0 = .ok (.aload_n 0, 1) := by decide +kernel
theorem dX10_move_1 : decode cX10_move 1 = .ok (.getfield 45, 3) := by decide +kernel
theorem dX10_move_4 : decode cX10_move 4 = .ok (.getfield 149, 3) := by decide +kernel
theorem dX10_move_7 : decode cX10_move 7 = .ok (.istore_n 3, 1) := by decide +kernel
theorem dX10_move_8 : decode cX10_move 8 = .ok (.aload_n 0, 1) := by decide +kernel
theorem dX10_move_9 : decode cX10_move 9 = .ok (.iload_n 1, 1) := by decide +kernel
theorem dX10_move_10 : decode cX10_move 10 = .ok (.invokevirtual 159, 3) := by decide +kernel
theorem dX10_move_13 : decode cX10_move 13 = .ok (.ifCond .ne 12, 3) := by decide +kernel
theorem dX10_move_16 : decode cX10_move 16 = .ok (.iload_n 2, 1) := by decide +kernel
theorem dX10_move_17 : decode cX10_move 17 = .ok (.ifCond .lt 8, 3) := by decide +kernel
theorem dX10_move_20 : decode cX10_move 20 = .ok (.iload_n 2, 1) := by decide +kernel
theorem dX10_move_21 : decode cX10_move 21 = .ok (.iload_n 3, 1) := by decide +kernel
theorem dX10_move_22 : decode cX10_move 22 = .ok (.if_icmp .le 6, 3) := by decide +kernel
theorem dX10_move_25 : decode cX10_move 25 = .ok (.bipush (-2), 2) := by decide +kernel
theorem dX10_move_27 : decode cX10_move 27 = .ok (.ireturn, 1) := by decide +kernel
theorem dX10_move_28 : decode cX10_move 28 = .ok (.aload_n 0, 1) := by decide +kernel
theorem dX10_move_29 : decode cX10_move 29 = .ok (.invokevirtual 163, 3) := by decide +kernel
theorem dX10_move_32 : decode cX10_move 32 = .ok (.aload_n 0, 1) := by decide +kernel
theorem dX10_move_33 : decode cX10_move 33 = .ok (.getfield 76, 3) := by decide +kernel
theorem dX10_move_36 : decode cX10_move 36 = .ok (.getfield 298, 3) := by decide +kernel
theorem dX10_move_39 : decode cX10_move 39 = .ok (.iload_n 1, 1) := by decide +kernel
theorem dX10_move_40 : decode cX10_move 40 = .ok (.iaload, 1) := by decide +kernel
theorem dX10_move_41 : decode cX10_move 41 = .ok (.istore 4, 2) := by decide +kernel
theorem dX10_move_43 : decode cX10_move 43 = .ok (.iload 4, 2) := by decide +kernel
theorem dX10_move_45 : decode cX10_move 45 = .ok (.aload_n 0, 1) := by decide +kernel
theorem dX10_move_46 : decode cX10_move 46 = .ok (.getfield 76, 3) := by decide +kernel
theorem dX10_move_49 : decode cX10_move 49 = .ok (.getfield 187, 3) := by decide +kernel
theorem dX10_move_52 : decode cX10_move 52 = .ok (.iload_n 1, 1) := by decide +kernel
theorem dX10_move_53 : decode cX10_move 53 = .ok (.iaload, 1) := by decide +kernel
theorem dX10_move_54 : decode cX10_move 54 = .ok (.iadd, 1) := by decide +kernel
theorem dX10_move_55 : decode cX10_move 55 = .ok (.istore 5, 2) := by decide +kernel
theorem dX10_move_57 : decode cX10_move 57 = .ok (.iload_n 2, 1) := by decide +kernel
theorem dX10_move_58 : decode cX10_move 58 = .ok (.iload 4, 2) := by decide +kernel
theorem dX10_move_60 : decode cX10_move 60 = .ok (.if_icmp .lt 12, 3) := by decide +kernel
theorem dX10_move_63 : decode cX10_move 63 = .ok (.iload_n 2, 1) := by decide +kernel
theorem dX10_move_64 : decode cX10_move 64 = .ok (.iload 5, 2) := by decide +kernel
theorem dX10_move_66 : decode cX10_move 66 = .ok (.if_icmp .ge 6, 3) := by decide +kernel
theorem dX10_move_69 : decode cX10_move 69 = .ok (.bipush (-2), 2) := by decide +kernel
theorem dX10_move_71 : decode cX10_move 71 = .ok (.ireturn, 1) := by decide +kernel
theorem dX10_move_72 : decode cX10_move 72 = .ok (.iload_n 2, 1) := by decide +kernel
theorem dX10_move_73 : decode cX10_move 73 = .ok (.iload 4, 2) := by decide +kernel
theorem dX10_move_75 : decode cX10_move 75 = .ok (.if_icmp .ge 40, 3) := by decide +kernel
theorem dX10_move_78 : decode cX10_move 78 = .ok (.aload_n 0, 1) := by decide +kernel
theorem dX10_move_79 : decode cX10_move 79 = .ok (.getfield 62, 3) := by decide +kernel
theorem dX10_move_82 : decode cX10_move 82 = .ok (.iload_n 2, 1) := by decide +kernel
theorem dX10_move_83 : decode cX10_move 83 = .ok (.invokevirtual 301, 3) := by decide +kernel
theorem dX10_move_86 : decode cX10_move 86 = .ok (.aload_n 0, 1) := by decide +kernel
theorem dX10_move_87 : decode cX10_move 87 = .ok (.getfield 62, 3) := by decide +kernel
theorem dX10_move_90 : decode cX10_move 90 = .ok (.iload 4, 2) := by decide +kernel
theorem dX10_move_92 : decode cX10_move 92 = .ok (.iload 5, 2) := by decide +kernel
theorem dX10_move_94 : decode cX10_move 94 = .ok (.iload 4, 2) := by decide +kernel
theorem dX10_move_96 : decode cX10_move 96 = .ok (.isub, 1) := by decide +kernel
theorem dX10_move_97 : decode cX10_move 97 = .ok (.invokevirtual 315, 3) := by decide +kernel
theorem dX10_move_100 : decode cX10_move 100 = .ok (.aload_n 0, 1) := by decide +kernel
theorem dX10_move_101 : decode cX10_move 101 = .ok (.getfield 62, 3) := by decide +kernel
theorem dX10_move_104 : decode cX10_move 104 = .ok (.iload_n 2, 1) := by decide +kernel
theorem dX10_move_105 : decode cX10_move 105 = .ok (.iload 4, 2) := by decide +kernel
theorem dX10_move_107 : decode cX10_move 107 = .ok (.iload_n 2, 1) := by decide +kernel
theorem dX10_move_108 : decode cX10_move 108 = .ok (.isub, 1) := by decide +kernel
theorem dX10_move_109 : decode cX10_move 109 = .ok (.invokevirtual 315, 3) := by decide +kernel
theorem dX10_move_112 : decode cX10_move 112 = .ok (.goto 39, 3) := by decide +kernel
theorem dX10_move_115 : decode cX10_move 115 = .ok (.aload_n 0, 1) := by decide +kernel
theorem dX10_move_116 : decode cX10_move 116 = .ok (.getfield 62, 3) := by decide +kernel
theorem dX10_move_119 : decode cX10_move 119 = .ok (.iload 4, 2) := by decide +kernel
theorem dX10_move_121 : decode cX10_move 121 = .ok (.invokevirtual 301, 3) := by decide +kernel
theorem dX10_move_124 : decode cX10_move 124 = .ok (.aload_n 0, 1) := by decide +kernel
theorem dX10_move_125 : decode cX10_move 125 = .ok (.getfield 62, 3) := by decide +kernel
theorem dX10_move_128 : decode cX10_move 128 = .ok (.iload 5, 2) := by decide +kernel
theorem dX10_move_130 : decode cX10_move 130 = .ok (.iload_n 2, 1) := by decide +kernel
theorem dX10_move_131 : decode cX10_move 131 = .ok (.iload 5, 2) := by decide +kernel
theorem dX10_move_133 : decode cX10_move 133 = .ok (.isub, 1) := by decide +kernel
theorem dX10_move_134 : decode cX10_move 134 = .ok (.invokevirtual 315, 3) := by decide +kernel
theorem dX10_move_137 : decode cX10_move 137 = .ok (.aload_n 0, 1) := by decide +kernel
theorem dX10_move_138 : decode cX10_move 138 = .ok (.getfield 62, 3) := by decide +kernel
theorem dX10_move_141 : decode cX10_move 141 = .ok (.iload 4, 2) := by decide +kernel
theorem dX10_move_143 : decode cX10_move 143 = .ok (.iload 5, 2) := by decide +kernel
theorem dX10_move_145 : decode cX10_move 145 = .ok (.iload 4, 2) := by decide +kernel
theorem dX10_move_147 : decode cX10_move 147 = .ok (.isub, 1) := by decide +kernel
theorem dX10_move_148 : decode cX10_move 148 = .ok (.invokevirtual 315, 3) := by decide +kernel
theorem dX10_move_151 : decode cX10_move 151 = .ok (.aload_n 0, 1) := by decide +kernel
theorem dX10_move_152 : decode cX10_move 152 = .ok (.iconst 1, 1) := by decide +kernel
theorem dX10_move_153 : decode cX10_move 153 = .ok (.putfield 136, 3) := by decide +kernel
theorem dX10_move_156 : decode cX10_move 156 = .ok (.aload_n 0, 1) := by decide +kernel
theorem dX10_move_157 : decode cX10_move 157 = .ok (.getfield 62, 3) := by decide +kernel
theorem dX10_move_160 : decode cX10_move 160 = .ok (.invokevirtual 318, 3) := by decide +kernel
theorem dX10_move_163 : decode cX10_move 163 = .ok (.ireturn, 1) := by decide +kernel
theorem dX10_count_0 : decode cX10_count 0 = .ok (.iload_n 1, 1) := by decide +kernel
theorem dX10_count_1 : decode cX10_count 1 = .ok (.tableswitch 108 0 7 #[47, 55, 63, 71, 79, 87, 95, 103], 47) := by decide +kernel
theorem dX10_count_48 : decode cX10_count 48 = .ok (.aload_n 0, 1) := by decide +kernel
theorem dX10_count_49 : decode cX10_count 49 = .ok (.getfield 45, 3) := by decide +kernel
theorem dX10_count_52 : decode cX10_count 52 = .ok (.getfield 149, 3) := by decide +kernel
theorem dX10_count_55 : decode cX10_count 55 = .ok (.ireturn, 1) := by decide +kernel
theorem dX10_count_56 : decode cX10_count 56 = .ok (.aload_n 0, 1) := by decide +kernel
theorem dX10_count_57 : decode cX10_count 57 = .ok (.getfield 45, 3) := by decide +kernel
theorem dX10_count_60 : decode cX10_count 60 = .ok (.invokevirtual 321, 3) := by decide +kernel
theorem dX10_count_63 : decode cX10_count 63 = .ok (.ireturn, 1) := by decide +kernel
theorem dX10_count_64 : decode cX10_count 64 = .ok (.aload_n 0, 1) := by decide +kernel
theorem dX10_count_65 : decode cX10_count 65 = .ok (.getfield 21, 3) := by decide +kernel
theorem dX10_count_68 : decode cX10_count 68 = .ok (.getfield 135, 3) := by decide +kernel
theorem dX10_count_71 : decode cX10_count 71 = .ok (.ireturn, 1) := by decide +kernel
theorem dX10_count_72 : decode cX10_count 72 = .ok (.aload_n 0, 1) := by decide +kernel
theorem dX10_count_73 : decode cX10_count 73 = .ok (.getfield 25, 3) := by decide +kernel
theorem dX10_count_76 : decode cX10_count 76 = .ok (.getfield 135, 3) := by decide +kernel
theorem dX10_count_79 : decode cX10_count 79 = .ok (.ireturn, 1) := by decide +kernel
theorem dX10_count_80 : decode cX10_count 80 = .ok (.aload_n 0, 1) := by decide +kernel
theorem dX10_count_81 : decode cX10_count 81 = .ok (.getfield 28, 3) := by decide +kernel
theorem dX10_count_84 : decode cX10_count 84 = .ok (.getfield 135, 3) := by decide +kernel
theorem dX10_count_87 : decode cX10_count 87 = .ok (.ireturn, 1) := by decide +kernel
theorem dX10_count_88 : decode cX10_count 88 = .ok (.aload_n 0, 1) := by decide +kernel
theorem dX10_count_89 : decode cX10_count 89 = .ok (.getfield 83, 3) := by decide +kernel
theorem dX10_count_92 : decode cX10_count 92 = .ok (.getfield 155, 3) := by decide +kernel
theorem dX10_count_95 : decode cX10_count 95 = .ok (.ireturn, 1) := by decide +kernel
theorem dX10_count_96 : decode cX10_count 96 = .ok (.aload_n 0, 1) := by decide +kernel
theorem dX10_count_97 : decode cX10_count 97 = .ok (.getfield 12, 3) := by decide +kernel
theorem dX10_count_100 : decode cX10_count 100 = .ok (.getfield 94, 3) := by decide +kernel
theorem dX10_count_103 : decode cX10_count 103 = .ok (.ireturn, 1) := by decide +kernel
theorem dX10_count_104 : decode cX10_count 104 = .ok (.aload_n 0, 1) := by decide +kernel
theorem dX10_count_105 : decode cX10_count 105 = .ok (.invokevirtual 324, 3) := by decide +kernel
theorem dX10_count_108 : decode cX10_count 108 = .ok (.ireturn, 1) := by decide +kernel
theorem dX10_count_109 : decode cX10_count 109 = .ok (.iload_n 1, 1) := by decide +kernel
theorem dX10_count_110 : decode cX10_count 110 = .ok (.bipush 10, 2) := by decide +kernel
theorem dX10_count_112 : decode cX10_count 112 = .ok (.if_icmp .lt 21, 3) := by decide +kernel
theorem dX10_count_115 : decode cX10_count 115 = .ok (.iload_n 1, 1) := by decide +kernel
theorem dX10_count_116 : decode cX10_count 116 = .ok (.bipush 14, 2) := by decide +kernel
theorem dX10_count_118 : decode cX10_count 118 = .ok (.if_icmp .ge 15, 3) := by decide +kernel
theorem dX10_count_121 : decode cX10_count 121 = .ok (.aload_n 0, 1) := by decide +kernel
theorem dX10_count_122 : decode cX10_count 122 = .ok (.getfield 31, 3) := by decide +kernel
theorem dX10_count_125 : decode cX10_count 125 = .ok (.iload_n 1, 1) := by decide +kernel
theorem dX10_count_126 : decode cX10_count 126 = .ok (.bipush 10, 2) := by decide +kernel
theorem dX10_count_128 : decode cX10_count 128 = .ok (.isub, 1) := by decide +kernel
theorem dX10_count_129 : decode cX10_count 129 = .ok (.iaload, 1) := by decide +kernel
theorem dX10_count_130 : decode cX10_count 130 = .ok (.goto 4, 3) := by decide +kernel
theorem dX10_count_133 : decode cX10_count 133 = .ok (.iconst (-1), 1) := by decide +kernel
theorem dX10_count_134 : decode cX10_count 134 = .ok (.ireturn, 1) := by decide +kernel
theorem dX10_rootPlace_0 : decode cX10_rootPlace 0 = .ok (.aload_n 0, 1) := by decide +kernel
theorem dX10_rootPlace_1 : decode cX10_rootPlace 1 = .ok (.getfield 45, 3) := by decide +kernel
theorem dX10_rootPlace_4 : decode cX10_rootPlace 4 = .ok (.getfield 149, 3) := by decide +kernel
theorem dX10_rootPlace_7 : decode cX10_rootPlace 7 = .ok (.ifCond .ne 5, 3) := by decide +kernel
theorem dX10_rootPlace_10 : decode cX10_rootPlace 10 = .ok (.iconst (-1), 1) := by decide +kernel
theorem dX10_rootPlace_11 : decode cX10_rootPlace 11 = .ok (.ireturn, 1) := by decide +kernel
theorem dX10_rootPlace_12 : decode cX10_rootPlace 12 = .ok (.aload_n 0, 1) := by decide +kernel
theorem dX10_rootPlace_13 : decode cX10_rootPlace 13 = .ok (.invokevirtual 163, 3) := by decide +kernel
theorem dX10_rootPlace_16 : decode cX10_rootPlace 16 = .ok (.aload_n 0, 1) := by decide +kernel
theorem dX10_rootPlace_17 : decode cX10_rootPlace 17 = .ok (.getfield 76, 3) := by decide +kernel
theorem dX10_rootPlace_20 : decode cX10_rootPlace 20 = .ok (.getfield 327, 3) := by decide +kernel
theorem dX10_rootPlace_23 : decode cX10_rootPlace 23 = .ok (.ireturn, 1) := by decide +kernel
theorem dX10_findOrder_0 : decode cX10_findOrder 0 = .ok (.aload_n 0, 1) := by decide +kernel
theorem dX10_findOrder_1 : decode cX10_findOrder 1 = .ok (.getfield 76, 3) := by decide +kernel
theorem dX10_findOrder_4 : decode cX10_findOrder 4 = .ok (.getfield 184, 3) := by decide +kernel
theorem dX10_findOrder_7 : decode cX10_findOrder 7 = .ok (.iload_n 1, 1) := by decide +kernel
theorem dX10_findOrder_8 : decode cX10_findOrder 8 = .ok (.iaload, 1) := by decide +kernel
theorem dX10_findOrder_9 : decode cX10_findOrder 9 = .ok (.bipush 9, 2) := by decide +kernel
theorem dX10_findOrder_11 : decode cX10_findOrder 11 = .ok (.if_icmp .le 5, 3) := by decide +kernel
theorem dX10_findOrder_14 : decode cX10_findOrder 14 = .ok (.iconst (-1), 1) := by decide +kernel
theorem dX10_findOrder_15 : decode cX10_findOrder 15 = .ok (.ireturn, 1) := by decide +kernel
theorem dX10_findOrder_16 : decode cX10_findOrder 16 = .ok (.aload_n 0, 1) := by decide +kernel
theorem dX10_findOrder_17 : decode cX10_findOrder 17 = .ok (.getfield 90, 3) := by decide +kernel
theorem dX10_findOrder_20 : decode cX10_findOrder 20 = .ok (.invokevirtual 330, 3) := by decide +kernel
theorem dX10_findOrder_23 : decode cX10_findOrder 23 = .ok (.iconst 0, 1) := by decide +kernel
theorem dX10_findOrder_24 : decode cX10_findOrder 24 = .ok (.istore_n 2, 1) := by decide +kernel
theorem dX10_findOrder_25 : decode cX10_findOrder 25 = .ok (.iload_n 2, 1) := by decide +kernel
theorem dX10_findOrder_26 : decode cX10_findOrder 26 = .ok (.aload_n 0, 1) := by decide +kernel
theorem dX10_findOrder_27 : decode cX10_findOrder 27 = .ok (.getfield 45, 3) := by decide +kernel
theorem dX10_findOrder_30 : decode cX10_findOrder 30 = .ok (.getfield 149, 3) := by decide +kernel
theorem dX10_findOrder_33 : decode cX10_findOrder 33 = .ok (.if_icmp .ge 64, 3) := by decide +kernel
theorem dX10_findOrder_36 : decode cX10_findOrder 36 = .ok (.iload_n 2, 1) := by decide +kernel
theorem dX10_findOrder_37 : decode cX10_findOrder 37 = .ok (.iload_n 1, 1) := by decide +kernel
theorem dX10_findOrder_38 : decode cX10_findOrder 38 = .ok (.if_icmp .ne 14, 3) := by decide +kernel
theorem dX10_findOrder_41 : decode cX10_findOrder 41 = .ok (.aload_n 0, 1) := by decide +kernel
theorem dX10_findOrder_42 : decode cX10_findOrder 42 = .ok (.getfield 90, 3) := by decide +kernel
theorem dX10_findOrder_45 : decode cX10_findOrder 45 = .ok (.iload_n 1, 1) := by decide +kernel
theorem dX10_findOrder_46 : decode cX10_findOrder 46 = .ok (.invokevirtual 333, 3) := by decide +kernel
theorem dX10_findOrder_49 : decode cX10_findOrder 49 = .ok (.goto 42, 3) := by decide +kernel
theorem dX10_findOrder_52 : decode cX10_findOrder 52 = .ok (.aload_n 0, 1) := by decide +kernel
theorem dX10_findOrder_53 : decode cX10_findOrder 53 = .ok (.getfield 76, 3) := by decide +kernel
theorem dX10_findOrder_56 : decode cX10_findOrder 56 = .ok (.getfield 181, 3) := by decide +kernel
theorem dX10_findOrder_59 : decode cX10_findOrder 59 = .ok (.iload_n 2, 1) := by decide +kernel
theorem dX10_findOrder_60 : decode cX10_findOrder 60 = .ok (.iaload, 1) := by decide +kernel
theorem dX10_findOrder_61 : decode cX10_findOrder 61 = .ok (.iload_n 1, 1) := by decide +kernel
theorem dX10_findOrder_62 : decode cX10_findOrder 62 = .ok (.if_icmp .ne 29, 3) := by decide +kernel
theorem dX10_findOrder_65 : decode cX10_findOrder 65 = .ok (.aload_n 0, 1) := by decide +kernel
theorem dX10_findOrder_66 : decode cX10_findOrder 66 = .ok (.getfield 90, 3) := by decide +kernel
theorem dX10_findOrder_69 : decode cX10_findOrder 69 = .ok (.iload_n 2, 1) := by decide +kernel
theorem dX10_findOrder_70 : decode cX10_findOrder 70 = .ok (.aload_n 0, 1) := by decide +kernel
theorem dX10_findOrder_71 : decode cX10_findOrder 71 = .ok (.getfield 76, 3) := by decide +kernel
theorem dX10_findOrder_74 : decode cX10_findOrder 74 = .ok (.getfield 298, 3) := by decide +kernel
theorem dX10_findOrder_77 : decode cX10_findOrder 77 = .ok (.iload_n 2, 1) := by decide +kernel
theorem dX10_findOrder_78 : decode cX10_findOrder 78 = .ok (.iaload, 1) := by decide +kernel
theorem dX10_findOrder_79 : decode cX10_findOrder 79 = .ok (.aload_n 0, 1) := by decide +kernel
theorem dX10_findOrder_80 : decode cX10_findOrder 80 = .ok (.getfield 76, 3) := by decide +kernel
theorem dX10_findOrder_83 : decode cX10_findOrder 83 = .ok (.getfield 187, 3) := by decide +kernel
theorem dX10_findOrder_86 : decode cX10_findOrder 86 = .ok (.iload_n 2, 1) := by decide +kernel
theorem dX10_findOrder_87 : decode cX10_findOrder 87 = .ok (.iaload, 1) := by decide +kernel
theorem dX10_findOrder_88 : decode cX10_findOrder 88 = .ok (.invokevirtual 336, 3) := by decide +kernel
theorem dX10_findOrder_91 : decode cX10_findOrder 91 = .ok (.iinc 2 1, 3) := by decide +kernel
theorem dX10_findOrder_94 : decode cX10_findOrder 94 = .ok (.goto (-69), 3) := by decide +kernel
theorem dX10_findOrder_97 : decode cX10_findOrder 97 = .ok (.aload_n 0, 1) := by decide +kernel
theorem dX10_findOrder_98 : decode cX10_findOrder 98 = .ok (.iload_n 1, 1) := by decide +kernel
theorem dX10_findOrder_99 : decode cX10_findOrder 99 = .ok (.invokevirtual 340, 3) := by decide +kernel
theorem dX10_findOrder_102 : decode cX10_findOrder 102 = .ok (.aload_n 0, 1) := by decide +kernel
theorem dX10_findOrder_103 : decode cX10_findOrder 103 = .ok (.getfield 90, 3) := by decide +kernel
theorem dX10_findOrder_106 : decode cX10_findOrder 106 = .ok (.invokevirtual 343, 3) := by decide +kernel
theorem dX10_findOrder_109 : decode cX10_findOrder 109 = .ok (.ifCond .eq 13, 3) := by decide +kernel
theorem dX10_findOrder_112 : decode cX10_findOrder 112 = .ok (.aload_n 0, 1) := by decide +kernel
theorem dX10_findOrder_113 : decode cX10_findOrder 113 = .ok (.getfield 90, 3) := by decide +kernel
theorem dX10_findOrder_116 : decode cX10_findOrder 116 = .ok (.invokevirtual 346, 3) := by decide +kernel
theorem dX10_findOrder_119 : decode cX10_findOrder 119 = .ok (.goto 4, 3) := by decide +kernel
theorem dX10_findOrder_122 : decode cX10_findOrder 122 = .ok (.iconst (-1), 1) := by decide +kernel
theorem dX10_findOrder_123 : decode cX10_findOrder 123 = .ok (.ireturn, 1) := by decide +kernel
theorem dX10_bindUnits_0 : decode cX10_bindUnits 0 = .ok (.iconst 0, 1) := by decide +kernel
theorem dX10_bindUnits_1 : decode cX10_bindUnits 1 = .ok (.istore_n 2, 1) := by decide +kernel
theorem dX10_bindUnits_2 : decode cX10_bindUnits 2 = .ok (.iload_n 2, 1) := by decide +kernel
theorem dX10_bindUnits_3 : decode cX10_bindUnits 3 = .ok (.aload_n 0, 1) := by decide +kernel
theorem dX10_bindUnits_4 : decode cX10_bindUnits 4 = .ok (.getfield 90, 3) := by decide +kernel
theorem dX10_bindUnits_7 : decode cX10_bindUnits 7 = .ok (.getfield 304, 3) := by decide +kernel
theorem dX10_bindUnits_10 : decode cX10_bindUnits 10 = .ok (.if_icmp .ge 44, 3) := by decide +kernel
theorem dX10_bindUnits_13 : decode cX10_bindUnits 13 = .ok (.aload_n 0, 1) := by decide +kernel
theorem dX10_bindUnits_14 : decode cX10_bindUnits 14 = .ok (.getfield 90, 3) := by decide +kernel
theorem dX10_bindUnits_17 : decode cX10_bindUnits 17 = .ok (.getfield 347, 3) := by decide +kernel
theorem dX10_bindUnits_20 : decode cX10_bindUnits 20 = .ok (.iload_n 2, 1) := by decide +kernel
theorem dX10_bindUnits_21 : decode cX10_bindUnits 21 = .ok (.iaload, 1) := by decide +kernel
theorem dX10_bindUnits_22 : decode cX10_bindUnits 22 = .ok (.istore_n 3, 1) := by decide +kernel
theorem dX10_bindUnits_23 : decode cX10_bindUnits 23 = .ok (.iload_n 3, 1) := by decide +kernel
theorem dX10_bindUnits_24 : decode cX10_bindUnits 24 = .ok (.iload_n 1, 1) := by decide +kernel
theorem dX10_bindUnits_25 : decode cX10_bindUnits 25 = .ok (.if_icmp .eq 23, 3) := by decide +kernel
theorem dX10_bindUnits_28 : decode cX10_bindUnits 28 = .ok (.aload_n 0, 1) := by decide +kernel
theorem dX10_bindUnits_29 : decode cX10_bindUnits 29 = .ok (.iload_n 3, 1) := by decide +kernel
theorem dX10_bindUnits_30 : decode cX10_bindUnits 30 = .ok (.invokevirtual 239, 3) := by decide +kernel
theorem dX10_bindUnits_33 : decode cX10_bindUnits 33 = .ok (.invokestatic 242, 3) := by decide +kernel
theorem dX10_bindUnits_36 : decode cX10_bindUnits 36 = .ok (.ifCond .eq 12, 3) := by decide +kernel
theorem dX10_bindUnits_39 : decode cX10_bindUnits 39 = .ok (.aload_n 0, 1) := by decide +kernel
theorem dX10_bindUnits_40 : decode cX10_bindUnits 40 = .ok (.getfield 90, 3) := by decide +kernel
theorem dX10_bindUnits_43 : decode cX10_bindUnits 43 = .ok (.iload_n 1, 1) := by decide +kernel
theorem dX10_bindUnits_44 : decode cX10_bindUnits 44 = .ok (.iload_n 3, 1) := by decide +kernel
theorem dX10_bindUnits_45 : decode cX10_bindUnits 45 = .ok (.invokevirtual 350, 3) := by decide +kernel
theorem dX10_bindUnits_48 : decode cX10_bindUnits 48 = .ok (.iinc 2 1, 3) := by decide +kernel
theorem dX10_bindUnits_51 : decode cX10_bindUnits 51 = .ok (.goto (-49), 3) := by decide +kernel
theorem dX10_bindUnits_54 : decode cX10_bindUnits 54 = .ok (.iconst 0, 1) := by decide +kernel
theorem dX10_bindUnits_55 : decode cX10_bindUnits 55 = .ok (.istore_n 2, 1) := by decide +kernel
theorem dX10_bindUnits_56 : decode cX10_bindUnits 56 = .ok (.iload_n 2, 1) := by decide +kernel
theorem dX10_bindUnits_57 : decode cX10_bindUnits 57 = .ok (.aload_n 0, 1) := by decide +kernel
theorem dX10_bindUnits_58 : decode cX10_bindUnits 58 = .ok (.getfield 83, 3) := by decide +kernel
theorem dX10_bindUnits_61 : decode cX10_bindUnits 61 = .ok (.getfield 155, 3) := by decide +kernel
theorem dX10_bindUnits_64 : decode cX10_bindUnits 64 = .ok (.if_icmp .ge 48, 3) := by decide +kernel
theorem dX10_bindUnits_67 : decode cX10_bindUnits 67 = .ok (.aload_n 0, 1) := by decide +kernel
theorem dX10_bindUnits_68 : decode cX10_bindUnits 68 = .ok (.getfield 90, 3) := by decide +kernel
theorem dX10_bindUnits_71 : decode cX10_bindUnits 71 = .ok (.aload_n 0, 1) := by decide +kernel
theorem dX10_bindUnits_72 : decode cX10_bindUnits 72 = .ok (.getfield 62, 3) := by decide +kernel
theorem dX10_bindUnits_75 : decode cX10_bindUnits 75 = .ok (.aload_n 0, 1) := by decide +kernel
theorem dX10_bindUnits_76 : decode cX10_bindUnits 76 = .ok (.getfield 83, 3) := by decide +kernel
theorem dX10_bindUnits_79 : decode cX10_bindUnits 79 = .ok (.getfield 353, 3) := by decide +kernel
theorem dX10_bindUnits_82 : decode cX10_bindUnits 82 = .ok (.iload_n 2, 1) := by decide +kernel
theorem dX10_bindUnits_83 : decode cX10_bindUnits 83 = .ok (.iaload, 1) := by decide +kernel
theorem dX10_bindUnits_84 : decode cX10_bindUnits 84 = .ok (.invokevirtual 354, 3) := by decide +kernel
theorem dX10_bindUnits_87 : decode cX10_bindUnits 87 = .ok (.aload_n 0, 1) := by decide +kernel
theorem dX10_bindUnits_88 : decode cX10_bindUnits 88 = .ok (.getfield 62, 3) := by decide +kernel
theorem dX10_bindUnits_91 : decode cX10_bindUnits 91 = .ok (.aload_n 0, 1) := by decide +kernel
theorem dX10_bindUnits_92 : decode cX10_bindUnits 92 = .ok (.getfield 83, 3) := by decide +kernel
theorem dX10_bindUnits_95 : decode cX10_bindUnits 95 = .ok (.getfield 357, 3) := by decide +kernel
theorem dX10_bindUnits_98 : decode cX10_bindUnits 98 = .ok (.iload_n 2, 1) := by decide +kernel
theorem dX10_bindUnits_99 : decode cX10_bindUnits 99 = .ok (.iaload, 1) := by decide +kernel
theorem dX10_bindUnits_100 : decode cX10_bindUnits 100 = .ok (.invokevirtual 354, 3) := by decide +kernel
theorem dX10_bindUnits_103 : decode cX10_bindUnits 103 = .ok (.invokevirtual 350, 3) := by decide +kernel
theorem dX10_bindUnits_106 : decode cX10_bindUnits 106 = .ok (.iinc 2 1, 3) := by decide +kernel
theorem dX10_bindUnits_109 : decode cX10_bindUnits 109 = .ok (.goto (-53), 3) := by decide +kernel
theorem dX10_bindUnits_112 : decode cX10_bindUnits 112 = .ok (.return_, 1) := by decide +kernel
theorem dX10_smallLetter_0 : decode cX10_smallLetter 0 = .ok (.iload_n 0, 1) := by decide +kernel
theorem dX10_smallLetter_1 : decode cX10_smallLetter 1 = .ok (.bipush 65, 2) := by decide +kernel
theorem dX10_smallLetter_3 : decode cX10_smallLetter 3 = .ok (.if_icmp .lt 16, 3) := by decide +kernel
theorem dX10_smallLetter_6 : decode cX10_smallLetter 6 = .ok (.iload_n 0, 1) := by decide +kernel
theorem dX10_smallLetter_7 : decode cX10_smallLetter 7 = .ok (.bipush 90, 2) := by decide +kernel
theorem dX10_smallLetter_9 : decode cX10_smallLetter 9 = .ok (.if_icmp .gt 10, 3) := by decide +kernel
theorem dX10_smallLetter_12 : decode cX10_smallLetter 12 = .ok (.iload_n 0, 1) := by decide +kernel
theorem dX10_smallLetter_13 : decode cX10_smallLetter 13 = .ok (.bipush 32, 2) := by decide +kernel
theorem dX10_smallLetter_15 : decode cX10_smallLetter 15 = .ok (.iadd, 1) := by decide +kernel
theorem dX10_smallLetter_16 : decode cX10_smallLetter 16 = .ok (.goto 4, 3) := by decide +kernel
theorem dX10_smallLetter_19 : decode cX10_smallLetter 19 = .ok (.iload_n 0, 1) := by decide +kernel
theorem dX10_smallLetter_20 : decode cX10_smallLetter 20 = .ok (.ireturn, 1) := by decide +kernel
theorem dX10_isOfWords_0 : decode cX10_isOfWords 0 = .ok (.iload_n 0, 1) := by decide +kernel
theorem dX10_isOfWords_1 : decode cX10_isOfWords 1 = .ok (.bipush 97, 2) := by decide +kernel
theorem dX10_isOfWords_3 : decode cX10_isOfWords 3 = .ok (.if_icmp .lt 9, 3) := by decide +kernel
theorem dX10_isOfWords_6 : decode cX10_isOfWords 6 = .ok (.iload_n 0, 1) := by decide +kernel
theorem dX10_isOfWords_7 : decode cX10_isOfWords 7 = .ok (.bipush 122, 2) := by decide +kernel
theorem dX10_isOfWords_9 : decode cX10_isOfWords 9 = .ok (.if_icmp .le 21, 3) := by decide +kernel
theorem dX10_isOfWords_12 : decode cX10_isOfWords 12 = .ok (.iload_n 0, 1) := by decide +kernel
theorem dX10_isOfWords_13 : decode cX10_isOfWords 13 = .ok (.bipush 48, 2) := by decide +kernel
theorem dX10_isOfWords_15 : decode cX10_isOfWords 15 = .ok (.if_icmp .lt 9, 3) := by decide +kernel
theorem dX10_isOfWords_18 : decode cX10_isOfWords 18 = .ok (.iload_n 0, 1) := by decide +kernel
theorem dX10_isOfWords_19 : decode cX10_isOfWords 19 = .ok (.bipush 57, 2) := by decide +kernel
theorem dX10_isOfWords_21 : decode cX10_isOfWords 21 = .ok (.if_icmp .le 9, 3) := by decide +kernel
theorem dX10_isOfWords_24 : decode cX10_isOfWords 24 = .ok (.iload_n 0, 1) := by decide +kernel
theorem dX10_isOfWords_25 : decode cX10_isOfWords 25 = .ok (.bipush 39, 2) := by decide +kernel
theorem dX10_isOfWords_27 : decode cX10_isOfWords 27 = .ok (.if_icmp .ne 7, 3) := by decide +kernel
theorem dX10_isOfWords_30 : decode cX10_isOfWords 30 = .ok (.iconst 1, 1) := by decide +kernel
theorem dX10_isOfWords_31 : decode cX10_isOfWords 31 = .ok (.goto 4, 3) := by decide +kernel
theorem dX10_isOfWords_34 : decode cX10_isOfWords 34 = .ok (.iconst 0, 1) := by decide +kernel
theorem dX10_isOfWords_35 : decode cX10_isOfWords 35 = .ok (.ireturn, 1) := by decide +kernel
