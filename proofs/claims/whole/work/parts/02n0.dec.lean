theorem dX0_init_0 : decode cX0_init 0 = .ok (.aload_n 0, 1) := by decide +kernel
theorem dX0_init_1 : decode cX0_init 1 = .ok (.invokespecial 3, 3) := by decide +kernel
theorem dX0_init_4 : decode cX0_init 4 = .ok (.aload_n 0, 1) := by decide +kernel
theorem dX0_init_5 : decode cX0_init 5 = .ok (.bipush 24, 2) := by decide +kernel
theorem dX0_init_7 : decode cX0_init 7 = .ok (.newarray .int, 2) := by decide +kernel
theorem dX0_init_9 : decode cX0_init 9 = .ok (.putfield 9, 3) := by decide +kernel
theorem dX0_init_12 : decode cX0_init 12 = .ok (.aload_n 0, 1) := by decide +kernel
theorem dX0_init_13 : decode cX0_init 13 = .ok (.bipush 24, 2) := by decide +kernel
theorem dX0_init_15 : decode cX0_init 15 = .ok (.newarray .int, 2) := by decide +kernel
theorem dX0_init_17 : decode cX0_init 17 = .ok (.putfield 15, 3) := by decide +kernel
theorem dX0_init_20 : decode cX0_init 20 = .ok (.aload_n 0, 1) := by decide +kernel
theorem dX0_init_21 : decode cX0_init 21 = .ok (.bipush 24, 2) := by decide +kernel
theorem dX0_init_23 : decode cX0_init 23 = .ok (.newarray .int, 2) := by decide +kernel
theorem dX0_init_25 : decode cX0_init 25 = .ok (.putfield 18, 3) := by decide +kernel
theorem dX0_init_28 : decode cX0_init 28 = .ok (.aload_n 0, 1) := by decide +kernel
theorem dX0_init_29 : decode cX0_init 29 = .ok (.bipush 24, 2) := by decide +kernel
theorem dX0_init_31 : decode cX0_init 31 = .ok (.newarray .int, 2) := by decide +kernel
theorem dX0_init_33 : decode cX0_init 33 = .ok (.putfield 21, 3) := by decide +kernel
theorem dX0_init_36 : decode cX0_init 36 = .ok (.aload_n 0, 1) := by decide +kernel
theorem dX0_init_37 : decode cX0_init 37 = .ok (.iconst (-1), 1) := by decide +kernel
theorem dX0_init_38 : decode cX0_init 38 = .ok (.putfield 24, 3) := by decide +kernel
theorem dX0_init_41 : decode cX0_init 41 = .ok (.return_, 1) := by decide +kernel
theorem dX0_measure_0 : decode cX0_measure 0 = .ok (.aload_n 0, 1) := by decide +kernel
theorem dX0_measure_1 : decode cX0_measure 1 = .ok (.iconst (-1), 1) := by decide +kernel
theorem dX0_measure_2 : decode cX0_measure 2 = .ok (.putfield 24, 3) := by decide +kernel
theorem dX0_measure_5 : decode cX0_measure 5 = .ok (.iconst 0, 1) := by decide +kernel
theorem dX0_measure_6 : decode cX0_measure 6 = .ok (.istore_n 2, 1) := by decide +kernel
theorem dX0_measure_7 : decode cX0_measure 7 = .ok (.iload_n 2, 1) := by decide +kernel
theorem dX0_measure_8 : decode cX0_measure 8 = .ok (.iload_n 1, 1) := by decide +kernel
theorem dX0_measure_9 : decode cX0_measure 9 = .ok (.if_icmp .ge 30, 3) := by decide +kernel
theorem dX0_measure_12 : decode cX0_measure 12 = .ok (.aload_n 0, 1) := by decide +kernel
theorem dX0_measure_13 : decode cX0_measure 13 = .ok (.getfield 15, 3) := by decide +kernel
theorem dX0_measure_16 : decode cX0_measure 16 = .ok (.iload_n 2, 1) := by decide +kernel
theorem dX0_measure_17 : decode cX0_measure 17 = .ok (.iconst 0, 1) := by decide +kernel
theorem dX0_measure_18 : decode cX0_measure 18 = .ok (.iastore, 1) := by decide +kernel
theorem dX0_measure_19 : decode cX0_measure 19 = .ok (.aload_n 0, 1) := by decide +kernel
theorem dX0_measure_20 : decode cX0_measure 20 = .ok (.getfield 18, 3) := by decide +kernel
theorem dX0_measure_23 : decode cX0_measure 23 = .ok (.iload_n 2, 1) := by decide +kernel
theorem dX0_measure_24 : decode cX0_measure 24 = .ok (.iload_n 2, 1) := by decide +kernel
theorem dX0_measure_25 : decode cX0_measure 25 = .ok (.iastore, 1) := by decide +kernel
theorem dX0_measure_26 : decode cX0_measure 26 = .ok (.aload_n 0, 1) := by decide +kernel
theorem dX0_measure_27 : decode cX0_measure 27 = .ok (.getfield 21, 3) := by decide +kernel
theorem dX0_measure_30 : decode cX0_measure 30 = .ok (.iload_n 2, 1) := by decide +kernel
theorem dX0_measure_31 : decode cX0_measure 31 = .ok (.iconst 0, 1) := by decide +kernel
theorem dX0_measure_32 : decode cX0_measure 32 = .ok (.iastore, 1) := by decide +kernel
theorem dX0_measure_33 : decode cX0_measure 33 = .ok (.iinc 2 1, 3) := by decide +kernel
theorem dX0_measure_36 : decode cX0_measure 36 = .ok (.goto (-29), 3) := by decide +kernel
theorem dX0_measure_39 : decode cX0_measure 39 = .ok (.iconst 0, 1) := by decide +kernel
theorem dX0_measure_40 : decode cX0_measure 40 = .ok (.istore_n 2, 1) := by decide +kernel
theorem dX0_measure_41 : decode cX0_measure 41 = .ok (.iload_n 2, 1) := by decide +kernel
theorem dX0_measure_42 : decode cX0_measure 42 = .ok (.iload_n 1, 1) := by decide +kernel
theorem dX0_measure_43 : decode cX0_measure 43 = .ok (.if_icmp .ge 49, 3) := by decide +kernel
theorem dX0_measure_46 : decode cX0_measure 46 = .ok (.aload_n 0, 1) := by decide +kernel
theorem dX0_measure_47 : decode cX0_measure 47 = .ok (.getfield 9, 3) := by decide +kernel
theorem dX0_measure_50 : decode cX0_measure 50 = .ok (.iload_n 2, 1) := by decide +kernel
theorem dX0_measure_51 : decode cX0_measure 51 = .ok (.iaload, 1) := by decide +kernel
theorem dX0_measure_52 : decode cX0_measure 52 = .ok (.istore_n 3, 1) := by decide +kernel
theorem dX0_measure_53 : decode cX0_measure 53 = .ok (.iload_n 3, 1) := by decide +kernel
theorem dX0_measure_54 : decode cX0_measure 54 = .ok (.ifCond .lt 21, 3) := by decide +kernel
theorem dX0_measure_57 : decode cX0_measure 57 = .ok (.iload_n 3, 1) := by decide +kernel
theorem dX0_measure_58 : decode cX0_measure 58 = .ok (.iload_n 1, 1) := by decide +kernel
theorem dX0_measure_59 : decode cX0_measure 59 = .ok (.if_icmp .ge 16, 3) := by decide +kernel
theorem dX0_measure_62 : decode cX0_measure 62 = .ok (.aload_n 0, 1) := by decide +kernel
theorem dX0_measure_63 : decode cX0_measure 63 = .ok (.getfield 15, 3) := by decide +kernel
theorem dX0_measure_66 : decode cX0_measure 66 = .ok (.iload_n 3, 1) := by decide +kernel
theorem dX0_measure_67 : decode cX0_measure 67 = .ok (.dup2, 1) := by decide +kernel
theorem dX0_measure_68 : decode cX0_measure 68 = .ok (.iaload, 1) := by decide +kernel
theorem dX0_measure_69 : decode cX0_measure 69 = .ok (.iconst 1, 1) := by decide +kernel
theorem dX0_measure_70 : decode cX0_measure 70 = .ok (.iadd, 1) := by decide +kernel
theorem dX0_measure_71 : decode cX0_measure 71 = .ok (.iastore, 1) := by decide +kernel
theorem dX0_measure_72 : decode cX0_measure 72 = .ok (.goto 8, 3) := by decide +kernel
theorem dX0_measure_75 : decode cX0_measure 75 = .ok (.aload_n 0, 1) := by decide +kernel
theorem dX0_measure_76 : decode cX0_measure 76 = .ok (.iload_n 2, 1) := by decide +kernel
theorem dX0_measure_77 : decode cX0_measure 77 = .ok (.putfield 24, 3) := by decide +kernel
theorem dX0_measure_80 : decode cX0_measure 80 = .ok (.aload_n 0, 1) := by decide +kernel
theorem dX0_measure_81 : decode cX0_measure 81 = .ok (.iload_n 2, 1) := by decide +kernel
theorem dX0_measure_82 : decode cX0_measure 82 = .ok (.iload_n 1, 1) := by decide +kernel
theorem dX0_measure_83 : decode cX0_measure 83 = .ok (.invokevirtual 28, 3) := by decide +kernel
theorem dX0_measure_86 : decode cX0_measure 86 = .ok (.iinc 2 1, 3) := by decide +kernel
theorem dX0_measure_89 : decode cX0_measure 89 = .ok (.goto (-48), 3) := by decide +kernel
theorem dX0_measure_92 : decode cX0_measure 92 = .ok (.return_, 1) := by decide +kernel
theorem dX0_countUpwards_0 : decode cX0_countUpwards 0 = .ok (.iload_n 1, 1) := by decide +kernel
theorem dX0_countUpwards_1 : decode cX0_countUpwards 1 = .ok (.istore_n 3, 1) := by decide +kernel
theorem dX0_countUpwards_2 : decode cX0_countUpwards 2 = .ok (.iconst 0, 1) := by decide +kernel
theorem dX0_countUpwards_3 : decode cX0_countUpwards 3 = .ok (.istore 4, 2) := by decide +kernel
theorem dX0_countUpwards_5 : decode cX0_countUpwards 5 = .ok (.iload 4, 2) := by decide +kernel
theorem dX0_countUpwards_7 : decode cX0_countUpwards 7 = .ok (.iload_n 2, 1) := by decide +kernel
theorem dX0_countUpwards_8 : decode cX0_countUpwards 8 = .ok (.if_icmp .ge 51, 3) := by decide +kernel
theorem dX0_countUpwards_11 : decode cX0_countUpwards 11 = .ok (.iload_n 3, 1) := by decide +kernel
theorem dX0_countUpwards_12 : decode cX0_countUpwards 12 = .ok (.ifCond .lt 47, 3) := by decide +kernel
theorem dX0_countUpwards_15 : decode cX0_countUpwards 15 = .ok (.iload_n 3, 1) := by decide +kernel
theorem dX0_countUpwards_16 : decode cX0_countUpwards 16 = .ok (.iload_n 2, 1) := by decide +kernel
theorem dX0_countUpwards_17 : decode cX0_countUpwards 17 = .ok (.if_icmp .ge 42, 3) := by decide +kernel
theorem dX0_countUpwards_20 : decode cX0_countUpwards 20 = .ok (.aload_n 0, 1) := by decide +kernel
theorem dX0_countUpwards_21 : decode cX0_countUpwards 21 = .ok (.getfield 21, 3) := by decide +kernel
theorem dX0_countUpwards_24 : decode cX0_countUpwards 24 = .ok (.iload_n 3, 1) := by decide +kernel
theorem dX0_countUpwards_25 : decode cX0_countUpwards 25 = .ok (.dup2, 1) := by decide +kernel
theorem dX0_countUpwards_26 : decode cX0_countUpwards 26 = .ok (.iaload, 1) := by decide +kernel
theorem dX0_countUpwards_27 : decode cX0_countUpwards 27 = .ok (.iconst 1, 1) := by decide +kernel
theorem dX0_countUpwards_28 : decode cX0_countUpwards 28 = .ok (.iadd, 1) := by decide +kernel
theorem dX0_countUpwards_29 : decode cX0_countUpwards 29 = .ok (.iastore, 1) := by decide +kernel
theorem dX0_countUpwards_30 : decode cX0_countUpwards 30 = .ok (.aload_n 0, 1) := by decide +kernel
theorem dX0_countUpwards_31 : decode cX0_countUpwards 31 = .ok (.getfield 18, 3) := by decide +kernel
theorem dX0_countUpwards_34 : decode cX0_countUpwards 34 = .ok (.iload_n 3, 1) := by decide +kernel
theorem dX0_countUpwards_35 : decode cX0_countUpwards 35 = .ok (.aload_n 0, 1) := by decide +kernel
theorem dX0_countUpwards_36 : decode cX0_countUpwards 36 = .ok (.getfield 18, 3) := by decide +kernel
theorem dX0_countUpwards_39 : decode cX0_countUpwards 39 = .ok (.iload_n 3, 1) := by decide +kernel
theorem dX0_countUpwards_40 : decode cX0_countUpwards 40 = .ok (.iaload, 1) := by decide +kernel
theorem dX0_countUpwards_41 : decode cX0_countUpwards 41 = .ok (.iload_n 1, 1) := by decide +kernel
theorem dX0_countUpwards_42 : decode cX0_countUpwards 42 = .ok (.invokestatic 32, 3) := by decide +kernel
theorem dX0_countUpwards_45 : decode cX0_countUpwards 45 = .ok (.iastore, 1) := by decide +kernel
theorem dX0_countUpwards_46 : decode cX0_countUpwards 46 = .ok (.aload_n 0, 1) := by decide +kernel
theorem dX0_countUpwards_47 : decode cX0_countUpwards 47 = .ok (.getfield 9, 3) := by decide +kernel
theorem dX0_countUpwards_50 : decode cX0_countUpwards 50 = .ok (.iload_n 3, 1) := by decide +kernel
theorem dX0_countUpwards_51 : decode cX0_countUpwards 51 = .ok (.iaload, 1) := by decide +kernel
theorem dX0_countUpwards_52 : decode cX0_countUpwards 52 = .ok (.istore_n 3, 1) := by decide +kernel
theorem dX0_countUpwards_53 : decode cX0_countUpwards 53 = .ok (.iinc 4 1, 3) := by decide +kernel
theorem dX0_countUpwards_56 : decode cX0_countUpwards 56 = .ok (.goto (-51), 3) := by decide +kernel
theorem dX0_countUpwards_59 : decode cX0_countUpwards 59 = .ok (.return_, 1) := by decide +kernel
theorem dX1_init_0 : decode cX1_init 0 = .ok (.aload_n 0, 1) := by decide +kernel
theorem dX1_init_1 : decode cX1_init 1 = .ok (.invokespecial 5, 3) := by decide +kernel
theorem dX1_init_4 : decode cX1_init 4 = .ok (.aload_n 0, 1) := by decide +kernel
theorem dX1_init_5 : decode cX1_init 5 = .ok (.sipush 576, 3) := by decide +kernel
theorem dX1_init_8 : decode cX1_init 8 = .ok (.newarray .int, 2) := by decide +kernel
theorem dX1_init_10 : decode cX1_init 10 = .ok (.putfield 11, 3) := by decide +kernel
theorem dX1_init_13 : decode cX1_init 13 = .ok (.aload_n 0, 1) := by decide +kernel
theorem dX1_init_14 : decode cX1_init 14 = .ok (.bipush 24, 2) := by decide +kernel
theorem dX1_init_16 : decode cX1_init 16 = .ok (.newarray .int, 2) := by decide +kernel
theorem dX1_init_18 : decode cX1_init 18 = .ok (.putfield 15, 3) := by decide +kernel
theorem dX1_init_21 : decode cX1_init 21 = .ok (.aload_n 0, 1) := by decide +kernel
theorem dX1_init_22 : decode cX1_init 22 = .ok (.sipush 1153, 3) := by decide +kernel
theorem dX1_init_25 : decode cX1_init 25 = .ok (.newarray .int, 2) := by decide +kernel
theorem dX1_init_27 : decode cX1_init 27 = .ok (.putfield 18, 3) := by decide +kernel
theorem dX1_init_30 : decode cX1_init 30 = .ok (.aload_n 0, 1) := by decide +kernel
theorem dX1_init_31 : decode cX1_init 31 = .ok (.sipush 1153, 3) := by decide +kernel
theorem dX1_init_34 : decode cX1_init 34 = .ok (.newarray .int, 2) := by decide +kernel
theorem dX1_init_36 : decode cX1_init 36 = .ok (.putfield 21, 3) := by decide +kernel
theorem dX1_init_39 : decode cX1_init 39 = .ok (.aload_n 0, 1) := by decide +kernel
theorem dX1_init_40 : decode cX1_init 40 = .ok (.sipush 1153, 3) := by decide +kernel
theorem dX1_init_43 : decode cX1_init 43 = .ok (.newarray .long, 2) := by decide +kernel
theorem dX1_init_45 : decode cX1_init 45 = .ok (.putfield 24, 3) := by decide +kernel
theorem dX1_init_48 : decode cX1_init 48 = .ok (.aload_n 0, 1) := by decide +kernel
theorem dX1_init_49 : decode cX1_init 49 = .ok (.sipush 1153, 3) := by decide +kernel
theorem dX1_init_52 : decode cX1_init 52 = .ok (.newarray .long, 2) := by decide +kernel
theorem dX1_init_54 : decode cX1_init 54 = .ok (.putfield 28, 3) := by decide +kernel
theorem dX1_init_57 : decode cX1_init 57 = .ok (.return_, 1) := by decide +kernel
theorem dX1_grow_0 : decode cX1_grow 0 = .ok (.iload_n 1, 1) := by decide +kernel
theorem dX1_grow_1 : decode cX1_grow 1 = .ok (.iconst 1, 1) := by decide +kernel
theorem dX1_grow_2 : decode cX1_grow 2 = .ok (.if_icmp .lt 9, 3) := by decide +kernel
theorem dX1_grow_5 : decode cX1_grow 5 = .ok (.iload_n 1, 1) := by decide +kernel
theorem dX1_grow_6 : decode cX1_grow 6 = .ok (.bipush 24, 2) := by decide +kernel
theorem dX1_grow_8 : decode cX1_grow 8 = .ok (.if_icmp .le 4, 3) := by decide +kernel
theorem dX1_grow_11 : decode cX1_grow 11 = .ok (.return_, 1) := by decide +kernel
theorem dX1_grow_12 : decode cX1_grow 12 = .ok (.iconst 0, 1) := by decide +kernel
theorem dX1_grow_13 : decode cX1_grow 13 = .ok (.istore_n 2, 1) := by decide +kernel
theorem dX1_grow_14 : decode cX1_grow 14 = .ok (.iload_n 2, 1) := by decide +kernel
theorem dX1_grow_15 : decode cX1_grow 15 = .ok (.iload_n 1, 1) := by decide +kernel
theorem dX1_grow_16 : decode cX1_grow 16 = .ok (.if_icmp .ge 18, 3) := by decide +kernel
theorem dX1_grow_19 : decode cX1_grow 19 = .ok (.aload_n 0, 1) := by decide +kernel
theorem dX1_grow_20 : decode cX1_grow 20 = .ok (.iload_n 2, 1) := by decide +kernel
theorem dX1_grow_21 : decode cX1_grow 21 = .ok (.iload_n 2, 1) := by decide +kernel
theorem dX1_grow_22 : decode cX1_grow 22 = .ok (.invokestatic 31, 3) := by decide +kernel
theorem dX1_grow_25 : decode cX1_grow 25 = .ok (.invokevirtual 35, 3) := by decide +kernel
theorem dX1_grow_28 : decode cX1_grow 28 = .ok (.iinc 2 1, 3) := by decide +kernel
theorem dX1_grow_31 : decode cX1_grow 31 = .ok (.goto (-17), 3) := by decide +kernel
theorem dX1_grow_34 : decode cX1_grow 34 = .ok (.iconst 1, 1) := by decide +kernel
theorem dX1_grow_35 : decode cX1_grow 35 = .ok (.istore_n 2, 1) := by decide +kernel
theorem dX1_grow_36 : decode cX1_grow 36 = .ok (.iload_n 2, 1) := by decide +kernel
theorem dX1_grow_37 : decode cX1_grow 37 = .ok (.iload_n 1, 1) := by decide +kernel
theorem dX1_grow_38 : decode cX1_grow 38 = .ok (.if_icmp .ge 32, 3) := by decide +kernel
theorem dX1_grow_41 : decode cX1_grow 41 = .ok (.iconst 0, 1) := by decide +kernel
theorem dX1_grow_42 : decode cX1_grow 42 = .ok (.istore_n 3, 1) := by decide +kernel
theorem dX1_grow_43 : decode cX1_grow 43 = .ok (.iload_n 3, 1) := by decide +kernel
theorem dX1_grow_44 : decode cX1_grow 44 = .ok (.iload_n 2, 1) := by decide +kernel
theorem dX1_grow_45 : decode cX1_grow 45 = .ok (.iadd, 1) := by decide +kernel
theorem dX1_grow_46 : decode cX1_grow 46 = .ok (.iload_n 1, 1) := by decide +kernel
theorem dX1_grow_47 : decode cX1_grow 47 = .ok (.if_icmp .ge 17, 3) := by decide +kernel
theorem dX1_grow_50 : decode cX1_grow 50 = .ok (.aload_n 0, 1) := by decide +kernel
theorem dX1_grow_51 : decode cX1_grow 51 = .ok (.iload_n 3, 1) := by decide +kernel
theorem dX1_grow_52 : decode cX1_grow 52 = .ok (.iload_n 3, 1) := by decide +kernel
theorem dX1_grow_53 : decode cX1_grow 53 = .ok (.iload_n 2, 1) := by decide +kernel
theorem dX1_grow_54 : decode cX1_grow 54 = .ok (.iadd, 1) := by decide +kernel
theorem dX1_grow_55 : decode cX1_grow 55 = .ok (.invokevirtual 39, 3) := by decide +kernel
theorem dX1_grow_58 : decode cX1_grow 58 = .ok (.iinc 3 1, 3) := by decide +kernel
theorem dX1_grow_61 : decode cX1_grow 61 = .ok (.goto (-18), 3) := by decide +kernel
theorem dX1_grow_64 : decode cX1_grow 64 = .ok (.iinc 2 1, 3) := by decide +kernel
theorem dX1_grow_67 : decode cX1_grow 67 = .ok (.goto (-31), 3) := by decide +kernel
theorem dX1_grow_70 : decode cX1_grow 70 = .ok (.aload_n 0, 1) := by decide +kernel
theorem dX1_grow_71 : decode cX1_grow 71 = .ok (.sipush 1152, 3) := by decide +kernel
theorem dX1_grow_74 : decode cX1_grow 74 = .ok (.invokevirtual 43, 3) := by decide +kernel
theorem dX1_grow_77 : decode cX1_grow 77 = .ok (.iconst 0, 1) := by decide +kernel
theorem dX1_grow_78 : decode cX1_grow 78 = .ok (.istore_n 2, 1) := by decide +kernel
theorem dX1_grow_79 : decode cX1_grow 79 = .ok (.iload_n 2, 1) := by decide +kernel
theorem dX1_grow_80 : decode cX1_grow 80 = .ok (.iload_n 1, 1) := by decide +kernel
theorem dX1_grow_81 : decode cX1_grow 81 = .ok (.if_icmp .ge 36, 3) := by decide +kernel
theorem dX1_grow_84 : decode cX1_grow 84 = .ok (.aload_n 0, 1) := by decide +kernel
theorem dX1_grow_85 : decode cX1_grow 85 = .ok (.sipush 1152, 3) := by decide +kernel
theorem dX1_grow_88 : decode cX1_grow 88 = .ok (.iload_n 2, 1) := by decide +kernel
theorem dX1_grow_89 : decode cX1_grow 89 = .ok (.iconst 0, 1) := by decide +kernel
theorem dX1_grow_90 : decode cX1_grow 90 = .ok (.invokestatic 31, 3) := by decide +kernel
theorem dX1_grow_93 : decode cX1_grow 93 = .ok (.iload_n 2, 1) := by decide +kernel
theorem dX1_grow_94 : decode cX1_grow 94 = .ok (.iload_n 1, 1) := by decide +kernel
theorem dX1_grow_95 : decode cX1_grow 95 = .ok (.iconst 1, 1) := by decide +kernel
theorem dX1_grow_96 : decode cX1_grow 96 = .ok (.isub, 1) := by decide +kernel
theorem dX1_grow_97 : decode cX1_grow 97 = .ok (.invokestatic 31, 3) := by decide +kernel
theorem dX1_grow_100 : decode cX1_grow 100 = .ok (.aload_n 0, 1) := by decide +kernel
theorem dX1_grow_101 : decode cX1_grow 101 = .ok (.getfield 15, 3) := by decide +kernel
theorem dX1_grow_104 : decode cX1_grow 104 = .ok (.iload_n 2, 1) := by decide +kernel
theorem dX1_grow_105 : decode cX1_grow 105 = .ok (.iaload, 1) := by decide +kernel
theorem dX1_grow_106 : decode cX1_grow 106 = .ok (.iconst (-1), 1) := by decide +kernel
theorem dX1_grow_107 : decode cX1_grow 107 = .ok (.iload_n 2, 1) := by decide +kernel
theorem dX1_grow_108 : decode cX1_grow 108 = .ok (.invokevirtual 46, 3) := by decide +kernel
theorem dX1_grow_111 : decode cX1_grow 111 = .ok (.iinc 2 1, 3) := by decide +kernel
theorem dX1_grow_114 : decode cX1_grow 114 = .ok (.goto (-35), 3) := by decide +kernel
theorem dX1_grow_117 : decode cX1_grow 117 = .ok (.return_, 1) := by decide +kernel
theorem dX1_fillSpan_0 : decode cX1_fillSpan 0 = .ok (.iload_n 1, 1) := by decide +kernel
theorem dX1_fillSpan_1 : decode cX1_fillSpan 1 = .ok (.iload_n 2, 1) := by decide +kernel
theorem dX1_fillSpan_2 : decode cX1_fillSpan 2 = .ok (.invokestatic 50, 3) := by decide +kernel
theorem dX1_fillSpan_5 : decode cX1_fillSpan 5 = .ok (.istore_n 3, 1) := by decide +kernel
theorem dX1_fillSpan_6 : decode cX1_fillSpan 6 = .ok (.aload_n 0, 1) := by decide +kernel
theorem dX1_fillSpan_7 : decode cX1_fillSpan 7 = .ok (.iload_n 3, 1) := by decide +kernel
theorem dX1_fillSpan_8 : decode cX1_fillSpan 8 = .ok (.invokevirtual 43, 3) := by decide +kernel
theorem dX1_fillSpan_11 : decode cX1_fillSpan 11 = .ok (.iload_n 1, 1) := by decide +kernel
theorem dX1_fillSpan_12 : decode cX1_fillSpan 12 = .ok (.istore 4, 2) := by decide +kernel
theorem dX1_fillSpan_14 : decode cX1_fillSpan 14 = .ok (.iload 4, 2) := by decide +kernel
theorem dX1_fillSpan_16 : decode cX1_fillSpan 16 = .ok (.iload_n 2, 1) := by decide +kernel
theorem dX1_fillSpan_17 : decode cX1_fillSpan 17 = .ok (.if_icmp .ge 31, 3) := by decide +kernel
theorem dX1_fillSpan_20 : decode cX1_fillSpan 20 = .ok (.aload_n 0, 1) := by decide +kernel
theorem dX1_fillSpan_21 : decode cX1_fillSpan 21 = .ok (.iload_n 3, 1) := by decide +kernel
theorem dX1_fillSpan_22 : decode cX1_fillSpan 22 = .ok (.iload_n 1, 1) := by decide +kernel
theorem dX1_fillSpan_23 : decode cX1_fillSpan 23 = .ok (.iload 4, 2) := by decide +kernel
theorem dX1_fillSpan_25 : decode cX1_fillSpan 25 = .ok (.invokestatic 31, 3) := by decide +kernel
theorem dX1_fillSpan_28 : decode cX1_fillSpan 28 = .ok (.iload_n 2, 1) := by decide +kernel
theorem dX1_fillSpan_29 : decode cX1_fillSpan 29 = .ok (.iload 4, 2) := by decide +kernel
theorem dX1_fillSpan_31 : decode cX1_fillSpan 31 = .ok (.iconst 1, 1) := by decide +kernel
theorem dX1_fillSpan_32 : decode cX1_fillSpan 32 = .ok (.iadd, 1) := by decide +kernel
theorem dX1_fillSpan_33 : decode cX1_fillSpan 33 = .ok (.invokestatic 31, 3) := by decide +kernel
theorem dX1_fillSpan_36 : decode cX1_fillSpan 36 = .ok (.iconst 0, 1) := by decide +kernel
theorem dX1_fillSpan_37 : decode cX1_fillSpan 37 = .ok (.iconst (-1), 1) := by decide +kernel
theorem dX1_fillSpan_38 : decode cX1_fillSpan 38 = .ok (.iload_n 1, 1) := by decide +kernel
theorem dX1_fillSpan_39 : decode cX1_fillSpan 39 = .ok (.invokevirtual 46, 3) := by decide +kernel
theorem dX1_fillSpan_42 : decode cX1_fillSpan 42 = .ok (.iinc 4 1, 3) := by decide +kernel
theorem dX1_fillSpan_45 : decode cX1_fillSpan 45 = .ok (.goto (-31), 3) := by decide +kernel
theorem dX1_fillSpan_48 : decode cX1_fillSpan 48 = .ok (.iload_n 1, 1) := by decide +kernel
theorem dX1_fillSpan_49 : decode cX1_fillSpan 49 = .ok (.iload_n 2, 1) := by decide +kernel
theorem dX1_fillSpan_50 : decode cX1_fillSpan 50 = .ok (.invokestatic 31, 3) := by decide +kernel
theorem dX1_fillSpan_53 : decode cX1_fillSpan 53 = .ok (.istore 4, 2) := by decide +kernel
theorem dX1_fillSpan_55 : decode cX1_fillSpan 55 = .ok (.aload_n 0, 1) := by decide +kernel
theorem dX1_fillSpan_56 : decode cX1_fillSpan 56 = .ok (.iload 4, 2) := by decide +kernel
theorem dX1_fillSpan_58 : decode cX1_fillSpan 58 = .ok (.invokevirtual 43, 3) := by decide +kernel
theorem dX1_fillSpan_61 : decode cX1_fillSpan 61 = .ok (.iload_n 1, 1) := by decide +kernel
theorem dX1_fillSpan_62 : decode cX1_fillSpan 62 = .ok (.iconst 1, 1) := by decide +kernel
theorem dX1_fillSpan_63 : decode cX1_fillSpan 63 = .ok (.iadd, 1) := by decide +kernel
theorem dX1_fillSpan_64 : decode cX1_fillSpan 64 = .ok (.istore 5, 2) := by decide +kernel
theorem dX1_fillSpan_66 : decode cX1_fillSpan 66 = .ok (.iload 5, 2) := by decide +kernel
theorem dX1_fillSpan_68 : decode cX1_fillSpan 68 = .ok (.iload_n 2, 1) := by decide +kernel
theorem dX1_fillSpan_69 : decode cX1_fillSpan 69 = .ok (.if_icmp .gt 46, 3) := by decide +kernel
theorem dX1_fillSpan_72 : decode cX1_fillSpan 72 = .ok (.aload_n 0, 1) := by decide +kernel
theorem dX1_fillSpan_73 : decode cX1_fillSpan 73 = .ok (.getfield 11, 3) := by decide +kernel
theorem dX1_fillSpan_76 : decode cX1_fillSpan 76 = .ok (.iload_n 1, 1) := by decide +kernel
theorem dX1_fillSpan_77 : decode cX1_fillSpan 77 = .ok (.bipush 24, 2) := by decide +kernel
theorem dX1_fillSpan_79 : decode cX1_fillSpan 79 = .ok (.imul, 1) := by decide +kernel
theorem dX1_fillSpan_80 : decode cX1_fillSpan 80 = .ok (.iload 5, 2) := by decide +kernel
theorem dX1_fillSpan_82 : decode cX1_fillSpan 82 = .ok (.iadd, 1) := by decide +kernel
theorem dX1_fillSpan_83 : decode cX1_fillSpan 83 = .ok (.iaload, 1) := by decide +kernel
theorem dX1_fillSpan_84 : decode cX1_fillSpan 84 = .ok (.istore 6, 2) := by decide +kernel
theorem dX1_fillSpan_86 : decode cX1_fillSpan 86 = .ok (.aload_n 0, 1) := by decide +kernel
theorem dX1_fillSpan_87 : decode cX1_fillSpan 87 = .ok (.iload 4, 2) := by decide +kernel
theorem dX1_fillSpan_89 : decode cX1_fillSpan 89 = .ok (.iload_n 1, 1) := by decide +kernel
theorem dX1_fillSpan_90 : decode cX1_fillSpan 90 = .ok (.iload 5, 2) := by decide +kernel
theorem dX1_fillSpan_92 : decode cX1_fillSpan 92 = .ok (.invokestatic 50, 3) := by decide +kernel
theorem dX1_fillSpan_95 : decode cX1_fillSpan 95 = .ok (.iload 5, 2) := by decide +kernel
theorem dX1_fillSpan_97 : decode cX1_fillSpan 97 = .ok (.iload_n 2, 1) := by decide +kernel
theorem dX1_fillSpan_98 : decode cX1_fillSpan 98 = .ok (.invokestatic 31, 3) := by decide +kernel
theorem dX1_fillSpan_101 : decode cX1_fillSpan 101 = .ok (.iload 6, 2) := by decide +kernel
theorem dX1_fillSpan_103 : decode cX1_fillSpan 103 = .ok (.iload_n 1, 1) := by decide +kernel
theorem dX1_fillSpan_104 : decode cX1_fillSpan 104 = .ok (.iload 5, 2) := by decide +kernel
theorem dX1_fillSpan_106 : decode cX1_fillSpan 106 = .ok (.invokevirtual 46, 3) := by decide +kernel
theorem dX1_fillSpan_109 : decode cX1_fillSpan 109 = .ok (.iinc 5 1, 3) := by decide +kernel
theorem dX1_fillSpan_112 : decode cX1_fillSpan 112 = .ok (.goto (-46), 3) := by decide +kernel
theorem dX1_fillSpan_115 : decode cX1_fillSpan 115 = .ok (.iload_n 2, 1) := by decide +kernel
theorem dX1_fillSpan_116 : decode cX1_fillSpan 116 = .ok (.iload_n 1, 1) := by decide +kernel
theorem dX1_fillSpan_117 : decode cX1_fillSpan 117 = .ok (.invokestatic 31, 3) := by decide +kernel
theorem dX1_fillSpan_120 : decode cX1_fillSpan 120 = .ok (.istore 5, 2) := by decide +kernel
theorem dX1_fillSpan_122 : decode cX1_fillSpan 122 = .ok (.aload_n 0, 1) := by decide +kernel
theorem dX1_fillSpan_123 : decode cX1_fillSpan 123 = .ok (.iload 5, 2) := by decide +kernel
theorem dX1_fillSpan_125 : decode cX1_fillSpan 125 = .ok (.invokevirtual 43, 3) := by decide +kernel
theorem dX1_fillSpan_128 : decode cX1_fillSpan 128 = .ok (.iload_n 1, 1) := by decide +kernel
theorem dX1_fillSpan_129 : decode cX1_fillSpan 129 = .ok (.istore 6, 2) := by decide +kernel
theorem dX1_fillSpan_131 : decode cX1_fillSpan 131 = .ok (.iload 6, 2) := by decide +kernel
theorem dX1_fillSpan_133 : decode cX1_fillSpan 133 = .ok (.iload_n 2, 1) := by decide +kernel
theorem dX1_fillSpan_134 : decode cX1_fillSpan 134 = .ok (.if_icmp .ge 46, 3) := by decide +kernel
theorem dX1_fillSpan_137 : decode cX1_fillSpan 137 = .ok (.aload_n 0, 1) := by decide +kernel
theorem dX1_fillSpan_138 : decode cX1_fillSpan 138 = .ok (.getfield 11, 3) := by decide +kernel
theorem dX1_fillSpan_141 : decode cX1_fillSpan 141 = .ok (.iload_n 2, 1) := by decide +kernel
theorem dX1_fillSpan_142 : decode cX1_fillSpan 142 = .ok (.bipush 24, 2) := by decide +kernel
theorem dX1_fillSpan_144 : decode cX1_fillSpan 144 = .ok (.imul, 1) := by decide +kernel
theorem dX1_fillSpan_145 : decode cX1_fillSpan 145 = .ok (.iload 6, 2) := by decide +kernel
theorem dX1_fillSpan_147 : decode cX1_fillSpan 147 = .ok (.iadd, 1) := by decide +kernel
theorem dX1_fillSpan_148 : decode cX1_fillSpan 148 = .ok (.iaload, 1) := by decide +kernel
theorem dX1_fillSpan_149 : decode cX1_fillSpan 149 = .ok (.istore 7, 2) := by decide +kernel
theorem dX1_fillSpan_151 : decode cX1_fillSpan 151 = .ok (.aload_n 0, 1) := by decide +kernel
theorem dX1_fillSpan_152 : decode cX1_fillSpan 152 = .ok (.iload 5, 2) := by decide +kernel
theorem dX1_fillSpan_154 : decode cX1_fillSpan 154 = .ok (.iload 6, 2) := by decide +kernel
theorem dX1_fillSpan_156 : decode cX1_fillSpan 156 = .ok (.iload_n 1, 1) := by decide +kernel
theorem dX1_fillSpan_157 : decode cX1_fillSpan 157 = .ok (.invokestatic 31, 3) := by decide +kernel
theorem dX1_fillSpan_160 : decode cX1_fillSpan 160 = .ok (.iload 6, 2) := by decide +kernel
theorem dX1_fillSpan_162 : decode cX1_fillSpan 162 = .ok (.iload_n 2, 1) := by decide +kernel
theorem dX1_fillSpan_163 : decode cX1_fillSpan 163 = .ok (.invokestatic 50, 3) := by decide +kernel
theorem dX1_fillSpan_166 : decode cX1_fillSpan 166 = .ok (.iload 7, 2) := by decide +kernel
theorem dX1_fillSpan_168 : decode cX1_fillSpan 168 = .ok (.iload_n 2, 1) := by decide +kernel
theorem dX1_fillSpan_169 : decode cX1_fillSpan 169 = .ok (.iload 6, 2) := by decide +kernel
theorem dX1_fillSpan_171 : decode cX1_fillSpan 171 = .ok (.invokevirtual 46, 3) := by decide +kernel
theorem dX1_fillSpan_174 : decode cX1_fillSpan 174 = .ok (.iinc 6 1, 3) := by decide +kernel
theorem dX1_fillSpan_177 : decode cX1_fillSpan 177 = .ok (.goto (-46), 3) := by decide +kernel
theorem dX1_fillSpan_180 : decode cX1_fillSpan 180 = .ok (.return_, 1) := by decide +kernel
theorem dX1_side_0 : decode cX1_side 0 = .ok (.iconst 0, 1) := by decide +kernel
theorem dX1_side_1 : decode cX1_side 1 = .ok (.iload_n 0, 1) := by decide +kernel
theorem dX1_side_2 : decode cX1_side 2 = .ok (.bipush 24, 2) := by decide +kernel
theorem dX1_side_4 : decode cX1_side 4 = .ok (.imul, 1) := by decide +kernel
theorem dX1_side_5 : decode cX1_side 5 = .ok (.iadd, 1) := by decide +kernel
theorem dX1_side_6 : decode cX1_side 6 = .ok (.iload_n 1, 1) := by decide +kernel
theorem dX1_side_7 : decode cX1_side 7 = .ok (.iadd, 1) := by decide +kernel
theorem dX1_side_8 : decode cX1_side 8 = .ok (.ireturn, 1) := by decide +kernel
theorem dX1_gap_0 : decode cX1_gap 0 = .ok (.sipush 576, 3) := by decide +kernel
theorem dX1_gap_3 : decode cX1_gap 3 = .ok (.iload_n 0, 1) := by decide +kernel
theorem dX1_gap_4 : decode cX1_gap 4 = .ok (.bipush 24, 2) := by decide +kernel
theorem dX1_gap_6 : decode cX1_gap 6 = .ok (.imul, 1) := by decide +kernel
theorem dX1_gap_7 : decode cX1_gap 7 = .ok (.iadd, 1) := by decide +kernel
theorem dX1_gap_8 : decode cX1_gap 8 = .ok (.iload_n 1, 1) := by decide +kernel
theorem dX1_gap_9 : decode cX1_gap 9 = .ok (.iadd, 1) := by decide +kernel
theorem dX1_gap_10 : decode cX1_gap 10 = .ok (.ireturn, 1) := by decide +kernel
theorem dX1_setAlone_0 : decode cX1_setAlone 0 = .ok (.aload_n 0, 1) := by decide +kernel
theorem dX1_setAlone_1 : decode cX1_setAlone 1 = .ok (.iload_n 1, 1) := by decide +kernel
theorem dX1_setAlone_2 : decode cX1_setAlone 2 = .ok (.invokevirtual 43, 3) := by decide +kernel
theorem dX1_setAlone_5 : decode cX1_setAlone 5 = .ok (.aload_n 0, 1) := by decide +kernel
theorem dX1_setAlone_6 : decode cX1_setAlone 6 = .ok (.getfield 18, 3) := by decide +kernel
theorem dX1_setAlone_9 : decode cX1_setAlone 9 = .ok (.iload_n 1, 1) := by decide +kernel
theorem dX1_setAlone_10 : decode cX1_setAlone 10 = .ok (.iconst 0, 1) := by decide +kernel
theorem dX1_setAlone_11 : decode cX1_setAlone 11 = .ok (.iastore, 1) := by decide +kernel
theorem dX1_setAlone_12 : decode cX1_setAlone 12 = .ok (.return_, 1) := by decide +kernel
theorem dX1_setEmpty_0 : decode cX1_setEmpty 0 = .ok (.aload_n 0, 1) := by decide +kernel
theorem dX1_setEmpty_1 : decode cX1_setEmpty 1 = .ok (.getfield 18, 3) := by decide +kernel
theorem dX1_setEmpty_4 : decode cX1_setEmpty 4 = .ok (.iload_n 1, 1) := by decide +kernel
theorem dX1_setEmpty_5 : decode cX1_setEmpty 5 = .ok (.ldc 53, 2) := by decide +kernel
theorem dX1_setEmpty_7 : decode cX1_setEmpty 7 = .ok (.iastore, 1) := by decide +kernel
theorem dX1_setEmpty_8 : decode cX1_setEmpty 8 = .ok (.aload_n 0, 1) := by decide +kernel
theorem dX1_setEmpty_9 : decode cX1_setEmpty 9 = .ok (.getfield 21, 3) := by decide +kernel
theorem dX1_setEmpty_12 : decode cX1_setEmpty 12 = .ok (.iload_n 1, 1) := by decide +kernel
theorem dX1_setEmpty_13 : decode cX1_setEmpty 13 = .ok (.ldc 53, 2) := by decide +kernel
theorem dX1_setEmpty_15 : decode cX1_setEmpty 15 = .ok (.iastore, 1) := by decide +kernel
theorem dX1_setEmpty_16 : decode cX1_setEmpty 16 = .ok (.aload_n 0, 1) := by decide +kernel
theorem dX1_setEmpty_17 : decode cX1_setEmpty 17 = .ok (.getfield 24, 3) := by decide +kernel
theorem dX1_setEmpty_20 : decode cX1_setEmpty 20 = .ok (.iload_n 1, 1) := by decide +kernel
theorem dX1_setEmpty_21 : decode cX1_setEmpty 21 = .ok (.lconst 0, 1) := by decide +kernel
theorem dX1_setEmpty_22 : decode cX1_setEmpty 22 = .ok (.lastore, 1) := by decide +kernel
theorem dX1_setEmpty_23 : decode cX1_setEmpty 23 = .ok (.aload_n 0, 1) := by decide +kernel
theorem dX1_setEmpty_24 : decode cX1_setEmpty 24 = .ok (.getfield 28, 3) := by decide +kernel
theorem dX1_setEmpty_27 : decode cX1_setEmpty 27 = .ok (.iload_n 1, 1) := by decide +kernel
theorem dX1_setEmpty_28 : decode cX1_setEmpty 28 = .ok (.lconst 0, 1) := by decide +kernel
theorem dX1_setEmpty_29 : decode cX1_setEmpty 29 = .ok (.lastore, 1) := by decide +kernel
theorem dX1_setEmpty_30 : decode cX1_setEmpty 30 = .ok (.return_, 1) := by decide +kernel
theorem dX1_offer_0 : decode cX1_offer 0 = .ok (.aload_n 0, 1) := by decide +kernel
theorem dX1_offer_1 : decode cX1_offer 1 = .ok (.getfield 18, 3) := by decide +kernel
theorem dX1_offer_4 : decode cX1_offer 4 = .ok (.iload_n 2, 1) := by decide +kernel
theorem dX1_offer_5 : decode cX1_offer 5 = .ok (.iaload, 1) := by decide +kernel
theorem dX1_offer_6 : decode cX1_offer 6 = .ok (.aload_n 0, 1) := by decide +kernel
theorem dX1_offer_7 : decode cX1_offer 7 = .ok (.getfield 18, 3) := by decide +kernel
theorem dX1_offer_10 : decode cX1_offer 10 = .ok (.iload_n 3, 1) := by decide +kernel
theorem dX1_offer_11 : decode cX1_offer 11 = .ok (.iaload, 1) := by decide +kernel
theorem dX1_offer_12 : decode cX1_offer 12 = .ok (.iadd, 1) := by decide +kernel
theorem dX1_offer_13 : decode cX1_offer 13 = .ok (.iload 4, 2) := by decide +kernel
theorem dX1_offer_15 : decode cX1_offer 15 = .ok (.iadd, 1) := by decide +kernel
theorem dX1_offer_16 : decode cX1_offer 16 = .ok (.istore 7, 2) := by decide +kernel
theorem dX1_offer_18 : decode cX1_offer 18 = .ok (.aload_n 0, 1) := by decide +kernel
theorem dX1_offer_19 : decode cX1_offer 19 = .ok (.getfield 24, 3) := by decide +kernel
theorem dX1_offer_22 : decode cX1_offer 22 = .ok (.iload_n 2, 1) := by decide +kernel
theorem dX1_offer_23 : decode cX1_offer 23 = .ok (.laload, 1) := by decide +kernel
theorem dX1_offer_24 : decode cX1_offer 24 = .ok (.aload_n 0, 1) := by decide +kernel
theorem dX1_offer_25 : decode cX1_offer 25 = .ok (.getfield 24, 3) := by decide +kernel
theorem dX1_offer_28 : decode cX1_offer 28 = .ok (.iload_n 3, 1) := by decide +kernel
theorem dX1_offer_29 : decode cX1_offer 29 = .ok (.laload, 1) := by decide +kernel
theorem dX1_offer_30 : decode cX1_offer 30 = .ok (.ladd, 1) := by decide +kernel
theorem dX1_offer_31 : decode cX1_offer 31 = .ok (.lstore 8, 2) := by decide +kernel
theorem dX1_offer_33 : decode cX1_offer 33 = .ok (.aload_n 0, 1) := by decide +kernel
theorem dX1_offer_34 : decode cX1_offer 34 = .ok (.getfield 28, 3) := by decide +kernel
theorem dX1_offer_37 : decode cX1_offer 37 = .ok (.iload_n 2, 1) := by decide +kernel
theorem dX1_offer_38 : decode cX1_offer 38 = .ok (.laload, 1) := by decide +kernel
theorem dX1_offer_39 : decode cX1_offer 39 = .ok (.aload_n 0, 1) := by decide +kernel
theorem dX1_offer_40 : decode cX1_offer 40 = .ok (.getfield 28, 3) := by decide +kernel
theorem dX1_offer_43 : decode cX1_offer 43 = .ok (.iload_n 3, 1) := by decide +kernel
theorem dX1_offer_44 : decode cX1_offer 44 = .ok (.laload, 1) := by decide +kernel
theorem dX1_offer_45 : decode cX1_offer 45 = .ok (.ladd, 1) := by decide +kernel
theorem dX1_offer_46 : decode cX1_offer 46 = .ok (.lstore 10, 2) := by decide +kernel
theorem dX1_offer_48 : decode cX1_offer 48 = .ok (.iload 6, 2) := by decide +kernel
theorem dX1_offer_50 : decode cX1_offer 50 = .ok (.bipush 12, 2) := by decide +kernel
theorem dX1_offer_52 : decode cX1_offer 52 = .ok (.if_icmp .ge 24, 3) := by decide +kernel
theorem dX1_offer_55 : decode cX1_offer 55 = .ok (.lload 8, 2) := by decide +kernel
theorem dX1_offer_57 : decode cX1_offer 57 = .ok (.iload 5, 2) := by decide +kernel
theorem dX1_offer_59 : decode cX1_offer 59 = .ok (.i2l, 1) := by decide +kernel
theorem dX1_offer_60 : decode cX1_offer 60 = .ok (.lconst 1, 1) := by decide +kernel
theorem dX1_offer_61 : decode cX1_offer 61 = .ok (.ladd, 1) := by decide +kernel
theorem dX1_offer_62 : decode cX1_offer 62 = .ok (.iconst 5, 1) := by decide +kernel
theorem dX1_offer_63 : decode cX1_offer 63 = .ok (.bipush 11, 2) := by decide +kernel
theorem dX1_offer_65 : decode cX1_offer 65 = .ok (.iload 6, 2) := by decide +kernel
theorem dX1_offer_67 : decode cX1_offer 67 = .ok (.isub, 1) := by decide +kernel
theorem dX1_offer_68 : decode cX1_offer 68 = .ok (.imul, 1) := by decide +kernel
theorem dX1_offer_69 : decode cX1_offer 69 = .ok (.lshl, 1) := by decide +kernel
theorem dX1_offer_70 : decode cX1_offer 70 = .ok (.ladd, 1) := by decide +kernel
theorem dX1_offer_71 : decode cX1_offer 71 = .ok (.lstore 8, 2) := by decide +kernel
theorem dX1_offer_73 : decode cX1_offer 73 = .ok (.goto 21, 3) := by decide +kernel
theorem dX1_offer_76 : decode cX1_offer 76 = .ok (.lload 10, 2) := by decide +kernel
theorem dX1_offer_78 : decode cX1_offer 78 = .ok (.iload 5, 2) := by decide +kernel
theorem dX1_offer_80 : decode cX1_offer 80 = .ok (.i2l, 1) := by decide +kernel
theorem dX1_offer_81 : decode cX1_offer 81 = .ok (.lconst 1, 1) := by decide +kernel
theorem dX1_offer_82 : decode cX1_offer 82 = .ok (.ladd, 1) := by decide +kernel
theorem dX1_offer_83 : decode cX1_offer 83 = .ok (.iconst 5, 1) := by decide +kernel
theorem dX1_offer_84 : decode cX1_offer 84 = .ok (.bipush 23, 2) := by decide +kernel
theorem dX1_offer_86 : decode cX1_offer 86 = .ok (.iload 6, 2) := by decide +kernel
theorem dX1_offer_88 : decode cX1_offer 88 = .ok (.isub, 1) := by decide +kernel
theorem dX1_offer_89 : decode cX1_offer 89 = .ok (.imul, 1) := by decide +kernel
theorem dX1_offer_90 : decode cX1_offer 90 = .ok (.lshl, 1) := by decide +kernel
theorem dX1_offer_91 : decode cX1_offer 91 = .ok (.ladd, 1) := by decide +kernel
theorem dX1_offer_92 : decode cX1_offer 92 = .ok (.lstore 10, 2) := by decide +kernel
theorem dX1_offer_94 : decode cX1_offer 94 = .ok (.aload_n 0, 1) := by decide +kernel
theorem dX1_offer_95 : decode cX1_offer 95 = .ok (.iload_n 1, 1) := by decide +kernel
theorem dX1_offer_96 : decode cX1_offer 96 = .ok (.iload 7, 2) := by decide +kernel
theorem dX1_offer_98 : decode cX1_offer 98 = .ok (.lload 8, 2) := by decide +kernel
theorem dX1_offer_100 : decode cX1_offer 100 = .ok (.lload 10, 2) := by decide +kernel
theorem dX1_offer_102 : decode cX1_offer 102 = .ok (.invokevirtual 54, 3) := by decide +kernel
theorem dX1_offer_105 : decode cX1_offer 105 = .ok (.ifCond .eq 81, 3) := by decide +kernel
theorem dX1_offer_108 : decode cX1_offer 108 = .ok (.aload_n 0, 1) := by decide +kernel
theorem dX1_offer_109 : decode cX1_offer 109 = .ok (.getfield 18, 3) := by decide +kernel
theorem dX1_offer_112 : decode cX1_offer 112 = .ok (.iload_n 2, 1) := by decide +kernel
theorem dX1_offer_113 : decode cX1_offer 113 = .ok (.iaload, 1) := by decide +kernel
theorem dX1_offer_114 : decode cX1_offer 114 = .ok (.aload_n 0, 1) := by decide +kernel
theorem dX1_offer_115 : decode cX1_offer 115 = .ok (.getfield 21, 3) := by decide +kernel
theorem dX1_offer_118 : decode cX1_offer 118 = .ok (.iload_n 3, 1) := by decide +kernel
theorem dX1_offer_119 : decode cX1_offer 119 = .ok (.iaload, 1) := by decide +kernel
theorem dX1_offer_120 : decode cX1_offer 120 = .ok (.iadd, 1) := by decide +kernel
theorem dX1_offer_121 : decode cX1_offer 121 = .ok (.aload_n 0, 1) := by decide +kernel
theorem dX1_offer_122 : decode cX1_offer 122 = .ok (.getfield 21, 3) := by decide +kernel
theorem dX1_offer_125 : decode cX1_offer 125 = .ok (.iload_n 2, 1) := by decide +kernel
theorem dX1_offer_126 : decode cX1_offer 126 = .ok (.iaload, 1) := by decide +kernel
theorem dX1_offer_127 : decode cX1_offer 127 = .ok (.aload_n 0, 1) := by decide +kernel
theorem dX1_offer_128 : decode cX1_offer 128 = .ok (.getfield 18, 3) := by decide +kernel
theorem dX1_offer_131 : decode cX1_offer 131 = .ok (.iload_n 3, 1) := by decide +kernel
theorem dX1_offer_132 : decode cX1_offer 132 = .ok (.iaload, 1) := by decide +kernel
theorem dX1_offer_133 : decode cX1_offer 133 = .ok (.iadd, 1) := by decide +kernel
theorem dX1_offer_134 : decode cX1_offer 134 = .ok (.invokestatic 58, 3) := by decide +kernel
theorem dX1_offer_137 : decode cX1_offer 137 = .ok (.iload 4, 2) := by decide +kernel
theorem dX1_offer_139 : decode cX1_offer 139 = .ok (.iadd, 1) := by decide +kernel
theorem dX1_offer_140 : decode cX1_offer 140 = .ok (.istore 12, 2) := by decide +kernel
theorem dX1_offer_142 : decode cX1_offer 142 = .ok (.aload_n 0, 1) := by decide +kernel
theorem dX1_offer_143 : decode cX1_offer 143 = .ok (.getfield 21, 3) := by decide +kernel
theorem dX1_offer_146 : decode cX1_offer 146 = .ok (.iload_n 1, 1) := by decide +kernel
theorem dX1_offer_147 : decode cX1_offer 147 = .ok (.aload_n 0, 1) := by decide +kernel
theorem dX1_offer_148 : decode cX1_offer 148 = .ok (.getfield 18, 3) := by decide +kernel
theorem dX1_offer_151 : decode cX1_offer 151 = .ok (.iload_n 1, 1) := by decide +kernel
theorem dX1_offer_152 : decode cX1_offer 152 = .ok (.iaload, 1) := by decide +kernel
theorem dX1_offer_153 : decode cX1_offer 153 = .ok (.iload 12, 2) := by decide +kernel
theorem dX1_offer_155 : decode cX1_offer 155 = .ok (.invokestatic 58, 3) := by decide +kernel
theorem dX1_offer_158 : decode cX1_offer 158 = .ok (.iastore, 1) := by decide +kernel
theorem dX1_offer_159 : decode cX1_offer 159 = .ok (.aload_n 0, 1) := by decide +kernel
theorem dX1_offer_160 : decode cX1_offer 160 = .ok (.getfield 18, 3) := by decide +kernel
theorem dX1_offer_163 : decode cX1_offer 163 = .ok (.iload_n 1, 1) := by decide +kernel
theorem dX1_offer_164 : decode cX1_offer 164 = .ok (.iload 7, 2) := by decide +kernel
theorem dX1_offer_166 : decode cX1_offer 166 = .ok (.iastore, 1) := by decide +kernel
theorem dX1_offer_167 : decode cX1_offer 167 = .ok (.aload_n 0, 1) := by decide +kernel
theorem dX1_offer_168 : decode cX1_offer 168 = .ok (.getfield 24, 3) := by decide +kernel
theorem dX1_offer_171 : decode cX1_offer 171 = .ok (.iload_n 1, 1) := by decide +kernel
theorem dX1_offer_172 : decode cX1_offer 172 = .ok (.lload 8, 2) := by decide +kernel
theorem dX1_offer_174 : decode cX1_offer 174 = .ok (.lastore, 1) := by decide +kernel
theorem dX1_offer_175 : decode cX1_offer 175 = .ok (.aload_n 0, 1) := by decide +kernel
theorem dX1_offer_176 : decode cX1_offer 176 = .ok (.getfield 28, 3) := by decide +kernel
theorem dX1_offer_179 : decode cX1_offer 179 = .ok (.iload_n 1, 1) := by decide +kernel
theorem dX1_offer_180 : decode cX1_offer 180 = .ok (.lload 10, 2) := by decide +kernel
theorem dX1_offer_182 : decode cX1_offer 182 = .ok (.lastore, 1) := by decide +kernel
theorem dX1_offer_183 : decode cX1_offer 183 = .ok (.goto 20, 3) := by decide +kernel
theorem dX1_offer_186 : decode cX1_offer 186 = .ok (.aload_n 0, 1) := by decide +kernel
theorem dX1_offer_187 : decode cX1_offer 187 = .ok (.getfield 21, 3) := by decide +kernel
theorem dX1_offer_190 : decode cX1_offer 190 = .ok (.iload_n 1, 1) := by decide +kernel
theorem dX1_offer_191 : decode cX1_offer 191 = .ok (.aload_n 0, 1) := by decide +kernel
theorem dX1_offer_192 : decode cX1_offer 192 = .ok (.getfield 21, 3) := by decide +kernel
theorem dX1_offer_195 : decode cX1_offer 195 = .ok (.iload_n 1, 1) := by decide +kernel
theorem dX1_offer_196 : decode cX1_offer 196 = .ok (.iaload, 1) := by decide +kernel
theorem dX1_offer_197 : decode cX1_offer 197 = .ok (.iload 7, 2) := by decide +kernel
theorem dX1_offer_199 : decode cX1_offer 199 = .ok (.invokestatic 58, 3) := by decide +kernel
theorem dX1_offer_202 : decode cX1_offer 202 = .ok (.iastore, 1) := by decide +kernel
theorem dX1_offer_203 : decode cX1_offer 203 = .ok (.return_, 1) := by decide +kernel
theorem dX1_comesFirst_0 : decode cX1_comesFirst 0 = .ok (.iload_n 2, 1) := by decide +kernel
theorem dX1_comesFirst_1 : decode cX1_comesFirst 1 = .ok (.aload_n 0, 1) := by decide +kernel
theorem dX1_comesFirst_2 : decode cX1_comesFirst 2 = .ok (.getfield 18, 3) := by decide +kernel
theorem dX1_comesFirst_5 : decode cX1_comesFirst 5 = .ok (.iload_n 1, 1) := by decide +kernel
theorem dX1_comesFirst_6 : decode cX1_comesFirst 6 = .ok (.iaload, 1) := by decide +kernel
theorem dX1_comesFirst_7 : decode cX1_comesFirst 7 = .ok (.if_icmp .eq 19, 3) := by decide +kernel
theorem dX1_comesFirst_10 : decode cX1_comesFirst 10 = .ok (.iload_n 2, 1) := by decide +kernel
theorem dX1_comesFirst_11 : decode cX1_comesFirst 11 = .ok (.aload_n 0, 1) := by decide +kernel
theorem dX1_comesFirst_12 : decode cX1_comesFirst 12 = .ok (.getfield 18, 3) := by decide +kernel
theorem dX1_comesFirst_15 : decode cX1_comesFirst 15 = .ok (.iload_n 1, 1) := by decide +kernel
theorem dX1_comesFirst_16 : decode cX1_comesFirst 16 = .ok (.iaload, 1) := by decide +kernel
theorem dX1_comesFirst_17 : decode cX1_comesFirst 17 = .ok (.if_icmp .ge 7, 3) := by decide +kernel
theorem dX1_comesFirst_20 : decode cX1_comesFirst 20 = .ok (.iconst 1, 1) := by decide +kernel
theorem dX1_comesFirst_21 : decode cX1_comesFirst 21 = .ok (.goto 4, 3) := by decide +kernel
theorem dX1_comesFirst_24 : decode cX1_comesFirst 24 = .ok (.iconst 0, 1) := by decide +kernel
theorem dX1_comesFirst_25 : decode cX1_comesFirst 25 = .ok (.ireturn, 1) := by decide +kernel
theorem dX1_comesFirst_26 : decode cX1_comesFirst 26 = .ok (.lload_n 3, 1) := by decide +kernel
theorem dX1_comesFirst_27 : decode cX1_comesFirst 27 = .ok (.aload_n 0, 1) := by decide +kernel
theorem dX1_comesFirst_28 : decode cX1_comesFirst 28 = .ok (.getfield 24, 3) := by decide +kernel
theorem dX1_comesFirst_31 : decode cX1_comesFirst 31 = .ok (.iload_n 1, 1) := by decide +kernel
theorem dX1_comesFirst_32 : decode cX1_comesFirst 32 = .ok (.laload, 1) := by decide +kernel
theorem dX1_comesFirst_33 : decode cX1_comesFirst 33 = .ok (.lcmp, 1) := by decide +kernel
theorem dX1_comesFirst_34 : decode cX1_comesFirst 34 = .ok (.ifCond .eq 20, 3) := by decide +kernel
theorem dX1_comesFirst_37 : decode cX1_comesFirst 37 = .ok (.lload_n 3, 1) := by decide +kernel
theorem dX1_comesFirst_38 : decode cX1_comesFirst 38 = .ok (.aload_n 0, 1) := by decide +kernel
theorem dX1_comesFirst_39 : decode cX1_comesFirst 39 = .ok (.getfield 24, 3) := by decide +kernel
theorem dX1_comesFirst_42 : decode cX1_comesFirst 42 = .ok (.iload_n 1, 1) := by decide +kernel
theorem dX1_comesFirst_43 : decode cX1_comesFirst 43 = .ok (.laload, 1) := by decide +kernel
theorem dX1_comesFirst_44 : decode cX1_comesFirst 44 = .ok (.lcmp, 1) := by decide +kernel
theorem dX1_comesFirst_45 : decode cX1_comesFirst 45 = .ok (.ifCond .ge 7, 3) := by decide +kernel
theorem dX1_comesFirst_48 : decode cX1_comesFirst 48 = .ok (.iconst 1, 1) := by decide +kernel
theorem dX1_comesFirst_49 : decode cX1_comesFirst 49 = .ok (.goto 4, 3) := by decide +kernel
theorem dX1_comesFirst_52 : decode cX1_comesFirst 52 = .ok (.iconst 0, 1) := by decide +kernel
theorem dX1_comesFirst_53 : decode cX1_comesFirst 53 = .ok (.ireturn, 1) := by decide +kernel
theorem dX1_comesFirst_54 : decode cX1_comesFirst 54 = .ok (.lload 5, 2) := by decide +kernel
theorem dX1_comesFirst_56 : decode cX1_comesFirst 56 = .ok (.aload_n 0, 1) := by decide +kernel
theorem dX1_comesFirst_57 : decode cX1_comesFirst 57 = .ok (.getfield 28, 3) := by decide +kernel
theorem dX1_comesFirst_60 : decode cX1_comesFirst 60 = .ok (.iload_n 1, 1) := by decide +kernel
theorem dX1_comesFirst_61 : decode cX1_comesFirst 61 = .ok (.laload, 1) := by decide +kernel
theorem dX1_comesFirst_62 : decode cX1_comesFirst 62 = .ok (.lcmp, 1) := by decide +kernel
theorem dX1_comesFirst_63 : decode cX1_comesFirst 63 = .ok (.ifCond .ge 7, 3) := by decide +kernel
theorem dX1_comesFirst_66 : decode cX1_comesFirst 66 = .ok (.iconst 1, 1) := by decide +kernel
theorem dX1_comesFirst_67 : decode cX1_comesFirst 67 = .ok (.goto 4, 3) := by decide +kernel
theorem dX1_comesFirst_70 : decode cX1_comesFirst 70 = .ok (.iconst 0, 1) := by decide +kernel
theorem dX1_comesFirst_71 : decode cX1_comesFirst 71 = .ok (.ireturn, 1) := by decide +kernel
theorem dX1_leastCost_0 : decode cX1_leastCost 0 = .ok (.aload_n 0, 1) := by decide +kernel
theorem dX1_leastCost_1 : decode cX1_leastCost 1 = .ok (.getfield 18, 3) := by decide +kernel
theorem dX1_leastCost_4 : decode cX1_leastCost 4 = .ok (.sipush 1152, 3) := by decide +kernel
theorem dX1_leastCost_7 : decode cX1_leastCost 7 = .ok (.iaload, 1) := by decide +kernel
theorem dX1_leastCost_8 : decode cX1_leastCost 8 = .ok (.ireturn, 1) := by decide +kernel
theorem dX1_secondCost_0 : decode cX1_secondCost 0 = .ok (.aload_n 0, 1) := by decide +kernel
theorem dX1_secondCost_1 : decode cX1_secondCost 1 = .ok (.getfield 21, 3) := by decide +kernel
theorem dX1_secondCost_4 : decode cX1_secondCost 4 = .ok (.sipush 1152, 3) := by decide +kernel
theorem dX1_secondCost_7 : decode cX1_secondCost 7 = .ok (.iaload, 1) := by decide +kernel
theorem dX1_secondCost_8 : decode cX1_secondCost 8 = .ok (.ireturn, 1) := by decide +kernel
theorem dX1_headOf_0 : decode cX1_headOf 0 = .ok (.iload_n 1, 1) := by decide +kernel
theorem dX1_headOf_1 : decode cX1_headOf 1 = .ok (.bipush 12, 2) := by decide +kernel
theorem dX1_headOf_3 : decode cX1_headOf 3 = .ok (.if_icmp .ge 21, 3) := by decide +kernel
theorem dX1_headOf_6 : decode cX1_headOf 6 = .ok (.aload_n 0, 1) := by decide +kernel
theorem dX1_headOf_7 : decode cX1_headOf 7 = .ok (.getfield 24, 3) := by decide +kernel
theorem dX1_headOf_10 : decode cX1_headOf 10 = .ok (.sipush 1152, 3) := by decide +kernel
theorem dX1_headOf_13 : decode cX1_headOf 13 = .ok (.laload, 1) := by decide +kernel
theorem dX1_headOf_14 : decode cX1_headOf 14 = .ok (.iconst 5, 1) := by decide +kernel
theorem dX1_headOf_15 : decode cX1_headOf 15 = .ok (.bipush 11, 2) := by decide +kernel
theorem dX1_headOf_17 : decode cX1_headOf 17 = .ok (.iload_n 1, 1) := by decide +kernel
theorem dX1_headOf_18 : decode cX1_headOf 18 = .ok (.isub, 1) := by decide +kernel
theorem dX1_headOf_19 : decode cX1_headOf 19 = .ok (.imul, 1) := by decide +kernel
theorem dX1_headOf_20 : decode cX1_headOf 20 = .ok (.lushr, 1) := by decide +kernel
theorem dX1_headOf_21 : decode cX1_headOf 21 = .ok (.goto 18, 3) := by decide +kernel
theorem dX1_headOf_24 : decode cX1_headOf 24 = .ok (.aload_n 0, 1) := by decide +kernel
theorem dX1_headOf_25 : decode cX1_headOf 25 = .ok (.getfield 28, 3) := by decide +kernel
theorem dX1_headOf_28 : decode cX1_headOf 28 = .ok (.sipush 1152, 3) := by decide +kernel
theorem dX1_headOf_31 : decode cX1_headOf 31 = .ok (.laload, 1) := by decide +kernel
theorem dX1_headOf_32 : decode cX1_headOf 32 = .ok (.iconst 5, 1) := by decide +kernel
theorem dX1_headOf_33 : decode cX1_headOf 33 = .ok (.bipush 23, 2) := by decide +kernel
theorem dX1_headOf_35 : decode cX1_headOf 35 = .ok (.iload_n 1, 1) := by decide +kernel
theorem dX1_headOf_36 : decode cX1_headOf 36 = .ok (.isub, 1) := by decide +kernel
theorem dX1_headOf_37 : decode cX1_headOf 37 = .ok (.imul, 1) := by decide +kernel
theorem dX1_headOf_38 : decode cX1_headOf 38 = .ok (.lushr, 1) := by decide +kernel
theorem dX1_headOf_39 : decode cX1_headOf 39 = .ok (.lstore_n 2, 1) := by decide +kernel
theorem dX1_headOf_40 : decode cX1_headOf 40 = .ok (.lload_n 2, 1) := by decide +kernel
theorem dX1_headOf_41 : decode cX1_headOf 41 = .ok (.ldc2_w 63, 3) := by decide +kernel
theorem dX1_headOf_44 : decode cX1_headOf 44 = .ok (.land, 1) := by decide +kernel
theorem dX1_headOf_45 : decode cX1_headOf 45 = .ok (.l2i, 1) := by decide +kernel
theorem dX1_headOf_46 : decode cX1_headOf 46 = .ok (.iconst 1, 1) := by decide +kernel
theorem dX1_headOf_47 : decode cX1_headOf 47 = .ok (.isub, 1) := by decide +kernel
theorem dX1_headOf_48 : decode cX1_headOf 48 = .ok (.ireturn, 1) := by decide +kernel
theorem dX2_init_0 : decode cX2_init 0 = .ok (.aload_n 0, 1) := by decide +kernel
theorem dX2_init_1 : decode cX2_init 1 = .ok (.invokespecial 3, 3) := by decide +kernel
theorem dX2_init_4 : decode cX2_init 4 = .ok (.aload_n 0, 1) := by decide +kernel
theorem dX2_init_5 : decode cX2_init 5 = .ok (.bipush 24, 2) := by decide +kernel
theorem dX2_init_7 : decode cX2_init 7 = .ok (.newarray .int, 2) := by decide +kernel
theorem dX2_init_9 : decode cX2_init 9 = .ok (.putfield 9, 3) := by decide +kernel
theorem dX2_init_12 : decode cX2_init 12 = .ok (.aload_n 0, 1) := by decide +kernel
theorem dX2_init_13 : decode cX2_init 13 = .ok (.bipush 24, 2) := by decide +kernel
theorem dX2_init_15 : decode cX2_init 15 = .ok (.newarray .int, 2) := by decide +kernel
theorem dX2_init_17 : decode cX2_init 17 = .ok (.putfield 15, 3) := by decide +kernel
theorem dX2_init_20 : decode cX2_init 20 = .ok (.aload_n 0, 1) := by decide +kernel
theorem dX2_init_21 : decode cX2_init 21 = .ok (.sipush 576, 3) := by decide +kernel
theorem dX2_init_24 : decode cX2_init 24 = .ok (.newarray .int, 2) := by decide +kernel
theorem dX2_init_26 : decode cX2_init 26 = .ok (.putfield 18, 3) := by decide +kernel
theorem dX2_init_29 : decode cX2_init 29 = .ok (.aload_n 0, 1) := by decide +kernel
theorem dX2_init_30 : decode cX2_init 30 = .ok (.sipush 360, 3) := by decide +kernel
theorem dX2_init_33 : decode cX2_init 33 = .ok (.newarray .long, 2) := by decide +kernel
theorem dX2_init_35 : decode cX2_init 35 = .ok (.putfield 21, 3) := by decide +kernel
theorem dX2_init_38 : decode cX2_init 38 = .ok (.aload_n 0, 1) := by decide +kernel
theorem dX2_init_39 : decode cX2_init 39 = .ok (.sipush 960, 3) := by decide +kernel
theorem dX2_init_42 : decode cX2_init 42 = .ok (.newarray .int, 2) := by decide +kernel
theorem dX2_init_44 : decode cX2_init 44 = .ok (.putfield 25, 3) := by decide +kernel
theorem dX2_init_47 : decode cX2_init 47 = .ok (.aload_n 0, 1) := by decide +kernel
theorem dX2_init_48 : decode cX2_init 48 = .ok (.sipush 960, 3) := by decide +kernel
theorem dX2_init_51 : decode cX2_init 51 = .ok (.newarray .int, 2) := by decide +kernel
theorem dX2_init_53 : decode cX2_init 53 = .ok (.putfield 28, 3) := by decide +kernel
theorem dX2_init_56 : decode cX2_init 56 = .ok (.aload_n 0, 1) := by decide +kernel
theorem dX2_init_57 : decode cX2_init 57 = .ok (.sipush 960, 3) := by decide +kernel
theorem dX2_init_60 : decode cX2_init 60 = .ok (.newarray .int, 2) := by decide +kernel
theorem dX2_init_62 : decode cX2_init 62 = .ok (.putfield 31, 3) := by decide +kernel
theorem dX2_init_65 : decode cX2_init 65 = .ok (.aload_n 0, 1) := by decide +kernel
theorem dX2_init_66 : decode cX2_init 66 = .ok (.sipush 256, 3) := by decide +kernel
theorem dX2_init_69 : decode cX2_init 69 = .ok (.newarray .int, 2) := by decide +kernel
theorem dX2_init_71 : decode cX2_init 71 = .ok (.putfield 34, 3) := by decide +kernel
theorem dX2_init_74 : decode cX2_init 74 = .ok (.return_, 1) := by decide +kernel
theorem dX2_gather_0 : decode cX2_gather 0 = .ok (.aload_n 0, 1) := by decide +kernel
theorem dX2_gather_1 : decode cX2_gather 1 = .ok (.iconst 0, 1) := by decide +kernel
theorem dX2_gather_2 : decode cX2_gather 2 = .ok (.putfield 37, 3) := by decide +kernel
theorem dX2_gather_5 : decode cX2_gather 5 = .ok (.aload_n 0, 1) := by decide +kernel
theorem dX2_gather_6 : decode cX2_gather 6 = .ok (.getfield 21, 3) := by decide +kernel
theorem dX2_gather_9 : decode cX2_gather 9 = .ok (.lconst 0, 1) := by decide +kernel
theorem dX2_gather_10 : decode cX2_gather 10 = .ok (.invokestatic 41, 3) := by decide +kernel
theorem dX2_gather_13 : decode cX2_gather 13 = .ok (.aload_n 0, 1) := by decide +kernel
theorem dX2_gather_14 : decode cX2_gather 14 = .ok (.getfield 34, 3) := by decide +kernel
theorem dX2_gather_17 : decode cX2_gather 17 = .ok (.iconst (-1), 1) := by decide +kernel
theorem dX2_gather_18 : decode cX2_gather 18 = .ok (.invokestatic 47, 3) := by decide +kernel
theorem dX2_gather_21 : decode cX2_gather 21 = .ok (.iconst 0, 1) := by decide +kernel
theorem dX2_gather_22 : decode cX2_gather 22 = .ok (.istore 5, 2) := by decide +kernel
theorem dX2_gather_24 : decode cX2_gather 24 = .ok (.iload 5, 2) := by decide +kernel
theorem dX2_gather_26 : decode cX2_gather 26 = .ok (.aload_n 1, 1) := by decide +kernel
theorem dX2_gather_27 : decode cX2_gather 27 = .ok (.getfield 50, 3) := by decide +kernel
theorem dX2_gather_30 : decode cX2_gather 30 = .ok (.if_icmp .ge 110, 3) := by decide +kernel
theorem dX2_gather_33 : decode cX2_gather 33 = .ok (.aload_n 1, 1) := by decide +kernel
theorem dX2_gather_34 : decode cX2_gather 34 = .ok (.getfield 55, 3) := by decide +kernel
theorem dX2_gather_37 : decode cX2_gather 37 = .ok (.iload 5, 2) := by decide +kernel
theorem dX2_gather_39 : decode cX2_gather 39 = .ok (.iaload, 1) := by decide +kernel
theorem dX2_gather_40 : decode cX2_gather 40 = .ok (.istore 6, 2) := by decide +kernel
theorem dX2_gather_42 : decode cX2_gather 42 = .ok (.aload_n 3, 1) := by decide +kernel
theorem dX2_gather_43 : decode cX2_gather 43 = .ok (.aload_n 1, 1) := by decide +kernel
theorem dX2_gather_44 : decode cX2_gather 44 = .ok (.getfield 58, 3) := by decide +kernel
theorem dX2_gather_47 : decode cX2_gather 47 = .ok (.aload_n 1, 1) := by decide +kernel
theorem dX2_gather_48 : decode cX2_gather 48 = .ok (.getfield 61, 3) := by decide +kernel
theorem dX2_gather_51 : decode cX2_gather 51 = .ok (.iload 6, 2) := by decide +kernel
theorem dX2_gather_53 : decode cX2_gather 53 = .ok (.iaload, 1) := by decide +kernel
theorem dX2_gather_54 : decode cX2_gather 54 = .ok (.aload_n 1, 1) := by decide +kernel
theorem dX2_gather_55 : decode cX2_gather 55 = .ok (.getfield 64, 3) := by decide +kernel
theorem dX2_gather_58 : decode cX2_gather 58 = .ok (.iload 6, 2) := by decide +kernel
theorem dX2_gather_60 : decode cX2_gather 60 = .ok (.iaload, 1) := by decide +kernel
theorem dX2_gather_61 : decode cX2_gather 61 = .ok (.invokevirtual 67, 3) := by decide +kernel
theorem dX2_gather_64 : decode cX2_gather 64 = .ok (.istore 7, 2) := by decide +kernel
theorem dX2_gather_66 : decode cX2_gather 66 = .ok (.aload_n 0, 1) := by decide +kernel
theorem dX2_gather_67 : decode cX2_gather 67 = .ok (.getfield 9, 3) := by decide +kernel
theorem dX2_gather_70 : decode cX2_gather 70 = .ok (.iload 5, 2) := by decide +kernel
theorem dX2_gather_72 : decode cX2_gather 72 = .ok (.iload 7, 2) := by decide +kernel
theorem dX2_gather_74 : decode cX2_gather 74 = .ok (.ifCond .lt 13, 3) := by decide +kernel
theorem dX2_gather_77 : decode cX2_gather 77 = .ok (.aload_n 3, 1) := by decide +kernel
theorem dX2_gather_78 : decode cX2_gather 78 = .ok (.getfield 73, 3) := by decide +kernel
theorem dX2_gather_81 : decode cX2_gather 81 = .ok (.iload 7, 2) := by decide +kernel
theorem dX2_gather_83 : decode cX2_gather 83 = .ok (.iaload, 1) := by decide +kernel
theorem dX2_gather_84 : decode cX2_gather 84 = .ok (.goto 4, 3) := by decide +kernel
theorem dX2_gather_87 : decode cX2_gather 87 = .ok (.iconst 0, 1) := by decide +kernel
theorem dX2_gather_88 : decode cX2_gather 88 = .ok (.iastore, 1) := by decide +kernel
theorem dX2_gather_89 : decode cX2_gather 89 = .ok (.iload 7, 2) := by decide +kernel
theorem dX2_gather_91 : decode cX2_gather 91 = .ok (.ifCond .lt 7, 3) := by decide +kernel
theorem dX2_gather_94 : decode cX2_gather 94 = .ok (.iconst 1, 1) := by decide +kernel
theorem dX2_gather_95 : decode cX2_gather 95 = .ok (.goto 4, 3) := by decide +kernel
theorem dX2_gather_98 : decode cX2_gather 98 = .ok (.iconst 0, 1) := by decide +kernel
theorem dX2_gather_99 : decode cX2_gather 99 = .ok (.istore 8, 2) := by decide +kernel
theorem dX2_gather_101 : decode cX2_gather 101 = .ok (.iload 8, 2) := by decide +kernel
theorem dX2_gather_103 : decode cX2_gather 103 = .ok (.aload_n 1, 1) := by decide +kernel
theorem dX2_gather_104 : decode cX2_gather 104 = .ok (.getfield 76, 3) := by decide +kernel
theorem dX2_gather_107 : decode cX2_gather 107 = .ok (.iload 5, 2) := by decide +kernel
theorem dX2_gather_109 : decode cX2_gather 109 = .ok (.iaload, 1) := by decide +kernel
theorem dX2_gather_110 : decode cX2_gather 110 = .ok (.if_icmp .ge 24, 3) := by decide +kernel
theorem dX2_gather_113 : decode cX2_gather 113 = .ok (.aload_n 0, 1) := by decide +kernel
theorem dX2_gather_114 : decode cX2_gather 114 = .ok (.aload_n 1, 1) := by decide +kernel
theorem dX2_gather_115 : decode cX2_gather 115 = .ok (.iload 5, 2) := by decide +kernel
theorem dX2_gather_117 : decode cX2_gather 117 = .ok (.iload 6, 2) := by decide +kernel
theorem dX2_gather_119 : decode cX2_gather 119 = .ok (.iload 8, 2) := by decide +kernel
theorem dX2_gather_121 : decode cX2_gather 121 = .ok (.iadd, 1) := by decide +kernel
theorem dX2_gather_122 : decode cX2_gather 122 = .ok (.aload_n 2, 1) := by decide +kernel
theorem dX2_gather_123 : decode cX2_gather 123 = .ok (.aload 4, 2) := by decide +kernel
theorem dX2_gather_125 : decode cX2_gather 125 = .ok (.invokevirtual 79, 3) := by decide +kernel
theorem dX2_gather_128 : decode cX2_gather 128 = .ok (.iinc 8 1, 3) := by decide +kernel
theorem dX2_gather_131 : decode cX2_gather 131 = .ok (.goto (-30), 3) := by decide +kernel
theorem dX2_gather_134 : decode cX2_gather 134 = .ok (.iinc 5 1, 3) := by decide +kernel
theorem dX2_gather_137 : decode cX2_gather 137 = .ok (.goto (-113), 3) := by decide +kernel
theorem dX2_gather_140 : decode cX2_gather 140 = .ok (.aload_n 0, 1) := by decide +kernel
theorem dX2_gather_141 : decode cX2_gather 141 = .ok (.aload_n 1, 1) := by decide +kernel
theorem dX2_gather_142 : decode cX2_gather 142 = .ok (.getfield 50, 3) := by decide +kernel
theorem dX2_gather_145 : decode cX2_gather 145 = .ok (.invokevirtual 83, 3) := by decide +kernel
theorem dX2_gather_148 : decode cX2_gather 148 = .ok (.return_, 1) := by decide +kernel
theorem dX2_takeWord_0 : decode cX2_takeWord 0 = .ok (.aload_n 1, 1) := by decide +kernel
theorem dX2_takeWord_1 : decode cX2_takeWord 1 = .ok (.getfield 61, 3) := by decide +kernel
theorem dX2_takeWord_4 : decode cX2_takeWord 4 = .ok (.iload_n 3, 1) := by decide +kernel
theorem dX2_takeWord_5 : decode cX2_takeWord 5 = .ok (.iaload, 1) := by decide +kernel
theorem dX2_takeWord_6 : decode cX2_takeWord 6 = .ok (.istore 6, 2) := by decide +kernel
theorem dX2_takeWord_8 : decode cX2_takeWord 8 = .ok (.aload_n 1, 1) := by decide +kernel
theorem dX2_takeWord_9 : decode cX2_takeWord 9 = .ok (.getfield 64, 3) := by decide +kernel
theorem dX2_takeWord_12 : decode cX2_takeWord 12 = .ok (.iload_n 3, 1) := by decide +kernel
theorem dX2_takeWord_13 : decode cX2_takeWord 13 = .ok (.iaload, 1) := by decide +kernel
theorem dX2_takeWord_14 : decode cX2_takeWord 14 = .ok (.istore 7, 2) := by decide +kernel
theorem dX2_takeWord_16 : decode cX2_takeWord 16 = .ok (.aload 4, 2) := by decide +kernel
theorem dX2_takeWord_18 : decode cX2_takeWord 18 = .ok (.aload_n 1, 1) := by decide +kernel
theorem dX2_takeWord_19 : decode cX2_takeWord 19 = .ok (.getfield 58, 3) := by decide +kernel
theorem dX2_takeWord_22 : decode cX2_takeWord 22 = .ok (.iload 6, 2) := by decide +kernel
theorem dX2_takeWord_24 : decode cX2_takeWord 24 = .ok (.iload 7, 2) := by decide +kernel
theorem dX2_takeWord_26 : decode cX2_takeWord 26 = .ok (.invokevirtual 67, 3) := by decide +kernel
theorem dX2_takeWord_29 : decode cX2_takeWord 29 = .ok (.ifCond .ge 62, 3) := by decide +kernel
theorem dX2_takeWord_32 : decode cX2_takeWord 32 = .ok (.aload 5, 2) := by decide +kernel
theorem dX2_takeWord_34 : decode cX2_takeWord 34 = .ok (.aload_n 1, 1) := by decide +kernel
theorem dX2_takeWord_35 : decode cX2_takeWord 35 = .ok (.getfield 58, 3) := by decide +kernel
theorem dX2_takeWord_38 : decode cX2_takeWord 38 = .ok (.iload 6, 2) := by decide +kernel
theorem dX2_takeWord_40 : decode cX2_takeWord 40 = .ok (.iload 7, 2) := by decide +kernel
theorem dX2_takeWord_42 : decode cX2_takeWord 42 = .ok (.invokevirtual 87, 3) := by decide +kernel
theorem dX2_takeWord_45 : decode cX2_takeWord 45 = .ok (.istore 8, 2) := by decide +kernel
theorem dX2_takeWord_47 : decode cX2_takeWord 47 = .ok (.aload_n 0, 1) := by decide +kernel
theorem dX2_takeWord_48 : decode cX2_takeWord 48 = .ok (.aload_n 1, 1) := by decide +kernel
theorem dX2_takeWord_49 : decode cX2_takeWord 49 = .ok (.getfield 58, 3) := by decide +kernel
theorem dX2_takeWord_52 : decode cX2_takeWord 52 = .ok (.iload 6, 2) := by decide +kernel
theorem dX2_takeWord_54 : decode cX2_takeWord 54 = .ok (.iload 8, 2) := by decide +kernel
theorem dX2_takeWord_56 : decode cX2_takeWord 56 = .ok (.invokevirtual 90, 3) := by decide +kernel
theorem dX2_takeWord_59 : decode cX2_takeWord 59 = .ok (.istore 9, 2) := by decide +kernel
theorem dX2_takeWord_61 : decode cX2_takeWord 61 = .ok (.iload 9, 2) := by decide +kernel
theorem dX2_takeWord_63 : decode cX2_takeWord 63 = .ok (.ifCond .lt 28, 3) := by decide +kernel
theorem dX2_takeWord_66 : decode cX2_takeWord 66 = .ok (.aload_n 0, 1) := by decide +kernel
theorem dX2_takeWord_67 : decode cX2_takeWord 67 = .ok (.getfield 21, 3) := by decide +kernel
theorem dX2_takeWord_70 : decode cX2_takeWord 70 = .ok (.iload_n 2, 1) := by decide +kernel
theorem dX2_takeWord_71 : decode cX2_takeWord 71 = .ok (.bipush 15, 2) := by decide +kernel
theorem dX2_takeWord_73 : decode cX2_takeWord 73 = .ok (.imul, 1) := by decide +kernel
theorem dX2_takeWord_74 : decode cX2_takeWord 74 = .ok (.iload 9, 2) := by decide +kernel
theorem dX2_takeWord_76 : decode cX2_takeWord 76 = .ok (.bipush 64, 2) := by decide +kernel
theorem dX2_takeWord_78 : decode cX2_takeWord 78 = .ok (.idiv, 1) := by decide +kernel
theorem dX2_takeWord_79 : decode cX2_takeWord 79 = .ok (.iadd, 1) := by decide +kernel
theorem dX2_takeWord_80 : decode cX2_takeWord 80 = .ok (.dup2, 1) := by decide +kernel
theorem dX2_takeWord_81 : decode cX2_takeWord 81 = .ok (.laload, 1) := by decide +kernel
theorem dX2_takeWord_82 : decode cX2_takeWord 82 = .ok (.lconst 1, 1) := by decide +kernel
theorem dX2_takeWord_83 : decode cX2_takeWord 83 = .ok (.iload 9, 2) := by decide +kernel
theorem dX2_takeWord_85 : decode cX2_takeWord 85 = .ok (.bipush 64, 2) := by decide +kernel
theorem dX2_takeWord_87 : decode cX2_takeWord 87 = .ok (.irem, 1) := by decide +kernel
theorem dX2_takeWord_88 : decode cX2_takeWord 88 = .ok (.lshl, 1) := by decide +kernel
theorem dX2_takeWord_89 : decode cX2_takeWord 89 = .ok (.lor, 1) := by decide +kernel
theorem dX2_takeWord_90 : decode cX2_takeWord 90 = .ok (.lastore, 1) := by decide +kernel
theorem dX2_takeWord_91 : decode cX2_takeWord 91 = .ok (.return_, 1) := by decide +kernel
theorem dX2_keyOf_0 : decode cX2_keyOf 0 = .ok (.iconst 0, 1) := by decide +kernel
theorem dX2_keyOf_1 : decode cX2_keyOf 1 = .ok (.istore 4, 2) := by decide +kernel
theorem dX2_keyOf_3 : decode cX2_keyOf 3 = .ok (.iconst 0, 1) := by decide +kernel
theorem dX2_keyOf_4 : decode cX2_keyOf 4 = .ok (.istore 5, 2) := by decide +kernel
theorem dX2_keyOf_6 : decode cX2_keyOf 6 = .ok (.iload 5, 2) := by decide +kernel
theorem dX2_keyOf_8 : decode cX2_keyOf 8 = .ok (.iload_n 3, 1) := by decide +kernel
theorem dX2_keyOf_9 : decode cX2_keyOf 9 = .ok (.if_icmp .ge 23, 3) := by decide +kernel
theorem dX2_keyOf_12 : decode cX2_keyOf 12 = .ok (.iload 4, 2) := by decide +kernel
theorem dX2_keyOf_14 : decode cX2_keyOf 14 = .ok (.bipush 31, 2) := by decide +kernel
theorem dX2_keyOf_16 : decode cX2_keyOf 16 = .ok (.imul, 1) := by decide +kernel
theorem dX2_keyOf_17 : decode cX2_keyOf 17 = .ok (.aload_n 1, 1) := by decide +kernel
theorem dX2_keyOf_18 : decode cX2_keyOf 18 = .ok (.iload_n 2, 1) := by decide +kernel
theorem dX2_keyOf_19 : decode cX2_keyOf 19 = .ok (.iload 5, 2) := by decide +kernel
theorem dX2_keyOf_21 : decode cX2_keyOf 21 = .ok (.iadd, 1) := by decide +kernel
theorem dX2_keyOf_22 : decode cX2_keyOf 22 = .ok (.iaload, 1) := by decide +kernel
theorem dX2_keyOf_23 : decode cX2_keyOf 23 = .ok (.iadd, 1) := by decide +kernel
theorem dX2_keyOf_24 : decode cX2_keyOf 24 = .ok (.istore 4, 2) := by decide +kernel
theorem dX2_keyOf_26 : decode cX2_keyOf 26 = .ok (.iinc 5 1, 3) := by decide +kernel
theorem dX2_keyOf_29 : decode cX2_keyOf 29 = .ok (.goto (-23), 3) := by decide +kernel
theorem dX2_keyOf_32 : decode cX2_keyOf 32 = .ok (.iload 4, 2) := by decide +kernel
theorem dX2_keyOf_34 : decode cX2_keyOf 34 = .ok (.iload 4, 2) := by decide +kernel
theorem dX2_keyOf_36 : decode cX2_keyOf 36 = .ok (.bipush 8, 2) := by decide +kernel
theorem dX2_keyOf_38 : decode cX2_keyOf 38 = .ok (.iushr, 1) := by decide +kernel
theorem dX2_keyOf_39 : decode cX2_keyOf 39 = .ok (.ixor, 1) := by decide +kernel
theorem dX2_keyOf_40 : decode cX2_keyOf 40 = .ok (.sipush 255, 3) := by decide +kernel
theorem dX2_keyOf_43 : decode cX2_keyOf 43 = .ok (.iand, 1) := by decide +kernel
theorem dX2_keyOf_44 : decode cX2_keyOf 44 = .ok (.istore 5, 2) := by decide +kernel
theorem dX2_keyOf_46 : decode cX2_keyOf 46 = .ok (.aload_n 0, 1) := by decide +kernel
theorem dX2_keyOf_47 : decode cX2_keyOf 47 = .ok (.getfield 34, 3) := by decide +kernel
theorem dX2_keyOf_50 : decode cX2_keyOf 50 = .ok (.iload 5, 2) := by decide +kernel
theorem dX2_keyOf_52 : decode cX2_keyOf 52 = .ok (.iaload, 1) := by decide +kernel
theorem dX2_keyOf_53 : decode cX2_keyOf 53 = .ok (.istore 6, 2) := by decide +kernel
theorem dX2_keyOf_55 : decode cX2_keyOf 55 = .ok (.iconst 0, 1) := by decide +kernel
theorem dX2_keyOf_56 : decode cX2_keyOf 56 = .ok (.istore 7, 2) := by decide +kernel
theorem dX2_keyOf_58 : decode cX2_keyOf 58 = .ok (.iload 7, 2) := by decide +kernel
theorem dX2_keyOf_60 : decode cX2_keyOf 60 = .ok (.aload_n 0, 1) := by decide +kernel
theorem dX2_keyOf_61 : decode cX2_keyOf 61 = .ok (.getfield 37, 3) := by decide +kernel
theorem dX2_keyOf_64 : decode cX2_keyOf 64 = .ok (.if_icmp .ge 53, 3) := by decide +kernel
theorem dX2_keyOf_67 : decode cX2_keyOf 67 = .ok (.iload 6, 2) := by decide +kernel
theorem dX2_keyOf_69 : decode cX2_keyOf 69 = .ok (.ifCond .lt 48, 3) := by decide +kernel
theorem dX2_keyOf_72 : decode cX2_keyOf 72 = .ok (.aload_n 0, 1) := by decide +kernel
theorem dX2_keyOf_73 : decode cX2_keyOf 73 = .ok (.getfield 28, 3) := by decide +kernel
theorem dX2_keyOf_76 : decode cX2_keyOf 76 = .ok (.iload 6, 2) := by decide +kernel
theorem dX2_keyOf_78 : decode cX2_keyOf 78 = .ok (.iaload, 1) := by decide +kernel
theorem dX2_keyOf_79 : decode cX2_keyOf 79 = .ok (.iload_n 3, 1) := by decide +kernel
theorem dX2_keyOf_80 : decode cX2_keyOf 80 = .ok (.if_icmp .ne 22, 3) := by decide +kernel
theorem dX2_keyOf_83 : decode cX2_keyOf 83 = .ok (.aload_n 1, 1) := by decide +kernel
theorem dX2_keyOf_84 : decode cX2_keyOf 84 = .ok (.aload_n 0, 1) := by decide +kernel
theorem dX2_keyOf_85 : decode cX2_keyOf 85 = .ok (.getfield 25, 3) := by decide +kernel
theorem dX2_keyOf_88 : decode cX2_keyOf 88 = .ok (.iload 6, 2) := by decide +kernel
theorem dX2_keyOf_90 : decode cX2_keyOf 90 = .ok (.iaload, 1) := by decide +kernel
theorem dX2_keyOf_91 : decode cX2_keyOf 91 = .ok (.iload_n 2, 1) := by decide +kernel
theorem dX2_keyOf_92 : decode cX2_keyOf 92 = .ok (.iload_n 3, 1) := by decide +kernel
theorem dX2_keyOf_93 : decode cX2_keyOf 93 = .ok (.invokestatic 93, 3) := by decide +kernel
theorem dX2_keyOf_96 : decode cX2_keyOf 96 = .ok (.ifCond .eq 6, 3) := by decide +kernel
theorem dX2_keyOf_99 : decode cX2_keyOf 99 = .ok (.iload 6, 2) := by decide +kernel
theorem dX2_keyOf_101 : decode cX2_keyOf 101 = .ok (.ireturn, 1) := by decide +kernel
theorem dX2_keyOf_102 : decode cX2_keyOf 102 = .ok (.aload_n 0, 1) := by decide +kernel
theorem dX2_keyOf_103 : decode cX2_keyOf 103 = .ok (.getfield 31, 3) := by decide +kernel
theorem dX2_keyOf_106 : decode cX2_keyOf 106 = .ok (.iload 6, 2) := by decide +kernel
theorem dX2_keyOf_108 : decode cX2_keyOf 108 = .ok (.iaload, 1) := by decide +kernel
theorem dX2_keyOf_109 : decode cX2_keyOf 109 = .ok (.istore 6, 2) := by decide +kernel
theorem dX2_keyOf_111 : decode cX2_keyOf 111 = .ok (.iinc 7 1, 3) := by decide +kernel
theorem dX2_keyOf_114 : decode cX2_keyOf 114 = .ok (.goto (-56), 3) := by decide +kernel
theorem dX2_keyOf_117 : decode cX2_keyOf 117 = .ok (.aload_n 0, 1) := by decide +kernel
theorem dX2_keyOf_118 : decode cX2_keyOf 118 = .ok (.iload_n 2, 1) := by decide +kernel
theorem dX2_keyOf_119 : decode cX2_keyOf 119 = .ok (.iload_n 3, 1) := by decide +kernel
theorem dX2_keyOf_120 : decode cX2_keyOf 120 = .ok (.iload 5, 2) := by decide +kernel
theorem dX2_keyOf_122 : decode cX2_keyOf 122 = .ok (.invokevirtual 97, 3) := by decide +kernel
theorem dX2_keyOf_125 : decode cX2_keyOf 125 = .ok (.ireturn, 1) := by decide +kernel
theorem dX2_addKey_0 : decode cX2_addKey 0 = .ok (.aload_n 0, 1) := by decide +kernel
theorem dX2_addKey_1 : decode cX2_addKey 1 = .ok (.getfield 37, 3) := by decide +kernel
theorem dX2_addKey_4 : decode cX2_addKey 4 = .ok (.sipush 960, 3) := by decide +kernel
theorem dX2_addKey_7 : decode cX2_addKey 7 = .ok (.if_icmp .lt 5, 3) := by decide +kernel
theorem dX2_addKey_10 : decode cX2_addKey 10 = .ok (.iconst (-1), 1) := by decide +kernel
theorem dX2_addKey_11 : decode cX2_addKey 11 = .ok (.ireturn, 1) := by decide +kernel
theorem dX2_addKey_12 : decode cX2_addKey 12 = .ok (.aload_n 0, 1) := by decide +kernel
theorem dX2_addKey_13 : decode cX2_addKey 13 = .ok (.getfield 25, 3) := by decide +kernel
theorem dX2_addKey_16 : decode cX2_addKey 16 = .ok (.aload_n 0, 1) := by decide +kernel
theorem dX2_addKey_17 : decode cX2_addKey 17 = .ok (.getfield 37, 3) := by decide +kernel
theorem dX2_addKey_20 : decode cX2_addKey 20 = .ok (.iload_n 1, 1) := by decide +kernel
theorem dX2_addKey_21 : decode cX2_addKey 21 = .ok (.iastore, 1) := by decide +kernel
theorem dX2_addKey_22 : decode cX2_addKey 22 = .ok (.aload_n 0, 1) := by decide +kernel
theorem dX2_addKey_23 : decode cX2_addKey 23 = .ok (.getfield 28, 3) := by decide +kernel
theorem dX2_addKey_26 : decode cX2_addKey 26 = .ok (.aload_n 0, 1) := by decide +kernel
theorem dX2_addKey_27 : decode cX2_addKey 27 = .ok (.getfield 37, 3) := by decide +kernel
theorem dX2_addKey_30 : decode cX2_addKey 30 = .ok (.iload_n 2, 1) := by decide +kernel
theorem dX2_addKey_31 : decode cX2_addKey 31 = .ok (.iastore, 1) := by decide +kernel
theorem dX2_addKey_32 : decode cX2_addKey 32 = .ok (.aload_n 0, 1) := by decide +kernel
theorem dX2_addKey_33 : decode cX2_addKey 33 = .ok (.getfield 31, 3) := by decide +kernel
theorem dX2_addKey_36 : decode cX2_addKey 36 = .ok (.aload_n 0, 1) := by decide +kernel
theorem dX2_addKey_37 : decode cX2_addKey 37 = .ok (.getfield 37, 3) := by decide +kernel
theorem dX2_addKey_40 : decode cX2_addKey 40 = .ok (.aload_n 0, 1) := by decide +kernel
theorem dX2_addKey_41 : decode cX2_addKey 41 = .ok (.getfield 34, 3) := by decide +kernel
theorem dX2_addKey_44 : decode cX2_addKey 44 = .ok (.iload_n 3, 1) := by decide +kernel
theorem dX2_addKey_45 : decode cX2_addKey 45 = .ok (.iaload, 1) := by decide +kernel
theorem dX2_addKey_46 : decode cX2_addKey 46 = .ok (.iastore, 1) := by decide +kernel
theorem dX2_addKey_47 : decode cX2_addKey 47 = .ok (.aload_n 0, 1) := by decide +kernel
theorem dX2_addKey_48 : decode cX2_addKey 48 = .ok (.getfield 34, 3) := by decide +kernel
theorem dX2_addKey_51 : decode cX2_addKey 51 = .ok (.iload_n 3, 1) := by decide +kernel
theorem dX2_addKey_52 : decode cX2_addKey 52 = .ok (.aload_n 0, 1) := by decide +kernel
theorem dX2_addKey_53 : decode cX2_addKey 53 = .ok (.getfield 37, 3) := by decide +kernel
theorem dX2_addKey_56 : decode cX2_addKey 56 = .ok (.iastore, 1) := by decide +kernel
theorem dX2_addKey_57 : decode cX2_addKey 57 = .ok (.aload_n 0, 1) := by decide +kernel
theorem dX2_addKey_58 : decode cX2_addKey 58 = .ok (.dup, 1) := by decide +kernel
theorem dX2_addKey_59 : decode cX2_addKey 59 = .ok (.getfield 37, 3) := by decide +kernel
theorem dX2_addKey_62 : decode cX2_addKey 62 = .ok (.iconst 1, 1) := by decide +kernel
theorem dX2_addKey_63 : decode cX2_addKey 63 = .ok (.iadd, 1) := by decide +kernel
theorem dX2_addKey_64 : decode cX2_addKey 64 = .ok (.putfield 37, 3) := by decide +kernel
theorem dX2_addKey_67 : decode cX2_addKey 67 = .ok (.aload_n 0, 1) := by decide +kernel
theorem dX2_addKey_68 : decode cX2_addKey 68 = .ok (.getfield 37, 3) := by decide +kernel
theorem dX2_addKey_71 : decode cX2_addKey 71 = .ok (.iconst 1, 1) := by decide +kernel
theorem dX2_addKey_72 : decode cX2_addKey 72 = .ok (.isub, 1) := by decide +kernel
theorem dX2_addKey_73 : decode cX2_addKey 73 = .ok (.ireturn, 1) := by decide +kernel
theorem dX2_isSame_0 : decode cX2_isSame 0 = .ok (.iconst 0, 1) := by decide +kernel
theorem dX2_isSame_1 : decode cX2_isSame 1 = .ok (.istore 4, 2) := by decide +kernel
theorem dX2_isSame_3 : decode cX2_isSame 3 = .ok (.iload 4, 2) := by decide +kernel
theorem dX2_isSame_5 : decode cX2_isSame 5 = .ok (.iload_n 3, 1) := by decide +kernel
theorem dX2_isSame_6 : decode cX2_isSame 6 = .ok (.if_icmp .ge 26, 3) := by decide +kernel
theorem dX2_isSame_9 : decode cX2_isSame 9 = .ok (.aload_n 0, 1) := by decide +kernel
theorem dX2_isSame_10 : decode cX2_isSame 10 = .ok (.iload_n 1, 1) := by decide +kernel
theorem dX2_isSame_11 : decode cX2_isSame 11 = .ok (.iload 4, 2) := by decide +kernel
theorem dX2_isSame_13 : decode cX2_isSame 13 = .ok (.iadd, 1) := by decide +kernel
theorem dX2_isSame_14 : decode cX2_isSame 14 = .ok (.iaload, 1) := by decide +kernel
theorem dX2_isSame_15 : decode cX2_isSame 15 = .ok (.aload_n 0, 1) := by decide +kernel
theorem dX2_isSame_16 : decode cX2_isSame 16 = .ok (.iload_n 2, 1) := by decide +kernel
theorem dX2_isSame_17 : decode cX2_isSame 17 = .ok (.iload 4, 2) := by decide +kernel
theorem dX2_isSame_19 : decode cX2_isSame 19 = .ok (.iadd, 1) := by decide +kernel
theorem dX2_isSame_20 : decode cX2_isSame 20 = .ok (.iaload, 1) := by decide +kernel
theorem dX2_isSame_21 : decode cX2_isSame 21 = .ok (.if_icmp .eq 5, 3) := by decide +kernel
theorem dX2_isSame_24 : decode cX2_isSame 24 = .ok (.iconst 0, 1) := by decide +kernel
theorem dX2_isSame_25 : decode cX2_isSame 25 = .ok (.ireturn, 1) := by decide +kernel
theorem dX2_isSame_26 : decode cX2_isSame 26 = .ok (.iinc 4 1, 3) := by decide +kernel
theorem dX2_isSame_29 : decode cX2_isSame 29 = .ok (.goto (-26), 3) := by decide +kernel
theorem dX2_isSame_32 : decode cX2_isSame 32 = .ok (.iconst 1, 1) := by decide +kernel
theorem dX2_isSame_33 : decode cX2_isSame 33 = .ok (.ireturn, 1) := by decide +kernel
theorem dX2_longsUsed_0 : decode cX2_longsUsed 0 = .ok (.aload_n 0, 1) := by decide +kernel
theorem dX2_longsUsed_1 : decode cX2_longsUsed 1 = .ok (.getfield 37, 3) := by decide +kernel
theorem dX2_longsUsed_4 : decode cX2_longsUsed 4 = .ok (.bipush 63, 2) := by decide +kernel
theorem dX2_longsUsed_6 : decode cX2_longsUsed 6 = .ok (.iadd, 1) := by decide +kernel
theorem dX2_longsUsed_7 : decode cX2_longsUsed 7 = .ok (.bipush 64, 2) := by decide +kernel
theorem dX2_longsUsed_9 : decode cX2_longsUsed 9 = .ok (.idiv, 1) := by decide +kernel
theorem dX2_longsUsed_10 : decode cX2_longsUsed 10 = .ok (.ireturn, 1) := by decide +kernel
theorem dX2_compare_0 : decode cX2_compare 0 = .ok (.aload_n 0, 1) := by decide +kernel
theorem dX2_compare_1 : decode cX2_compare 1 = .ok (.invokevirtual 101, 3) := by decide +kernel
theorem dX2_compare_4 : decode cX2_compare 4 = .ok (.istore_n 2, 1) := by decide +kernel
theorem dX2_compare_5 : decode cX2_compare 5 = .ok (.iconst 0, 1) := by decide +kernel
theorem dX2_compare_6 : decode cX2_compare 6 = .ok (.istore_n 3, 1) := by decide +kernel
theorem dX2_compare_7 : decode cX2_compare 7 = .ok (.iload_n 3, 1) := by decide +kernel
theorem dX2_compare_8 : decode cX2_compare 8 = .ok (.iload_n 1, 1) := by decide +kernel
theorem dX2_compare_9 : decode cX2_compare 9 = .ok (.if_icmp .ge 121, 3) := by decide +kernel
theorem dX2_compare_12 : decode cX2_compare 12 = .ok (.iconst 0, 1) := by decide +kernel
theorem dX2_compare_13 : decode cX2_compare 13 = .ok (.istore 4, 2) := by decide +kernel
theorem dX2_compare_15 : decode cX2_compare 15 = .ok (.iload 4, 2) := by decide +kernel
theorem dX2_compare_17 : decode cX2_compare 17 = .ok (.iload_n 3, 1) := by decide +kernel
theorem dX2_compare_18 : decode cX2_compare 18 = .ok (.if_icmp .gt 89, 3) := by decide +kernel
theorem dX2_compare_21 : decode cX2_compare 21 = .ok (.iconst 0, 1) := by decide +kernel
theorem dX2_compare_22 : decode cX2_compare 22 = .ok (.istore 5, 2) := by decide +kernel
theorem dX2_compare_24 : decode cX2_compare 24 = .ok (.iconst 0, 1) := by decide +kernel
