theorem dX2_compare_25 : decode cX2_compare 25 = .ok (.istore 6, 2) := by decide +kernel
theorem dX2_compare_27 : decode cX2_compare 27 = .ok (.iload 6, 2) := by decide +kernel
theorem dX2_compare_29 : decode cX2_compare 29 = .ok (.iload_n 2, 1) := by decide +kernel
theorem dX2_compare_30 : decode cX2_compare 30 = .ok (.if_icmp .ge 43, 3) := by decide +kernel
theorem dX2_compare_33 : decode cX2_compare 33 = .ok (.iload 5, 2) := by decide +kernel
theorem dX2_compare_35 : decode cX2_compare 35 = .ok (.aload_n 0, 1) := by decide +kernel
theorem dX2_compare_36 : decode cX2_compare 36 = .ok (.getfield 21, 3) := by decide +kernel
theorem dX2_compare_39 : decode cX2_compare 39 = .ok (.iload_n 3, 1) := by decide +kernel
theorem dX2_compare_40 : decode cX2_compare 40 = .ok (.bipush 15, 2) := by decide +kernel
theorem dX2_compare_42 : decode cX2_compare 42 = .ok (.imul, 1) := by decide +kernel
theorem dX2_compare_43 : decode cX2_compare 43 = .ok (.iload 6, 2) := by decide +kernel
theorem dX2_compare_45 : decode cX2_compare 45 = .ok (.iadd, 1) := by decide +kernel
theorem dX2_compare_46 : decode cX2_compare 46 = .ok (.laload, 1) := by decide +kernel
theorem dX2_compare_47 : decode cX2_compare 47 = .ok (.aload_n 0, 1) := by decide +kernel
theorem dX2_compare_48 : decode cX2_compare 48 = .ok (.getfield 21, 3) := by decide +kernel
theorem dX2_compare_51 : decode cX2_compare 51 = .ok (.iload 4, 2) := by decide +kernel
theorem dX2_compare_53 : decode cX2_compare 53 = .ok (.bipush 15, 2) := by decide +kernel
theorem dX2_compare_55 : decode cX2_compare 55 = .ok (.imul, 1) := by decide +kernel
theorem dX2_compare_56 : decode cX2_compare 56 = .ok (.iload 6, 2) := by decide +kernel
theorem dX2_compare_58 : decode cX2_compare 58 = .ok (.iadd, 1) := by decide +kernel
theorem dX2_compare_59 : decode cX2_compare 59 = .ok (.laload, 1) := by decide +kernel
theorem dX2_compare_60 : decode cX2_compare 60 = .ok (.land, 1) := by decide +kernel
theorem dX2_compare_61 : decode cX2_compare 61 = .ok (.invokestatic 105, 3) := by decide +kernel
theorem dX2_compare_64 : decode cX2_compare 64 = .ok (.iadd, 1) := by decide +kernel
theorem dX2_compare_65 : decode cX2_compare 65 = .ok (.istore 5, 2) := by decide +kernel
theorem dX2_compare_67 : decode cX2_compare 67 = .ok (.iinc 6 1, 3) := by decide +kernel
theorem dX2_compare_70 : decode cX2_compare 70 = .ok (.goto (-43), 3) := by decide +kernel
theorem dX2_compare_73 : decode cX2_compare 73 = .ok (.aload_n 0, 1) := by decide +kernel
theorem dX2_compare_74 : decode cX2_compare 74 = .ok (.getfield 18, 3) := by decide +kernel
theorem dX2_compare_77 : decode cX2_compare 77 = .ok (.iload_n 3, 1) := by decide +kernel
theorem dX2_compare_78 : decode cX2_compare 78 = .ok (.bipush 24, 2) := by decide +kernel
theorem dX2_compare_80 : decode cX2_compare 80 = .ok (.imul, 1) := by decide +kernel
theorem dX2_compare_81 : decode cX2_compare 81 = .ok (.iload 4, 2) := by decide +kernel
theorem dX2_compare_83 : decode cX2_compare 83 = .ok (.iadd, 1) := by decide +kernel
theorem dX2_compare_84 : decode cX2_compare 84 = .ok (.iload 5, 2) := by decide +kernel
theorem dX2_compare_86 : decode cX2_compare 86 = .ok (.iastore, 1) := by decide +kernel
theorem dX2_compare_87 : decode cX2_compare 87 = .ok (.aload_n 0, 1) := by decide +kernel
theorem dX2_compare_88 : decode cX2_compare 88 = .ok (.getfield 18, 3) := by decide +kernel
theorem dX2_compare_91 : decode cX2_compare 91 = .ok (.iload 4, 2) := by decide +kernel
theorem dX2_compare_93 : decode cX2_compare 93 = .ok (.bipush 24, 2) := by decide +kernel
theorem dX2_compare_95 : decode cX2_compare 95 = .ok (.imul, 1) := by decide +kernel
theorem dX2_compare_96 : decode cX2_compare 96 = .ok (.iload_n 3, 1) := by decide +kernel
theorem dX2_compare_97 : decode cX2_compare 97 = .ok (.iadd, 1) := by decide +kernel
theorem dX2_compare_98 : decode cX2_compare 98 = .ok (.iload 5, 2) := by decide +kernel
theorem dX2_compare_100 : decode cX2_compare 100 = .ok (.iastore, 1) := by decide +kernel
theorem dX2_compare_101 : decode cX2_compare 101 = .ok (.iinc 4 1, 3) := by decide +kernel
theorem dX2_compare_104 : decode cX2_compare 104 = .ok (.goto (-89), 3) := by decide +kernel
theorem dX2_compare_107 : decode cX2_compare 107 = .ok (.aload_n 0, 1) := by decide +kernel
theorem dX2_compare_108 : decode cX2_compare 108 = .ok (.getfield 15, 3) := by decide +kernel
theorem dX2_compare_111 : decode cX2_compare 111 = .ok (.iload_n 3, 1) := by decide +kernel
theorem dX2_compare_112 : decode cX2_compare 112 = .ok (.aload_n 0, 1) := by decide +kernel
theorem dX2_compare_113 : decode cX2_compare 113 = .ok (.getfield 18, 3) := by decide +kernel
theorem dX2_compare_116 : decode cX2_compare 116 = .ok (.iload_n 3, 1) := by decide +kernel
theorem dX2_compare_117 : decode cX2_compare 117 = .ok (.bipush 24, 2) := by decide +kernel
theorem dX2_compare_119 : decode cX2_compare 119 = .ok (.imul, 1) := by decide +kernel
theorem dX2_compare_120 : decode cX2_compare 120 = .ok (.iload_n 3, 1) := by decide +kernel
theorem dX2_compare_121 : decode cX2_compare 121 = .ok (.iadd, 1) := by decide +kernel
theorem dX2_compare_122 : decode cX2_compare 122 = .ok (.iaload, 1) := by decide +kernel
theorem dX2_compare_123 : decode cX2_compare 123 = .ok (.iastore, 1) := by decide +kernel
theorem dX2_compare_124 : decode cX2_compare 124 = .ok (.iinc 3 1, 3) := by decide +kernel
theorem dX2_compare_127 : decode cX2_compare 127 = .ok (.goto (-120), 3) := by decide +kernel
theorem dX2_compare_130 : decode cX2_compare 130 = .ok (.return_, 1) := by decide +kernel
theorem dX2_isStale_0 : decode cX2_isStale 0 = .ok (.aload_n 2, 1) := by decide +kernel
theorem dX2_isStale_1 : decode cX2_isStale 1 = .ok (.iload_n 1, 1) := by decide +kernel
theorem dX2_isStale_2 : decode cX2_isStale 2 = .ok (.iaload, 1) := by decide +kernel
theorem dX2_isStale_3 : decode cX2_isStale 3 = .ok (.istore_n 3, 1) := by decide +kernel
theorem dX2_isStale_4 : decode cX2_isStale 4 = .ok (.aload_n 0, 1) := by decide +kernel
theorem dX2_isStale_5 : decode cX2_isStale 5 = .ok (.invokevirtual 101, 3) := by decide +kernel
theorem dX2_isStale_8 : decode cX2_isStale 8 = .ok (.istore 4, 2) := by decide +kernel
theorem dX2_isStale_10 : decode cX2_isStale 10 = .ok (.iconst 0, 1) := by decide +kernel
theorem dX2_isStale_11 : decode cX2_isStale 11 = .ok (.istore 5, 2) := by decide +kernel
theorem dX2_isStale_13 : decode cX2_isStale 13 = .ok (.iload 5, 2) := by decide +kernel
theorem dX2_isStale_15 : decode cX2_isStale 15 = .ok (.iload 4, 2) := by decide +kernel
theorem dX2_isStale_17 : decode cX2_isStale 17 = .ok (.if_icmp .ge 71, 3) := by decide +kernel
theorem dX2_isStale_20 : decode cX2_isStale 20 = .ok (.aload_n 0, 1) := by decide +kernel
theorem dX2_isStale_21 : decode cX2_isStale 21 = .ok (.getfield 21, 3) := by decide +kernel
theorem dX2_isStale_24 : decode cX2_isStale 24 = .ok (.iload_n 3, 1) := by decide +kernel
theorem dX2_isStale_25 : decode cX2_isStale 25 = .ok (.bipush 15, 2) := by decide +kernel
theorem dX2_isStale_27 : decode cX2_isStale 27 = .ok (.imul, 1) := by decide +kernel
theorem dX2_isStale_28 : decode cX2_isStale 28 = .ok (.iload 5, 2) := by decide +kernel
theorem dX2_isStale_30 : decode cX2_isStale 30 = .ok (.iadd, 1) := by decide +kernel
theorem dX2_isStale_31 : decode cX2_isStale 31 = .ok (.laload, 1) := by decide +kernel
theorem dX2_isStale_32 : decode cX2_isStale 32 = .ok (.lstore 6, 2) := by decide +kernel
theorem dX2_isStale_34 : decode cX2_isStale 34 = .ok (.iconst 0, 1) := by decide +kernel
theorem dX2_isStale_35 : decode cX2_isStale 35 = .ok (.istore 8, 2) := by decide +kernel
theorem dX2_isStale_37 : decode cX2_isStale 37 = .ok (.iload 8, 2) := by decide +kernel
theorem dX2_isStale_39 : decode cX2_isStale 39 = .ok (.iload_n 1, 1) := by decide +kernel
theorem dX2_isStale_40 : decode cX2_isStale 40 = .ok (.if_icmp .ge 33, 3) := by decide +kernel
theorem dX2_isStale_43 : decode cX2_isStale 43 = .ok (.lload 6, 2) := by decide +kernel
theorem dX2_isStale_45 : decode cX2_isStale 45 = .ok (.aload_n 0, 1) := by decide +kernel
theorem dX2_isStale_46 : decode cX2_isStale 46 = .ok (.getfield 21, 3) := by decide +kernel
theorem dX2_isStale_49 : decode cX2_isStale 49 = .ok (.aload_n 2, 1) := by decide +kernel
theorem dX2_isStale_50 : decode cX2_isStale 50 = .ok (.iload 8, 2) := by decide +kernel
theorem dX2_isStale_52 : decode cX2_isStale 52 = .ok (.iaload, 1) := by decide +kernel
theorem dX2_isStale_53 : decode cX2_isStale 53 = .ok (.bipush 15, 2) := by decide +kernel
theorem dX2_isStale_55 : decode cX2_isStale 55 = .ok (.imul, 1) := by decide +kernel
theorem dX2_isStale_56 : decode cX2_isStale 56 = .ok (.iload 5, 2) := by decide +kernel
theorem dX2_isStale_58 : decode cX2_isStale 58 = .ok (.iadd, 1) := by decide +kernel
theorem dX2_isStale_59 : decode cX2_isStale 59 = .ok (.laload, 1) := by decide +kernel
theorem dX2_isStale_60 : decode cX2_isStale 60 = .ok (.ldc2_w 111, 3) := by decide +kernel
theorem dX2_isStale_63 : decode cX2_isStale 63 = .ok (.lxor, 1) := by decide +kernel
theorem dX2_isStale_64 : decode cX2_isStale 64 = .ok (.land, 1) := by decide +kernel
theorem dX2_isStale_65 : decode cX2_isStale 65 = .ok (.lstore 6, 2) := by decide +kernel
theorem dX2_isStale_67 : decode cX2_isStale 67 = .ok (.iinc 8 1, 3) := by decide +kernel
theorem dX2_isStale_70 : decode cX2_isStale 70 = .ok (.goto (-33), 3) := by decide +kernel
theorem dX2_isStale_73 : decode cX2_isStale 73 = .ok (.lload 6, 2) := by decide +kernel
theorem dX2_isStale_75 : decode cX2_isStale 75 = .ok (.lconst 0, 1) := by decide +kernel
theorem dX2_isStale_76 : decode cX2_isStale 76 = .ok (.lcmp, 1) := by decide +kernel
theorem dX2_isStale_77 : decode cX2_isStale 77 = .ok (.ifCond .eq 5, 3) := by decide +kernel
theorem dX2_isStale_80 : decode cX2_isStale 80 = .ok (.iconst 0, 1) := by decide +kernel
theorem dX2_isStale_81 : decode cX2_isStale 81 = .ok (.ireturn, 1) := by decide +kernel
theorem dX2_isStale_82 : decode cX2_isStale 82 = .ok (.iinc 5 1, 3) := by decide +kernel
theorem dX2_isStale_85 : decode cX2_isStale 85 = .ok (.goto (-72), 3) := by decide +kernel
theorem dX2_isStale_88 : decode cX2_isStale 88 = .ok (.aload_n 0, 1) := by decide +kernel
theorem dX2_isStale_89 : decode cX2_isStale 89 = .ok (.getfield 15, 3) := by decide +kernel
theorem dX2_isStale_92 : decode cX2_isStale 92 = .ok (.iload_n 3, 1) := by decide +kernel
theorem dX2_isStale_93 : decode cX2_isStale 93 = .ok (.iaload, 1) := by decide +kernel
theorem dX2_isStale_94 : decode cX2_isStale 94 = .ok (.ifCond .le 7, 3) := by decide +kernel
theorem dX2_isStale_97 : decode cX2_isStale 97 = .ok (.iconst 1, 1) := by decide +kernel
theorem dX2_isStale_98 : decode cX2_isStale 98 = .ok (.goto 4, 3) := by decide +kernel
theorem dX2_isStale_101 : decode cX2_isStale 101 = .ok (.iconst 0, 1) := by decide +kernel
theorem dX2_isStale_102 : decode cX2_isStale 102 = .ok (.ireturn, 1) := by decide +kernel
theorem dX3_init_0 : decode cX3_init 0 = .ok (.aload_n 0, 1) := by decide +kernel
theorem dX3_init_1 : decode cX3_init 1 = .ok (.invokespecial 3, 3) := by decide +kernel
theorem dX3_init_4 : decode cX3_init 4 = .ok (.aload_n 0, 1) := by decide +kernel
theorem dX3_init_5 : decode cX3_init 5 = .ok (.bipush 10, 2) := by decide +kernel
theorem dX3_init_7 : decode cX3_init 7 = .ok (.newarray .int, 2) := by decide +kernel
theorem dX3_init_9 : decode cX3_init 9 = .ok (.putfield 9, 3) := by decide +kernel
theorem dX3_init_12 : decode cX3_init 12 = .ok (.aload_n 0, 1) := by decide +kernel
theorem dX3_init_13 : decode cX3_init 13 = .ok (.bipush 10, 2) := by decide +kernel
theorem dX3_init_15 : decode cX3_init 15 = .ok (.newarray .int, 2) := by decide +kernel
theorem dX3_init_17 : decode cX3_init 17 = .ok (.putfield 15, 3) := by decide +kernel
theorem dX3_init_20 : decode cX3_init 20 = .ok (.aload_n 0, 1) := by decide +kernel
theorem dX3_init_21 : decode cX3_init 21 = .ok (.bipush 10, 2) := by decide +kernel
theorem dX3_init_23 : decode cX3_init 23 = .ok (.newarray .int, 2) := by decide +kernel
theorem dX3_init_25 : decode cX3_init 25 = .ok (.putfield 18, 3) := by decide +kernel
theorem dX3_init_28 : decode cX3_init 28 = .ok (.aload_n 0, 1) := by decide +kernel
theorem dX3_init_29 : decode cX3_init 29 = .ok (.bipush 10, 2) := by decide +kernel
theorem dX3_init_31 : decode cX3_init 31 = .ok (.newarray .int, 2) := by decide +kernel
theorem dX3_init_33 : decode cX3_init 33 = .ok (.putfield 21, 3) := by decide +kernel
theorem dX3_init_36 : decode cX3_init 36 = .ok (.aload_n 0, 1) := by decide +kernel
theorem dX3_init_37 : decode cX3_init 37 = .ok (.sipush 1024, 3) := by decide +kernel
theorem dX3_init_40 : decode cX3_init 40 = .ok (.newarray .int, 2) := by decide +kernel
theorem dX3_init_42 : decode cX3_init 42 = .ok (.putfield 24, 3) := by decide +kernel
theorem dX3_init_45 : decode cX3_init 45 = .ok (.aload_n 0, 1) := by decide +kernel
theorem dX3_init_46 : decode cX3_init 46 = .ok (.bipush 10, 2) := by decide +kernel
theorem dX3_init_48 : decode cX3_init 48 = .ok (.newarray .int, 2) := by decide +kernel
theorem dX3_init_50 : decode cX3_init 50 = .ok (.putfield 27, 3) := by decide +kernel
theorem dX3_init_53 : decode cX3_init 53 = .ok (.aload_n 0, 1) := by decide +kernel
theorem dX3_init_54 : decode cX3_init 54 = .ok (.bipush 10, 2) := by decide +kernel
theorem dX3_init_56 : decode cX3_init 56 = .ok (.newarray .int, 2) := by decide +kernel
theorem dX3_init_58 : decode cX3_init 58 = .ok (.putfield 30, 3) := by decide +kernel
theorem dX3_init_61 : decode cX3_init 61 = .ok (.return_, 1) := by decide +kernel
theorem dX3_clear_0 : decode cX3_clear 0 = .ok (.aload_n 0, 1) := by decide +kernel
theorem dX3_clear_1 : decode cX3_clear 1 = .ok (.iconst 0, 1) := by decide +kernel
theorem dX3_clear_2 : decode cX3_clear 2 = .ok (.putfield 33, 3) := by decide +kernel
theorem dX3_clear_5 : decode cX3_clear 5 = .ok (.aload_n 0, 1) := by decide +kernel
theorem dX3_clear_6 : decode cX3_clear 6 = .ok (.iconst 0, 1) := by decide +kernel
theorem dX3_clear_7 : decode cX3_clear 7 = .ok (.putfield 37, 3) := by decide +kernel
theorem dX3_clear_10 : decode cX3_clear 10 = .ok (.return_, 1) := by decide +kernel
theorem dX3_addHead_0 : decode cX3_addHead 0 = .ok (.aload_n 0, 1) := by decide +kernel
theorem dX3_addHead_1 : decode cX3_addHead 1 = .ok (.aload_n 0, 1) := by decide +kernel
theorem dX3_addHead_2 : decode cX3_addHead 2 = .ok (.getfield 33, 3) := by decide +kernel
theorem dX3_addHead_5 : decode cX3_addHead 5 = .ok (.putfield 37, 3) := by decide +kernel
theorem dX3_addHead_8 : decode cX3_addHead 8 = .ok (.aload_n 0, 1) := by decide +kernel
theorem dX3_addHead_9 : decode cX3_addHead 9 = .ok (.iload_n 1, 1) := by decide +kernel
theorem dX3_addHead_10 : decode cX3_addHead 10 = .ok (.iload_n 1, 1) := by decide +kernel
theorem dX3_addHead_11 : decode cX3_addHead 11 = .ok (.iconst 1, 1) := by decide +kernel
theorem dX3_addHead_12 : decode cX3_addHead 12 = .ok (.invokevirtual 40, 3) := by decide +kernel
theorem dX3_addHead_15 : decode cX3_addHead 15 = .ok (.return_, 1) := by decide +kernel
theorem dX3_addPart_0 : decode cX3_addPart 0 = .ok (.aload_n 0, 1) := by decide +kernel
theorem dX3_addPart_1 : decode cX3_addPart 1 = .ok (.getfield 33, 3) := by decide +kernel
theorem dX3_addPart_4 : decode cX3_addPart 4 = .ok (.bipush 10, 2) := by decide +kernel
theorem dX3_addPart_6 : decode cX3_addPart 6 = .ok (.if_icmp .ge 53, 3) := by decide +kernel
theorem dX3_addPart_9 : decode cX3_addPart 9 = .ok (.aload_n 0, 1) := by decide +kernel
theorem dX3_addPart_10 : decode cX3_addPart 10 = .ok (.getfield 9, 3) := by decide +kernel
theorem dX3_addPart_13 : decode cX3_addPart 13 = .ok (.aload_n 0, 1) := by decide +kernel
theorem dX3_addPart_14 : decode cX3_addPart 14 = .ok (.getfield 33, 3) := by decide +kernel
theorem dX3_addPart_17 : decode cX3_addPart 17 = .ok (.iload_n 1, 1) := by decide +kernel
theorem dX3_addPart_18 : decode cX3_addPart 18 = .ok (.iastore, 1) := by decide +kernel
theorem dX3_addPart_19 : decode cX3_addPart 19 = .ok (.aload_n 0, 1) := by decide +kernel
theorem dX3_addPart_20 : decode cX3_addPart 20 = .ok (.getfield 15, 3) := by decide +kernel
theorem dX3_addPart_23 : decode cX3_addPart 23 = .ok (.aload_n 0, 1) := by decide +kernel
theorem dX3_addPart_24 : decode cX3_addPart 24 = .ok (.getfield 33, 3) := by decide +kernel
theorem dX3_addPart_27 : decode cX3_addPart 27 = .ok (.iload_n 2, 1) := by decide +kernel
theorem dX3_addPart_28 : decode cX3_addPart 28 = .ok (.iastore, 1) := by decide +kernel
theorem dX3_addPart_29 : decode cX3_addPart 29 = .ok (.aload_n 0, 1) := by decide +kernel
theorem dX3_addPart_30 : decode cX3_addPart 30 = .ok (.getfield 18, 3) := by decide +kernel
theorem dX3_addPart_33 : decode cX3_addPart 33 = .ok (.aload_n 0, 1) := by decide +kernel
theorem dX3_addPart_34 : decode cX3_addPart 34 = .ok (.getfield 33, 3) := by decide +kernel
theorem dX3_addPart_37 : decode cX3_addPart 37 = .ok (.iload_n 3, 1) := by decide +kernel
theorem dX3_addPart_38 : decode cX3_addPart 38 = .ok (.iastore, 1) := by decide +kernel
theorem dX3_addPart_39 : decode cX3_addPart 39 = .ok (.aload_n 0, 1) := by decide +kernel
theorem dX3_addPart_40 : decode cX3_addPart 40 = .ok (.getfield 21, 3) := by decide +kernel
theorem dX3_addPart_43 : decode cX3_addPart 43 = .ok (.aload_n 0, 1) := by decide +kernel
theorem dX3_addPart_44 : decode cX3_addPart 44 = .ok (.getfield 33, 3) := by decide +kernel
theorem dX3_addPart_47 : decode cX3_addPart 47 = .ok (.iconst 0, 1) := by decide +kernel
theorem dX3_addPart_48 : decode cX3_addPart 48 = .ok (.iastore, 1) := by decide +kernel
theorem dX3_addPart_49 : decode cX3_addPart 49 = .ok (.aload_n 0, 1) := by decide +kernel
theorem dX3_addPart_50 : decode cX3_addPart 50 = .ok (.dup, 1) := by decide +kernel
theorem dX3_addPart_51 : decode cX3_addPart 51 = .ok (.getfield 33, 3) := by decide +kernel
theorem dX3_addPart_54 : decode cX3_addPart 54 = .ok (.iconst 1, 1) := by decide +kernel
theorem dX3_addPart_55 : decode cX3_addPart 55 = .ok (.iadd, 1) := by decide +kernel
theorem dX3_addPart_56 : decode cX3_addPart 56 = .ok (.putfield 33, 3) := by decide +kernel
theorem dX3_addPart_59 : decode cX3_addPart 59 = .ok (.return_, 1) := by decide +kernel
theorem dX3_bind_0 : decode cX3_bind 0 = .ok (.aload_n 0, 1) := by decide +kernel
theorem dX3_bind_1 : decode cX3_bind 1 = .ok (.iload_n 1, 1) := by decide +kernel
theorem dX3_bind_2 : decode cX3_bind 2 = .ok (.invokevirtual 44, 3) := by decide +kernel
theorem dX3_bind_5 : decode cX3_bind 5 = .ok (.istore_n 3, 1) := by decide +kernel
theorem dX3_bind_6 : decode cX3_bind 6 = .ok (.aload_n 0, 1) := by decide +kernel
theorem dX3_bind_7 : decode cX3_bind 7 = .ok (.iload_n 2, 1) := by decide +kernel
theorem dX3_bind_8 : decode cX3_bind 8 = .ok (.invokevirtual 44, 3) := by decide +kernel
theorem dX3_bind_11 : decode cX3_bind 11 = .ok (.istore 4, 2) := by decide +kernel
theorem dX3_bind_13 : decode cX3_bind 13 = .ok (.iload_n 3, 1) := by decide +kernel
theorem dX3_bind_14 : decode cX3_bind 14 = .ok (.ifCond .lt 27, 3) := by decide +kernel
theorem dX3_bind_17 : decode cX3_bind 17 = .ok (.iload 4, 2) := by decide +kernel
theorem dX3_bind_19 : decode cX3_bind 19 = .ok (.ifCond .lt 22, 3) := by decide +kernel
theorem dX3_bind_22 : decode cX3_bind 22 = .ok (.iload_n 3, 1) := by decide +kernel
theorem dX3_bind_23 : decode cX3_bind 23 = .ok (.iload 4, 2) := by decide +kernel
theorem dX3_bind_25 : decode cX3_bind 25 = .ok (.if_icmp .eq 16, 3) := by decide +kernel
theorem dX3_bind_28 : decode cX3_bind 28 = .ok (.aload_n 0, 1) := by decide +kernel
theorem dX3_bind_29 : decode cX3_bind 29 = .ok (.getfield 21, 3) := by decide +kernel
theorem dX3_bind_32 : decode cX3_bind 32 = .ok (.iload 4, 2) := by decide +kernel
theorem dX3_bind_34 : decode cX3_bind 34 = .ok (.dup2, 1) := by decide +kernel
theorem dX3_bind_35 : decode cX3_bind 35 = .ok (.iaload, 1) := by decide +kernel
theorem dX3_bind_36 : decode cX3_bind 36 = .ok (.iconst 1, 1) := by decide +kernel
theorem dX3_bind_37 : decode cX3_bind 37 = .ok (.iload_n 3, 1) := by decide +kernel
theorem dX3_bind_38 : decode cX3_bind 38 = .ok (.ishl, 1) := by decide +kernel
theorem dX3_bind_39 : decode cX3_bind 39 = .ok (.ior, 1) := by decide +kernel
theorem dX3_bind_40 : decode cX3_bind 40 = .ok (.iastore, 1) := by decide +kernel
theorem dX3_bind_41 : decode cX3_bind 41 = .ok (.return_, 1) := by decide +kernel
theorem dX3_unitOf_0 : decode cX3_unitOf 0 = .ok (.iconst 0, 1) := by decide +kernel
theorem dX3_unitOf_1 : decode cX3_unitOf 1 = .ok (.istore_n 2, 1) := by decide +kernel
theorem dX3_unitOf_2 : decode cX3_unitOf 2 = .ok (.iload_n 2, 1) := by decide +kernel
theorem dX3_unitOf_3 : decode cX3_unitOf 3 = .ok (.aload_n 0, 1) := by decide +kernel
theorem dX3_unitOf_4 : decode cX3_unitOf 4 = .ok (.getfield 33, 3) := by decide +kernel
theorem dX3_unitOf_7 : decode cX3_unitOf 7 = .ok (.if_icmp .ge 38, 3) := by decide +kernel
theorem dX3_unitOf_10 : decode cX3_unitOf 10 = .ok (.iload_n 1, 1) := by decide +kernel
theorem dX3_unitOf_11 : decode cX3_unitOf 11 = .ok (.aload_n 0, 1) := by decide +kernel
theorem dX3_unitOf_12 : decode cX3_unitOf 12 = .ok (.getfield 15, 3) := by decide +kernel
theorem dX3_unitOf_15 : decode cX3_unitOf 15 = .ok (.iload_n 2, 1) := by decide +kernel
theorem dX3_unitOf_16 : decode cX3_unitOf 16 = .ok (.iaload, 1) := by decide +kernel
theorem dX3_unitOf_17 : decode cX3_unitOf 17 = .ok (.if_icmp .lt 22, 3) := by decide +kernel
theorem dX3_unitOf_20 : decode cX3_unitOf 20 = .ok (.iload_n 1, 1) := by decide +kernel
theorem dX3_unitOf_21 : decode cX3_unitOf 21 = .ok (.aload_n 0, 1) := by decide +kernel
theorem dX3_unitOf_22 : decode cX3_unitOf 22 = .ok (.getfield 15, 3) := by decide +kernel
theorem dX3_unitOf_25 : decode cX3_unitOf 25 = .ok (.iload_n 2, 1) := by decide +kernel
theorem dX3_unitOf_26 : decode cX3_unitOf 26 = .ok (.iaload, 1) := by decide +kernel
theorem dX3_unitOf_27 : decode cX3_unitOf 27 = .ok (.aload_n 0, 1) := by decide +kernel
theorem dX3_unitOf_28 : decode cX3_unitOf 28 = .ok (.getfield 18, 3) := by decide +kernel
theorem dX3_unitOf_31 : decode cX3_unitOf 31 = .ok (.iload_n 2, 1) := by decide +kernel
theorem dX3_unitOf_32 : decode cX3_unitOf 32 = .ok (.iaload, 1) := by decide +kernel
theorem dX3_unitOf_33 : decode cX3_unitOf 33 = .ok (.iadd, 1) := by decide +kernel
theorem dX3_unitOf_34 : decode cX3_unitOf 34 = .ok (.if_icmp .ge 5, 3) := by decide +kernel
theorem dX3_unitOf_37 : decode cX3_unitOf 37 = .ok (.iload_n 2, 1) := by decide +kernel
theorem dX3_unitOf_38 : decode cX3_unitOf 38 = .ok (.ireturn, 1) := by decide +kernel
theorem dX3_unitOf_39 : decode cX3_unitOf 39 = .ok (.iinc 2 1, 3) := by decide +kernel
theorem dX3_unitOf_42 : decode cX3_unitOf 42 = .ok (.goto (-40), 3) := by decide +kernel
theorem dX3_unitOf_45 : decode cX3_unitOf 45 = .ok (.iconst (-1), 1) := by decide +kernel
theorem dX3_unitOf_46 : decode cX3_unitOf 46 = .ok (.ireturn, 1) := by decide +kernel
theorem dX3_solve_0 : decode cX3_solve 0 = .ok (.iconst 1, 1) := by decide +kernel
theorem dX3_solve_1 : decode cX3_solve 1 = .ok (.aload_n 0, 1) := by decide +kernel
theorem dX3_solve_2 : decode cX3_solve 2 = .ok (.getfield 33, 3) := by decide +kernel
theorem dX3_solve_5 : decode cX3_solve 5 = .ok (.ishl, 1) := by decide +kernel
theorem dX3_solve_6 : decode cX3_solve 6 = .ok (.iconst 1, 1) := by decide +kernel
theorem dX3_solve_7 : decode cX3_solve 7 = .ok (.isub, 1) := by decide +kernel
theorem dX3_solve_8 : decode cX3_solve 8 = .ok (.istore_n 1, 1) := by decide +kernel
theorem dX3_solve_9 : decode cX3_solve 9 = .ok (.aload_n 0, 1) := by decide +kernel
theorem dX3_solve_10 : decode cX3_solve 10 = .ok (.getfield 24, 3) := by decide +kernel
theorem dX3_solve_13 : decode cX3_solve 13 = .ok (.iload_n 1, 1) := by decide +kernel
theorem dX3_solve_14 : decode cX3_solve 14 = .ok (.iconst 0, 1) := by decide +kernel
theorem dX3_solve_15 : decode cX3_solve 15 = .ok (.iastore, 1) := by decide +kernel
theorem dX3_solve_16 : decode cX3_solve 16 = .ok (.iload_n 1, 1) := by decide +kernel
theorem dX3_solve_17 : decode cX3_solve 17 = .ok (.iconst 1, 1) := by decide +kernel
theorem dX3_solve_18 : decode cX3_solve 18 = .ok (.isub, 1) := by decide +kernel
theorem dX3_solve_19 : decode cX3_solve 19 = .ok (.istore_n 2, 1) := by decide +kernel
theorem dX3_solve_20 : decode cX3_solve 20 = .ok (.iload_n 2, 1) := by decide +kernel
theorem dX3_solve_21 : decode cX3_solve 21 = .ok (.ifCond .lt 63, 3) := by decide +kernel
theorem dX3_solve_24 : decode cX3_solve 24 = .ok (.aload_n 0, 1) := by decide +kernel
theorem dX3_solve_25 : decode cX3_solve 25 = .ok (.getfield 24, 3) := by decide +kernel
theorem dX3_solve_28 : decode cX3_solve 28 = .ok (.iload_n 2, 1) := by decide +kernel
theorem dX3_solve_29 : decode cX3_solve 29 = .ok (.ldc 48, 2) := by decide +kernel
theorem dX3_solve_31 : decode cX3_solve 31 = .ok (.iastore, 1) := by decide +kernel
theorem dX3_solve_32 : decode cX3_solve 32 = .ok (.iconst 0, 1) := by decide +kernel
theorem dX3_solve_33 : decode cX3_solve 33 = .ok (.istore_n 3, 1) := by decide +kernel
theorem dX3_solve_34 : decode cX3_solve 34 = .ok (.iload_n 3, 1) := by decide +kernel
theorem dX3_solve_35 : decode cX3_solve 35 = .ok (.aload_n 0, 1) := by decide +kernel
theorem dX3_solve_36 : decode cX3_solve 36 = .ok (.getfield 33, 3) := by decide +kernel
theorem dX3_solve_39 : decode cX3_solve 39 = .ok (.if_icmp .ge 39, 3) := by decide +kernel
theorem dX3_solve_42 : decode cX3_solve 42 = .ok (.aload_n 0, 1) := by decide +kernel
theorem dX3_solve_43 : decode cX3_solve 43 = .ok (.iload_n 3, 1) := by decide +kernel
theorem dX3_solve_44 : decode cX3_solve 44 = .ok (.iload_n 2, 1) := by decide +kernel
theorem dX3_solve_45 : decode cX3_solve 45 = .ok (.invokevirtual 49, 3) := by decide +kernel
theorem dX3_solve_48 : decode cX3_solve 48 = .ok (.ifCond .eq 24, 3) := by decide +kernel
theorem dX3_solve_51 : decode cX3_solve 51 = .ok (.aload_n 0, 1) := by decide +kernel
theorem dX3_solve_52 : decode cX3_solve 52 = .ok (.getfield 24, 3) := by decide +kernel
theorem dX3_solve_55 : decode cX3_solve 55 = .ok (.iload_n 2, 1) := by decide +kernel
theorem dX3_solve_56 : decode cX3_solve 56 = .ok (.aload_n 0, 1) := by decide +kernel
theorem dX3_solve_57 : decode cX3_solve 57 = .ok (.getfield 24, 3) := by decide +kernel
theorem dX3_solve_60 : decode cX3_solve 60 = .ok (.iload_n 2, 1) := by decide +kernel
theorem dX3_solve_61 : decode cX3_solve 61 = .ok (.iaload, 1) := by decide +kernel
theorem dX3_solve_62 : decode cX3_solve 62 = .ok (.aload_n 0, 1) := by decide +kernel
theorem dX3_solve_63 : decode cX3_solve 63 = .ok (.iload_n 3, 1) := by decide +kernel
theorem dX3_solve_64 : decode cX3_solve 64 = .ok (.iload_n 2, 1) := by decide +kernel
theorem dX3_solve_65 : decode cX3_solve 65 = .ok (.invokevirtual 53, 3) := by decide +kernel
theorem dX3_solve_68 : decode cX3_solve 68 = .ok (.invokestatic 57, 3) := by decide +kernel
theorem dX3_solve_71 : decode cX3_solve 71 = .ok (.iastore, 1) := by decide +kernel
theorem dX3_solve_72 : decode cX3_solve 72 = .ok (.iinc 3 1, 3) := by decide +kernel
theorem dX3_solve_75 : decode cX3_solve 75 = .ok (.goto (-41), 3) := by decide +kernel
theorem dX3_solve_78 : decode cX3_solve 78 = .ok (.iinc 2 (-1), 3) := by decide +kernel
theorem dX3_solve_81 : decode cX3_solve 81 = .ok (.goto (-61), 3) := by decide +kernel
theorem dX3_solve_84 : decode cX3_solve 84 = .ok (.aload_n 0, 1) := by decide +kernel
theorem dX3_solve_85 : decode cX3_solve 85 = .ok (.getfield 24, 3) := by decide +kernel
theorem dX3_solve_88 : decode cX3_solve 88 = .ok (.iconst 0, 1) := by decide +kernel
theorem dX3_solve_89 : decode cX3_solve 89 = .ok (.iaload, 1) := by decide +kernel
theorem dX3_solve_90 : decode cX3_solve 90 = .ok (.ldc 48, 2) := by decide +kernel
theorem dX3_solve_92 : decode cX3_solve 92 = .ok (.if_icmp .lt 5, 3) := by decide +kernel
theorem dX3_solve_95 : decode cX3_solve 95 = .ok (.iconst 0, 1) := by decide +kernel
theorem dX3_solve_96 : decode cX3_solve 96 = .ok (.ireturn, 1) := by decide +kernel
theorem dX3_solve_97 : decode cX3_solve 97 = .ok (.aload_n 0, 1) := by decide +kernel
theorem dX3_solve_98 : decode cX3_solve 98 = .ok (.invokevirtual 62, 3) := by decide +kernel
theorem dX3_solve_101 : decode cX3_solve 101 = .ok (.iconst 1, 1) := by decide +kernel
theorem dX3_solve_102 : decode cX3_solve 102 = .ok (.ireturn, 1) := by decide +kernel
theorem dX3_chooseRow_0 : decode cX3_chooseRow 0 = .ok (.iconst 0, 1) := by decide +kernel
theorem dX3_chooseRow_1 : decode cX3_chooseRow 1 = .ok (.istore_n 1, 1) := by decide +kernel
theorem dX3_chooseRow_2 : decode cX3_chooseRow 2 = .ok (.iconst 0, 1) := by decide +kernel
theorem dX3_chooseRow_3 : decode cX3_chooseRow 3 = .ok (.istore_n 2, 1) := by decide +kernel
theorem dX3_chooseRow_4 : decode cX3_chooseRow 4 = .ok (.iload_n 2, 1) := by decide +kernel
theorem dX3_chooseRow_5 : decode cX3_chooseRow 5 = .ok (.aload_n 0, 1) := by decide +kernel
theorem dX3_chooseRow_6 : decode cX3_chooseRow 6 = .ok (.getfield 33, 3) := by decide +kernel
theorem dX3_chooseRow_9 : decode cX3_chooseRow 9 = .ok (.if_icmp .ge 64, 3) := by decide +kernel
theorem dX3_chooseRow_12 : decode cX3_chooseRow 12 = .ok (.iconst 0, 1) := by decide +kernel
theorem dX3_chooseRow_13 : decode cX3_chooseRow 13 = .ok (.istore_n 3, 1) := by decide +kernel
theorem dX3_chooseRow_14 : decode cX3_chooseRow 14 = .ok (.iload_n 3, 1) := by decide +kernel
theorem dX3_chooseRow_15 : decode cX3_chooseRow 15 = .ok (.aload_n 0, 1) := by decide +kernel
theorem dX3_chooseRow_16 : decode cX3_chooseRow 16 = .ok (.getfield 33, 3) := by decide +kernel
theorem dX3_chooseRow_19 : decode cX3_chooseRow 19 = .ok (.iconst 1, 1) := by decide +kernel
theorem dX3_chooseRow_20 : decode cX3_chooseRow 20 = .ok (.isub, 1) := by decide +kernel
theorem dX3_chooseRow_21 : decode cX3_chooseRow 21 = .ok (.if_icmp .ge 33, 3) := by decide +kernel
theorem dX3_chooseRow_24 : decode cX3_chooseRow 24 = .ok (.aload_n 0, 1) := by decide +kernel
theorem dX3_chooseRow_25 : decode cX3_chooseRow 25 = .ok (.iload_n 3, 1) := by decide +kernel
theorem dX3_chooseRow_26 : decode cX3_chooseRow 26 = .ok (.iload_n 1, 1) := by decide +kernel
theorem dX3_chooseRow_27 : decode cX3_chooseRow 27 = .ok (.invokevirtual 49, 3) := by decide +kernel
theorem dX3_chooseRow_30 : decode cX3_chooseRow 30 = .ok (.ifCond .eq 18, 3) := by decide +kernel
theorem dX3_chooseRow_33 : decode cX3_chooseRow 33 = .ok (.aload_n 0, 1) := by decide +kernel
theorem dX3_chooseRow_34 : decode cX3_chooseRow 34 = .ok (.iload_n 3, 1) := by decide +kernel
theorem dX3_chooseRow_35 : decode cX3_chooseRow 35 = .ok (.iload_n 1, 1) := by decide +kernel
theorem dX3_chooseRow_36 : decode cX3_chooseRow 36 = .ok (.invokevirtual 53, 3) := by decide +kernel
theorem dX3_chooseRow_39 : decode cX3_chooseRow 39 = .ok (.aload_n 0, 1) := by decide +kernel
theorem dX3_chooseRow_40 : decode cX3_chooseRow 40 = .ok (.getfield 24, 3) := by decide +kernel
theorem dX3_chooseRow_43 : decode cX3_chooseRow 43 = .ok (.iload_n 1, 1) := by decide +kernel
theorem dX3_chooseRow_44 : decode cX3_chooseRow 44 = .ok (.iaload, 1) := by decide +kernel
theorem dX3_chooseRow_45 : decode cX3_chooseRow 45 = .ok (.if_icmp .eq 9, 3) := by decide +kernel
theorem dX3_chooseRow_48 : decode cX3_chooseRow 48 = .ok (.iinc 3 1, 3) := by decide +kernel
theorem dX3_chooseRow_51 : decode cX3_chooseRow 51 = .ok (.goto (-37), 3) := by decide +kernel
theorem dX3_chooseRow_54 : decode cX3_chooseRow 54 = .ok (.aload_n 0, 1) := by decide +kernel
theorem dX3_chooseRow_55 : decode cX3_chooseRow 55 = .ok (.getfield 27, 3) := by decide +kernel
theorem dX3_chooseRow_58 : decode cX3_chooseRow 58 = .ok (.iload_n 2, 1) := by decide +kernel
theorem dX3_chooseRow_59 : decode cX3_chooseRow 59 = .ok (.iload_n 3, 1) := by decide +kernel
theorem dX3_chooseRow_60 : decode cX3_chooseRow 60 = .ok (.iastore, 1) := by decide +kernel
theorem dX3_chooseRow_61 : decode cX3_chooseRow 61 = .ok (.iload_n 1, 1) := by decide +kernel
theorem dX3_chooseRow_62 : decode cX3_chooseRow 62 = .ok (.iconst 1, 1) := by decide +kernel
theorem dX3_chooseRow_63 : decode cX3_chooseRow 63 = .ok (.iload_n 3, 1) := by decide +kernel
theorem dX3_chooseRow_64 : decode cX3_chooseRow 64 = .ok (.ishl, 1) := by decide +kernel
theorem dX3_chooseRow_65 : decode cX3_chooseRow 65 = .ok (.ior, 1) := by decide +kernel
theorem dX3_chooseRow_66 : decode cX3_chooseRow 66 = .ok (.istore_n 1, 1) := by decide +kernel
theorem dX3_chooseRow_67 : decode cX3_chooseRow 67 = .ok (.iinc 2 1, 3) := by decide +kernel
theorem dX3_chooseRow_70 : decode cX3_chooseRow 70 = .ok (.goto (-66), 3) := by decide +kernel
theorem dX3_chooseRow_73 : decode cX3_chooseRow 73 = .ok (.return_, 1) := by decide +kernel
theorem dX3_mayCome_0 : decode cX3_mayCome 0 = .ok (.iload_n 2, 1) := by decide +kernel
theorem dX3_mayCome_1 : decode cX3_mayCome 1 = .ok (.iload_n 1, 1) := by decide +kernel
theorem dX3_mayCome_2 : decode cX3_mayCome 2 = .ok (.ishr, 1) := by decide +kernel
theorem dX3_mayCome_3 : decode cX3_mayCome 3 = .ok (.iconst 1, 1) := by decide +kernel
theorem dX3_mayCome_4 : decode cX3_mayCome 4 = .ok (.iand, 1) := by decide +kernel
theorem dX3_mayCome_5 : decode cX3_mayCome 5 = .ok (.ifCond .ne 20, 3) := by decide +kernel
theorem dX3_mayCome_8 : decode cX3_mayCome 8 = .ok (.aload_n 0, 1) := by decide +kernel
theorem dX3_mayCome_9 : decode cX3_mayCome 9 = .ok (.getfield 21, 3) := by decide +kernel
theorem dX3_mayCome_12 : decode cX3_mayCome 12 = .ok (.iload_n 1, 1) := by decide +kernel
theorem dX3_mayCome_13 : decode cX3_mayCome 13 = .ok (.iaload, 1) := by decide +kernel
theorem dX3_mayCome_14 : decode cX3_mayCome 14 = .ok (.iload_n 2, 1) := by decide +kernel
theorem dX3_mayCome_15 : decode cX3_mayCome 15 = .ok (.iconst (-1), 1) := by decide +kernel
theorem dX3_mayCome_16 : decode cX3_mayCome 16 = .ok (.ixor, 1) := by decide +kernel
theorem dX3_mayCome_17 : decode cX3_mayCome 17 = .ok (.iand, 1) := by decide +kernel
theorem dX3_mayCome_18 : decode cX3_mayCome 18 = .ok (.ifCond .ne 7, 3) := by decide +kernel
theorem dX3_mayCome_21 : decode cX3_mayCome 21 = .ok (.iconst 1, 1) := by decide +kernel
theorem dX3_mayCome_22 : decode cX3_mayCome 22 = .ok (.goto 4, 3) := by decide +kernel
theorem dX3_mayCome_25 : decode cX3_mayCome 25 = .ok (.iconst 0, 1) := by decide +kernel
theorem dX3_mayCome_26 : decode cX3_mayCome 26 = .ok (.ireturn, 1) := by decide +kernel
theorem dX3_costWith_0 : decode cX3_costWith 0 = .ok (.ldc 48, 2) := by decide +kernel
theorem dX3_costWith_2 : decode cX3_costWith 2 = .ok (.aload_n 0, 1) := by decide +kernel
theorem dX3_costWith_3 : decode cX3_costWith 3 = .ok (.iload_n 1, 1) := by decide +kernel
theorem dX3_costWith_4 : decode cX3_costWith 4 = .ok (.iload_n 2, 1) := by decide +kernel
theorem dX3_costWith_5 : decode cX3_costWith 5 = .ok (.invokevirtual 65, 3) := by decide +kernel
theorem dX3_costWith_8 : decode cX3_costWith 8 = .ok (.aload_n 0, 1) := by decide +kernel
theorem dX3_costWith_9 : decode cX3_costWith 9 = .ok (.getfield 24, 3) := by decide +kernel
theorem dX3_costWith_12 : decode cX3_costWith 12 = .ok (.iload_n 2, 1) := by decide +kernel
theorem dX3_costWith_13 : decode cX3_costWith 13 = .ok (.iconst 1, 1) := by decide +kernel
theorem dX3_costWith_14 : decode cX3_costWith 14 = .ok (.iload_n 1, 1) := by decide +kernel
theorem dX3_costWith_15 : decode cX3_costWith 15 = .ok (.ishl, 1) := by decide +kernel
theorem dX3_costWith_16 : decode cX3_costWith 16 = .ok (.ior, 1) := by decide +kernel
theorem dX3_costWith_17 : decode cX3_costWith 17 = .ok (.iaload, 1) := by decide +kernel
theorem dX3_costWith_18 : decode cX3_costWith 18 = .ok (.iadd, 1) := by decide +kernel
theorem dX3_costWith_19 : decode cX3_costWith 19 = .ok (.invokestatic 57, 3) := by decide +kernel
theorem dX3_costWith_22 : decode cX3_costWith 22 = .ok (.ireturn, 1) := by decide +kernel
theorem dX3_stepCost_0 : decode cX3_stepCost 0 = .ok (.iload_n 1, 1) := by decide +kernel
theorem dX3_stepCost_1 : decode cX3_stepCost 1 = .ok (.aload_n 0, 1) := by decide +kernel
theorem dX3_stepCost_2 : decode cX3_stepCost 2 = .ok (.getfield 37, 3) := by decide +kernel
theorem dX3_stepCost_5 : decode cX3_stepCost 5 = .ok (.if_icmp .ne 5, 3) := by decide +kernel
theorem dX3_stepCost_8 : decode cX3_stepCost 8 = .ok (.iconst 0, 1) := by decide +kernel
theorem dX3_stepCost_9 : decode cX3_stepCost 9 = .ok (.ireturn, 1) := by decide +kernel
theorem dX3_stepCost_10 : decode cX3_stepCost 10 = .ok (.iload_n 2, 1) := by decide +kernel
theorem dX3_stepCost_11 : decode cX3_stepCost 11 = .ok (.invokestatic 68, 3) := by decide +kernel
theorem dX3_stepCost_14 : decode cX3_stepCost 14 = .ok (.istore_n 3, 1) := by decide +kernel
theorem dX3_stepCost_15 : decode cX3_stepCost 15 = .ok (.aload_n 0, 1) := by decide +kernel
theorem dX3_stepCost_16 : decode cX3_stepCost 16 = .ok (.getfield 9, 3) := by decide +kernel
theorem dX3_stepCost_19 : decode cX3_stepCost 19 = .ok (.iload_n 1, 1) := by decide +kernel
theorem dX3_stepCost_20 : decode cX3_stepCost 20 = .ok (.iaload, 1) := by decide +kernel
theorem dX3_stepCost_21 : decode cX3_stepCost 21 = .ok (.aload_n 0, 1) := by decide +kernel
theorem dX3_stepCost_22 : decode cX3_stepCost 22 = .ok (.getfield 15, 3) := by decide +kernel
theorem dX3_stepCost_25 : decode cX3_stepCost 25 = .ok (.iload_n 1, 1) := by decide +kernel
theorem dX3_stepCost_26 : decode cX3_stepCost 26 = .ok (.iaload, 1) := by decide +kernel
theorem dX3_stepCost_27 : decode cX3_stepCost 27 = .ok (.isub, 1) := by decide +kernel
theorem dX3_stepCost_28 : decode cX3_stepCost 28 = .ok (.istore 4, 2) := by decide +kernel
theorem dX3_stepCost_30 : decode cX3_stepCost 30 = .ok (.iload_n 2, 1) := by decide +kernel
theorem dX3_stepCost_31 : decode cX3_stepCost 31 = .ok (.aload_n 0, 1) := by decide +kernel
theorem dX3_stepCost_32 : decode cX3_stepCost 32 = .ok (.getfield 37, 3) := by decide +kernel
theorem dX3_stepCost_35 : decode cX3_stepCost 35 = .ok (.ishr, 1) := by decide +kernel
theorem dX3_stepCost_36 : decode cX3_stepCost 36 = .ok (.iconst 1, 1) := by decide +kernel
theorem dX3_stepCost_37 : decode cX3_stepCost 37 = .ok (.iand, 1) := by decide +kernel
theorem dX3_stepCost_38 : decode cX3_stepCost 38 = .ok (.ifCond .ne 22, 3) := by decide +kernel
theorem dX3_stepCost_41 : decode cX3_stepCost 41 = .ok (.aload_n 0, 1) := by decide +kernel
theorem dX3_stepCost_42 : decode cX3_stepCost 42 = .ok (.getfield 18, 3) := by decide +kernel
theorem dX3_stepCost_45 : decode cX3_stepCost 45 = .ok (.iload_n 1, 1) := by decide +kernel
theorem dX3_stepCost_46 : decode cX3_stepCost 46 = .ok (.iaload, 1) := by decide +kernel
theorem dX3_stepCost_47 : decode cX3_stepCost 47 = .ok (.iload 4, 2) := by decide +kernel
theorem dX3_stepCost_49 : decode cX3_stepCost 49 = .ok (.isub, 1) := by decide +kernel
theorem dX3_stepCost_50 : decode cX3_stepCost 50 = .ok (.aload_n 0, 1) := by decide +kernel
theorem dX3_stepCost_51 : decode cX3_stepCost 51 = .ok (.getfield 18, 3) := by decide +kernel
theorem dX3_stepCost_54 : decode cX3_stepCost 54 = .ok (.iload_n 1, 1) := by decide +kernel
theorem dX3_stepCost_55 : decode cX3_stepCost 55 = .ok (.iaload, 1) := by decide +kernel
theorem dX3_stepCost_56 : decode cX3_stepCost 56 = .ok (.iload_n 3, 1) := by decide +kernel
theorem dX3_stepCost_57 : decode cX3_stepCost 57 = .ok (.imul, 1) := by decide +kernel
theorem dX3_stepCost_58 : decode cX3_stepCost 58 = .ok (.iadd, 1) := by decide +kernel
theorem dX3_stepCost_59 : decode cX3_stepCost 59 = .ok (.ireturn, 1) := by decide +kernel
theorem dX3_stepCost_60 : decode cX3_stepCost 60 = .ok (.iload 4, 2) := by decide +kernel
theorem dX3_stepCost_62 : decode cX3_stepCost 62 = .ok (.iconst 1, 1) := by decide +kernel
theorem dX3_stepCost_63 : decode cX3_stepCost 63 = .ok (.iadd, 1) := by decide +kernel
theorem dX3_stepCost_64 : decode cX3_stepCost 64 = .ok (.aload_n 0, 1) := by decide +kernel
theorem dX3_stepCost_65 : decode cX3_stepCost 65 = .ok (.getfield 18, 3) := by decide +kernel
theorem dX3_stepCost_68 : decode cX3_stepCost 68 = .ok (.iload_n 1, 1) := by decide +kernel
theorem dX3_stepCost_69 : decode cX3_stepCost 69 = .ok (.iaload, 1) := by decide +kernel
theorem dX3_stepCost_70 : decode cX3_stepCost 70 = .ok (.aload_n 0, 1) := by decide +kernel
theorem dX3_stepCost_71 : decode cX3_stepCost 71 = .ok (.getfield 33, 3) := by decide +kernel
theorem dX3_stepCost_74 : decode cX3_stepCost 74 = .ok (.iload_n 3, 1) := by decide +kernel
theorem dX3_stepCost_75 : decode cX3_stepCost 75 = .ok (.isub, 1) := by decide +kernel
theorem dX3_stepCost_76 : decode cX3_stepCost 76 = .ok (.iconst 1, 1) := by decide +kernel
theorem dX3_stepCost_77 : decode cX3_stepCost 77 = .ok (.isub, 1) := by decide +kernel
theorem dX3_stepCost_78 : decode cX3_stepCost 78 = .ok (.imul, 1) := by decide +kernel
theorem dX3_stepCost_79 : decode cX3_stepCost 79 = .ok (.iadd, 1) := by decide +kernel
theorem dX3_stepCost_80 : decode cX3_stepCost 80 = .ok (.ireturn, 1) := by decide +kernel
theorem dX3_leastCost_0 : decode cX3_leastCost 0 = .ok (.aload_n 0, 1) := by decide +kernel
theorem dX3_leastCost_1 : decode cX3_leastCost 1 = .ok (.getfield 24, 3) := by decide +kernel
theorem dX3_leastCost_4 : decode cX3_leastCost 4 = .ok (.iconst 0, 1) := by decide +kernel
theorem dX3_leastCost_5 : decode cX3_leastCost 5 = .ok (.iaload, 1) := by decide +kernel
theorem dX3_leastCost_6 : decode cX3_leastCost 6 = .ok (.ireturn, 1) := by decide +kernel
theorem dX3_keepRow_0 : decode cX3_keepRow 0 = .ok (.iconst 0, 1) := by decide +kernel
theorem dX3_keepRow_1 : decode cX3_keepRow 1 = .ok (.istore_n 1, 1) := by decide +kernel
theorem dX3_keepRow_2 : decode cX3_keepRow 2 = .ok (.iload_n 1, 1) := by decide +kernel
theorem dX3_keepRow_3 : decode cX3_keepRow 3 = .ok (.aload_n 0, 1) := by decide +kernel
theorem dX3_keepRow_4 : decode cX3_keepRow 4 = .ok (.getfield 33, 3) := by decide +kernel
theorem dX3_keepRow_7 : decode cX3_keepRow 7 = .ok (.if_icmp .ge 26, 3) := by decide +kernel
theorem dX3_keepRow_10 : decode cX3_keepRow 10 = .ok (.aload_n 0, 1) := by decide +kernel
theorem dX3_keepRow_11 : decode cX3_keepRow 11 = .ok (.getfield 30, 3) := by decide +kernel
theorem dX3_keepRow_14 : decode cX3_keepRow 14 = .ok (.iload_n 1, 1) := by decide +kernel
theorem dX3_keepRow_15 : decode cX3_keepRow 15 = .ok (.aload_n 0, 1) := by decide +kernel
theorem dX3_keepRow_16 : decode cX3_keepRow 16 = .ok (.getfield 9, 3) := by decide +kernel
theorem dX3_keepRow_19 : decode cX3_keepRow 19 = .ok (.aload_n 0, 1) := by decide +kernel
theorem dX3_keepRow_20 : decode cX3_keepRow 20 = .ok (.getfield 27, 3) := by decide +kernel
theorem dX3_keepRow_23 : decode cX3_keepRow 23 = .ok (.iload_n 1, 1) := by decide +kernel
theorem dX3_keepRow_24 : decode cX3_keepRow 24 = .ok (.iaload, 1) := by decide +kernel
theorem dX3_keepRow_25 : decode cX3_keepRow 25 = .ok (.iaload, 1) := by decide +kernel
theorem dX3_keepRow_26 : decode cX3_keepRow 26 = .ok (.iastore, 1) := by decide +kernel
theorem dX3_keepRow_27 : decode cX3_keepRow 27 = .ok (.iinc 1 1, 3) := by decide +kernel
theorem dX3_keepRow_30 : decode cX3_keepRow 30 = .ok (.goto (-28), 3) := by decide +kernel
theorem dX3_keepRow_33 : decode cX3_keepRow 33 = .ok (.aload_n 0, 1) := by decide +kernel
theorem dX3_keepRow_34 : decode cX3_keepRow 34 = .ok (.aload_n 0, 1) := by decide +kernel
theorem dX3_keepRow_35 : decode cX3_keepRow 35 = .ok (.getfield 33, 3) := by decide +kernel
theorem dX3_keepRow_38 : decode cX3_keepRow 38 = .ok (.putfield 73, 3) := by decide +kernel
theorem dX3_keepRow_41 : decode cX3_keepRow 41 = .ok (.return_, 1) := by decide +kernel
theorem dX4_init_0 : decode cX4_init 0 = .ok (.aload_n 0, 1) := by decide +kernel
theorem dX4_init_1 : decode cX4_init 1 = .ok (.invokespecial 3, 3) := by decide +kernel
theorem dX4_init_4 : decode cX4_init 4 = .ok (.aload_n 0, 1) := by decide +kernel
theorem dX4_init_5 : decode cX4_init 5 = .ok (.bipush 20, 2) := by decide +kernel
theorem dX4_init_7 : decode cX4_init 7 = .ok (.newarray .int, 2) := by decide +kernel
theorem dX4_init_9 : decode cX4_init 9 = .ok (.putfield 9, 3) := by decide +kernel
theorem dX4_init_12 : decode cX4_init 12 = .ok (.aload_n 0, 1) := by decide +kernel
theorem dX4_init_13 : decode cX4_init 13 = .ok (.bipush 20, 2) := by decide +kernel
theorem dX4_init_15 : decode cX4_init 15 = .ok (.newarray .int, 2) := by decide +kernel
theorem dX4_init_17 : decode cX4_init 17 = .ok (.putfield 15, 3) := by decide +kernel
theorem dX4_init_20 : decode cX4_init 20 = .ok (.return_, 1) := by decide +kernel
theorem dX4_has_0 : decode cX4_has 0 = .ok (.iconst 0, 1) := by decide +kernel
theorem dX4_has_1 : decode cX4_has 1 = .ok (.istore_n 3, 1) := by decide +kernel
theorem dX4_has_2 : decode cX4_has 2 = .ok (.iload_n 3, 1) := by decide +kernel
theorem dX4_has_3 : decode cX4_has 3 = .ok (.aload_n 0, 1) := by decide +kernel
theorem dX4_has_4 : decode cX4_has 4 = .ok (.getfield 18, 3) := by decide +kernel
theorem dX4_has_7 : decode cX4_has 7 = .ok (.if_icmp .ge 31, 3) := by decide +kernel
theorem dX4_has_10 : decode cX4_has 10 = .ok (.aload_n 0, 1) := by decide +kernel
theorem dX4_has_11 : decode cX4_has 11 = .ok (.getfield 9, 3) := by decide +kernel
theorem dX4_has_14 : decode cX4_has 14 = .ok (.iload_n 3, 1) := by decide +kernel
theorem dX4_has_15 : decode cX4_has 15 = .ok (.iaload, 1) := by decide +kernel
theorem dX4_has_16 : decode cX4_has 16 = .ok (.iload_n 1, 1) := by decide +kernel
theorem dX4_has_17 : decode cX4_has 17 = .ok (.if_icmp .ne 15, 3) := by decide +kernel
theorem dX4_has_20 : decode cX4_has 20 = .ok (.aload_n 0, 1) := by decide +kernel
theorem dX4_has_21 : decode cX4_has 21 = .ok (.getfield 15, 3) := by decide +kernel
theorem dX4_has_24 : decode cX4_has 24 = .ok (.iload_n 3, 1) := by decide +kernel
theorem dX4_has_25 : decode cX4_has 25 = .ok (.iaload, 1) := by decide +kernel
theorem dX4_has_26 : decode cX4_has 26 = .ok (.iload_n 2, 1) := by decide +kernel
theorem dX4_has_27 : decode cX4_has 27 = .ok (.if_icmp .ne 5, 3) := by decide +kernel
theorem dX4_has_30 : decode cX4_has 30 = .ok (.iconst 1, 1) := by decide +kernel
theorem dX4_has_31 : decode cX4_has 31 = .ok (.ireturn, 1) := by decide +kernel
theorem dX4_has_32 : decode cX4_has 32 = .ok (.iinc 3 1, 3) := by decide +kernel
theorem dX4_has_35 : decode cX4_has 35 = .ok (.goto (-33), 3) := by decide +kernel
theorem dX4_has_38 : decode cX4_has 38 = .ok (.iconst 0, 1) := by decide +kernel
theorem dX4_has_39 : decode cX4_has 39 = .ok (.ireturn, 1) := by decide +kernel
theorem dX4_add_0 : decode cX4_add 0 = .ok (.aload_n 0, 1) := by decide +kernel
theorem dX4_add_1 : decode cX4_add 1 = .ok (.getfield 18, 3) := by decide +kernel
theorem dX4_add_4 : decode cX4_add 4 = .ok (.bipush 20, 2) := by decide +kernel
theorem dX4_add_6 : decode cX4_add 6 = .ok (.if_icmp .ge 33, 3) := by decide +kernel
theorem dX4_add_9 : decode cX4_add 9 = .ok (.aload_n 0, 1) := by decide +kernel
theorem dX4_add_10 : decode cX4_add 10 = .ok (.getfield 9, 3) := by decide +kernel
theorem dX4_add_13 : decode cX4_add 13 = .ok (.aload_n 0, 1) := by decide +kernel
theorem dX4_add_14 : decode cX4_add 14 = .ok (.getfield 18, 3) := by decide +kernel
theorem dX4_add_17 : decode cX4_add 17 = .ok (.iload_n 1, 1) := by decide +kernel
theorem dX4_add_18 : decode cX4_add 18 = .ok (.iastore, 1) := by decide +kernel
theorem dX4_add_19 : decode cX4_add 19 = .ok (.aload_n 0, 1) := by decide +kernel
theorem dX4_add_20 : decode cX4_add 20 = .ok (.getfield 15, 3) := by decide +kernel
theorem dX4_add_23 : decode cX4_add 23 = .ok (.aload_n 0, 1) := by decide +kernel
theorem dX4_add_24 : decode cX4_add 24 = .ok (.getfield 18, 3) := by decide +kernel
theorem dX4_add_27 : decode cX4_add 27 = .ok (.iload_n 2, 1) := by decide +kernel
theorem dX4_add_28 : decode cX4_add 28 = .ok (.iastore, 1) := by decide +kernel
theorem dX4_add_29 : decode cX4_add 29 = .ok (.aload_n 0, 1) := by decide +kernel
theorem dX4_add_30 : decode cX4_add 30 = .ok (.dup, 1) := by decide +kernel
theorem dX4_add_31 : decode cX4_add 31 = .ok (.getfield 18, 3) := by decide +kernel
theorem dX4_add_34 : decode cX4_add 34 = .ok (.iconst 1, 1) := by decide +kernel
theorem dX4_add_35 : decode cX4_add 35 = .ok (.iadd, 1) := by decide +kernel
theorem dX4_add_36 : decode cX4_add 36 = .ok (.putfield 18, 3) := by decide +kernel
theorem dX4_add_39 : decode cX4_add 39 = .ok (.return_, 1) := by decide +kernel
theorem dX4_mustBeAhead_0 : decode cX4_mustBeAhead 0 = .ok (.iconst 1, 1) := by decide +kernel
theorem dX4_mustBeAhead_1 : decode cX4_mustBeAhead 1 = .ok (.iload_n 1, 1) := by decide +kernel
theorem dX4_mustBeAhead_2 : decode cX4_mustBeAhead 2 = .ok (.ishl, 1) := by decide +kernel
theorem dX4_mustBeAhead_3 : decode cX4_mustBeAhead 3 = .ok (.istore_n 3, 1) := by decide +kernel
theorem dX4_mustBeAhead_4 : decode cX4_mustBeAhead 4 = .ok (.iconst 0, 1) := by decide +kernel
theorem dX4_mustBeAhead_5 : decode cX4_mustBeAhead 5 = .ok (.istore 4, 2) := by decide +kernel
theorem dX4_mustBeAhead_7 : decode cX4_mustBeAhead 7 = .ok (.iload 4, 2) := by decide +kernel
theorem dX4_mustBeAhead_9 : decode cX4_mustBeAhead 9 = .ok (.aload_n 0, 1) := by decide +kernel
theorem dX4_mustBeAhead_10 : decode cX4_mustBeAhead 10 = .ok (.getfield 18, 3) := by decide +kernel
theorem dX4_mustBeAhead_13 : decode cX4_mustBeAhead 13 = .ok (.if_icmp .ge 53, 3) := by decide +kernel
theorem dX4_mustBeAhead_16 : decode cX4_mustBeAhead 16 = .ok (.iconst 0, 1) := by decide +kernel
theorem dX4_mustBeAhead_17 : decode cX4_mustBeAhead 17 = .ok (.istore 5, 2) := by decide +kernel
theorem dX4_mustBeAhead_19 : decode cX4_mustBeAhead 19 = .ok (.iload 5, 2) := by decide +kernel
theorem dX4_mustBeAhead_21 : decode cX4_mustBeAhead 21 = .ok (.aload_n 0, 1) := by decide +kernel
theorem dX4_mustBeAhead_22 : decode cX4_mustBeAhead 22 = .ok (.getfield 18, 3) := by decide +kernel
theorem dX4_mustBeAhead_25 : decode cX4_mustBeAhead 25 = .ok (.if_icmp .ge 35, 3) := by decide +kernel
theorem dX4_mustBeAhead_28 : decode cX4_mustBeAhead 28 = .ok (.iload_n 3, 1) := by decide +kernel
theorem dX4_mustBeAhead_29 : decode cX4_mustBeAhead 29 = .ok (.aload_n 0, 1) := by decide +kernel
theorem dX4_mustBeAhead_30 : decode cX4_mustBeAhead 30 = .ok (.getfield 9, 3) := by decide +kernel
theorem dX4_mustBeAhead_33 : decode cX4_mustBeAhead 33 = .ok (.iload 5, 2) := by decide +kernel
theorem dX4_mustBeAhead_35 : decode cX4_mustBeAhead 35 = .ok (.iaload, 1) := by decide +kernel
theorem dX4_mustBeAhead_36 : decode cX4_mustBeAhead 36 = .ok (.ishr, 1) := by decide +kernel
theorem dX4_mustBeAhead_37 : decode cX4_mustBeAhead 37 = .ok (.iconst 1, 1) := by decide +kernel
theorem dX4_mustBeAhead_38 : decode cX4_mustBeAhead 38 = .ok (.iand, 1) := by decide +kernel
theorem dX4_mustBeAhead_39 : decode cX4_mustBeAhead 39 = .ok (.ifCond .eq 15, 3) := by decide +kernel
theorem dX4_mustBeAhead_42 : decode cX4_mustBeAhead 42 = .ok (.iload_n 3, 1) := by decide +kernel
theorem dX4_mustBeAhead_43 : decode cX4_mustBeAhead 43 = .ok (.iconst 1, 1) := by decide +kernel
theorem dX4_mustBeAhead_44 : decode cX4_mustBeAhead 44 = .ok (.aload_n 0, 1) := by decide +kernel
theorem dX4_mustBeAhead_45 : decode cX4_mustBeAhead 45 = .ok (.getfield 15, 3) := by decide +kernel
theorem dX4_mustBeAhead_48 : decode cX4_mustBeAhead 48 = .ok (.iload 5, 2) := by decide +kernel
theorem dX4_mustBeAhead_50 : decode cX4_mustBeAhead 50 = .ok (.iaload, 1) := by decide +kernel
theorem dX4_mustBeAhead_51 : decode cX4_mustBeAhead 51 = .ok (.ishl, 1) := by decide +kernel
theorem dX4_mustBeAhead_52 : decode cX4_mustBeAhead 52 = .ok (.ior, 1) := by decide +kernel
theorem dX4_mustBeAhead_53 : decode cX4_mustBeAhead 53 = .ok (.istore_n 3, 1) := by decide +kernel
theorem dX4_mustBeAhead_54 : decode cX4_mustBeAhead 54 = .ok (.iinc 5 1, 3) := by decide +kernel
theorem dX4_mustBeAhead_57 : decode cX4_mustBeAhead 57 = .ok (.goto (-38), 3) := by decide +kernel
theorem dX4_mustBeAhead_60 : decode cX4_mustBeAhead 60 = .ok (.iinc 4 1, 3) := by decide +kernel
theorem dX4_mustBeAhead_63 : decode cX4_mustBeAhead 63 = .ok (.goto (-56), 3) := by decide +kernel
theorem dX4_mustBeAhead_66 : decode cX4_mustBeAhead 66 = .ok (.iload_n 3, 1) := by decide +kernel
theorem dX4_mustBeAhead_67 : decode cX4_mustBeAhead 67 = .ok (.iload_n 2, 1) := by decide +kernel
theorem dX4_mustBeAhead_68 : decode cX4_mustBeAhead 68 = .ok (.ishr, 1) := by decide +kernel
theorem dX4_mustBeAhead_69 : decode cX4_mustBeAhead 69 = .ok (.iconst 1, 1) := by decide +kernel
theorem dX4_mustBeAhead_70 : decode cX4_mustBeAhead 70 = .ok (.iand, 1) := by decide +kernel
theorem dX4_mustBeAhead_71 : decode cX4_mustBeAhead 71 = .ok (.ifCond .eq 7, 3) := by decide +kernel
theorem dX4_mustBeAhead_74 : decode cX4_mustBeAhead 74 = .ok (.iconst 1, 1) := by decide +kernel
theorem dX4_mustBeAhead_75 : decode cX4_mustBeAhead 75 = .ok (.goto 4, 3) := by decide +kernel
theorem dX4_mustBeAhead_78 : decode cX4_mustBeAhead 78 = .ok (.iconst 0, 1) := by decide +kernel
theorem dX4_mustBeAhead_79 : decode cX4_mustBeAhead 79 = .ok (.ireturn, 1) := by decide +kernel
theorem dX5_init_0 : decode cX5_init 0 = .ok (.aload_n 0, 1) := by decide +kernel
theorem dX5_init_1 : decode cX5_init 1 = .ok (.invokespecial 3, 3) := by decide +kernel
theorem dX5_init_4 : decode cX5_init 4 = .ok (.aload_n 0, 1) := by decide +kernel
theorem dX5_init_5 : decode cX5_init 5 = .ok (.bipush 24, 2) := by decide +kernel
theorem dX5_init_7 : decode cX5_init 7 = .ok (.newarray .int, 2) := by decide +kernel
theorem dX5_init_9 : decode cX5_init 9 = .ok (.putfield 9, 3) := by decide +kernel
theorem dX5_init_12 : decode cX5_init 12 = .ok (.aload_n 0, 1) := by decide +kernel
theorem dX5_init_13 : decode cX5_init 13 = .ok (.bipush 24, 2) := by decide +kernel
theorem dX5_init_15 : decode cX5_init 15 = .ok (.newarray .int, 2) := by decide +kernel
theorem dX5_init_17 : decode cX5_init 17 = .ok (.putfield 15, 3) := by decide +kernel
theorem dX5_init_20 : decode cX5_init 20 = .ok (.return_, 1) := by decide +kernel
theorem dX5_reset_0 : decode cX5_reset 0 = .ok (.aload_n 0, 1) := by decide +kernel
theorem dX5_reset_1 : decode cX5_reset 1 = .ok (.iload_n 1, 1) := by decide +kernel
theorem dX5_reset_2 : decode cX5_reset 2 = .ok (.bipush 24, 2) := by decide +kernel
theorem dX5_reset_4 : decode cX5_reset 4 = .ok (.invokestatic 18, 3) := by decide +kernel
theorem dX5_reset_7 : decode cX5_reset 7 = .ok (.putfield 24, 3) := by decide +kernel
theorem dX5_reset_10 : decode cX5_reset 10 = .ok (.iconst 0, 1) := by decide +kernel
theorem dX5_reset_11 : decode cX5_reset 11 = .ok (.istore_n 2, 1) := by decide +kernel
theorem dX5_reset_12 : decode cX5_reset 12 = .ok (.iload_n 2, 1) := by decide +kernel
theorem dX5_reset_13 : decode cX5_reset 13 = .ok (.aload_n 0, 1) := by decide +kernel
theorem dX5_reset_14 : decode cX5_reset 14 = .ok (.getfield 24, 3) := by decide +kernel
theorem dX5_reset_17 : decode cX5_reset 17 = .ok (.if_icmp .ge 16, 3) := by decide +kernel
theorem dX5_reset_20 : decode cX5_reset 20 = .ok (.aload_n 0, 1) := by decide +kernel
theorem dX5_reset_21 : decode cX5_reset 21 = .ok (.getfield 9, 3) := by decide +kernel
theorem dX5_reset_24 : decode cX5_reset 24 = .ok (.iload_n 2, 1) := by decide +kernel
theorem dX5_reset_25 : decode cX5_reset 25 = .ok (.iload_n 2, 1) := by decide +kernel
theorem dX5_reset_26 : decode cX5_reset 26 = .ok (.iastore, 1) := by decide +kernel
theorem dX5_reset_27 : decode cX5_reset 27 = .ok (.iinc 2 1, 3) := by decide +kernel
theorem dX5_reset_30 : decode cX5_reset 30 = .ok (.goto (-18), 3) := by decide +kernel
theorem dX5_reset_33 : decode cX5_reset 33 = .ok (.return_, 1) := by decide +kernel
theorem dX5_placeOf_0 : decode cX5_placeOf 0 = .ok (.iconst 0, 1) := by decide +kernel
theorem dX5_placeOf_1 : decode cX5_placeOf 1 = .ok (.istore_n 2, 1) := by decide +kernel
theorem dX5_placeOf_2 : decode cX5_placeOf 2 = .ok (.iload_n 2, 1) := by decide +kernel
theorem dX5_placeOf_3 : decode cX5_placeOf 3 = .ok (.aload_n 0, 1) := by decide +kernel
theorem dX5_placeOf_4 : decode cX5_placeOf 4 = .ok (.getfield 24, 3) := by decide +kernel
theorem dX5_placeOf_7 : decode cX5_placeOf 7 = .ok (.if_icmp .ge 21, 3) := by decide +kernel
theorem dX5_placeOf_10 : decode cX5_placeOf 10 = .ok (.aload_n 0, 1) := by decide +kernel
theorem dX5_placeOf_11 : decode cX5_placeOf 11 = .ok (.getfield 9, 3) := by decide +kernel
theorem dX5_placeOf_14 : decode cX5_placeOf 14 = .ok (.iload_n 2, 1) := by decide +kernel
theorem dX5_placeOf_15 : decode cX5_placeOf 15 = .ok (.iaload, 1) := by decide +kernel
theorem dX5_placeOf_16 : decode cX5_placeOf 16 = .ok (.iload_n 1, 1) := by decide +kernel
theorem dX5_placeOf_17 : decode cX5_placeOf 17 = .ok (.if_icmp .ne 5, 3) := by decide +kernel
theorem dX5_placeOf_20 : decode cX5_placeOf 20 = .ok (.iload_n 2, 1) := by decide +kernel
theorem dX5_placeOf_21 : decode cX5_placeOf 21 = .ok (.ireturn, 1) := by decide +kernel
theorem dX5_placeOf_22 : decode cX5_placeOf 22 = .ok (.iinc 2 1, 3) := by decide +kernel
theorem dX5_placeOf_25 : decode cX5_placeOf 25 = .ok (.goto (-23), 3) := by decide +kernel
theorem dX5_placeOf_28 : decode cX5_placeOf 28 = .ok (.iconst (-1), 1) := by decide +kernel
theorem dX5_placeOf_29 : decode cX5_placeOf 29 = .ok (.ireturn, 1) := by decide +kernel
theorem dX5_start_0 : decode cX5_start 0 = .ok (.aload_n 0, 1) := by decide +kernel
theorem dX5_start_1 : decode cX5_start 1 = .ok (.getfield 9, 3) := by decide +kernel
theorem dX5_start_4 : decode cX5_start 4 = .ok (.iconst 0, 1) := by decide +kernel
theorem dX5_start_5 : decode cX5_start 5 = .ok (.aload_n 0, 1) := by decide +kernel
theorem dX5_start_6 : decode cX5_start 6 = .ok (.getfield 15, 3) := by decide +kernel
theorem dX5_start_9 : decode cX5_start 9 = .ok (.iconst 0, 1) := by decide +kernel
theorem dX5_start_10 : decode cX5_start 10 = .ok (.aload_n 0, 1) := by decide +kernel
theorem dX5_start_11 : decode cX5_start 11 = .ok (.getfield 24, 3) := by decide +kernel
theorem dX5_start_14 : decode cX5_start 14 = .ok (.invokestatic 28, 3) := by decide +kernel
theorem dX5_start_17 : decode cX5_start 17 = .ok (.aload_n 0, 1) := by decide +kernel
theorem dX5_start_18 : decode cX5_start 18 = .ok (.iload_n 1, 1) := by decide +kernel
theorem dX5_start_19 : decode cX5_start 19 = .ok (.putfield 34, 3) := by decide +kernel
theorem dX5_start_22 : decode cX5_start 22 = .ok (.return_, 1) := by decide +kernel
theorem dX5_put_0 : decode cX5_put 0 = .ok (.iconst 0, 1) := by decide +kernel
theorem dX5_put_1 : decode cX5_put 1 = .ok (.istore_n 3, 1) := by decide +kernel
theorem dX5_put_2 : decode cX5_put 2 = .ok (.iload_n 3, 1) := by decide +kernel
theorem dX5_put_3 : decode cX5_put 3 = .ok (.iload_n 2, 1) := by decide +kernel
theorem dX5_put_4 : decode cX5_put 4 = .ok (.if_icmp .ge 68, 3) := by decide +kernel
theorem dX5_put_7 : decode cX5_put 7 = .ok (.aload_n 0, 1) := by decide +kernel
theorem dX5_put_8 : decode cX5_put 8 = .ok (.getfield 34, 3) := by decide +kernel
theorem dX5_put_11 : decode cX5_put 11 = .ok (.ifCond .lt 55, 3) := by decide +kernel
theorem dX5_put_14 : decode cX5_put 14 = .ok (.aload_n 0, 1) := by decide +kernel
theorem dX5_put_15 : decode cX5_put 15 = .ok (.getfield 34, 3) := by decide +kernel
theorem dX5_put_18 : decode cX5_put 18 = .ok (.aload_n 0, 1) := by decide +kernel
theorem dX5_put_19 : decode cX5_put 19 = .ok (.getfield 24, 3) := by decide +kernel
theorem dX5_put_22 : decode cX5_put 22 = .ok (.if_icmp .ge 44, 3) := by decide +kernel
theorem dX5_put_25 : decode cX5_put 25 = .ok (.iload_n 1, 1) := by decide +kernel
theorem dX5_put_26 : decode cX5_put 26 = .ok (.ifCond .lt 40, 3) := by decide +kernel
theorem dX5_put_29 : decode cX5_put 29 = .ok (.iload_n 1, 1) := by decide +kernel
theorem dX5_put_30 : decode cX5_put 30 = .ok (.iload_n 3, 1) := by decide +kernel
theorem dX5_put_31 : decode cX5_put 31 = .ok (.iadd, 1) := by decide +kernel
theorem dX5_put_32 : decode cX5_put 32 = .ok (.aload_n 0, 1) := by decide +kernel
theorem dX5_put_33 : decode cX5_put 33 = .ok (.getfield 24, 3) := by decide +kernel
theorem dX5_put_36 : decode cX5_put 36 = .ok (.if_icmp .ge 30, 3) := by decide +kernel
theorem dX5_put_39 : decode cX5_put 39 = .ok (.aload_n 0, 1) := by decide +kernel
theorem dX5_put_40 : decode cX5_put 40 = .ok (.getfield 15, 3) := by decide +kernel
theorem dX5_put_43 : decode cX5_put 43 = .ok (.aload_n 0, 1) := by decide +kernel
theorem dX5_put_44 : decode cX5_put 44 = .ok (.getfield 34, 3) := by decide +kernel
theorem dX5_put_47 : decode cX5_put 47 = .ok (.aload_n 0, 1) := by decide +kernel
theorem dX5_put_48 : decode cX5_put 48 = .ok (.getfield 9, 3) := by decide +kernel
theorem dX5_put_51 : decode cX5_put 51 = .ok (.iload_n 1, 1) := by decide +kernel
theorem dX5_put_52 : decode cX5_put 52 = .ok (.iload_n 3, 1) := by decide +kernel
theorem dX5_put_53 : decode cX5_put 53 = .ok (.iadd, 1) := by decide +kernel
theorem dX5_put_54 : decode cX5_put 54 = .ok (.iaload, 1) := by decide +kernel
theorem dX5_put_55 : decode cX5_put 55 = .ok (.iastore, 1) := by decide +kernel
theorem dX5_put_56 : decode cX5_put 56 = .ok (.aload_n 0, 1) := by decide +kernel
theorem dX5_put_57 : decode cX5_put 57 = .ok (.dup, 1) := by decide +kernel
theorem dX5_put_58 : decode cX5_put 58 = .ok (.getfield 34, 3) := by decide +kernel
theorem dX5_put_61 : decode cX5_put 61 = .ok (.iconst 1, 1) := by decide +kernel
theorem dX5_put_62 : decode cX5_put 62 = .ok (.iadd, 1) := by decide +kernel
theorem dX5_put_63 : decode cX5_put 63 = .ok (.putfield 34, 3) := by decide +kernel
theorem dX5_put_66 : decode cX5_put 66 = .ok (.iinc 3 1, 3) := by decide +kernel
theorem dX5_put_69 : decode cX5_put 69 = .ok (.goto (-67), 3) := by decide +kernel
theorem dX5_put_72 : decode cX5_put 72 = .ok (.return_, 1) := by decide +kernel
theorem dX5_take_0 : decode cX5_take 0 = .ok (.iconst 0, 1) := by decide +kernel
theorem dX5_take_1 : decode cX5_take 1 = .ok (.istore_n 1, 1) := by decide +kernel
theorem dX5_take_2 : decode cX5_take 2 = .ok (.iconst 0, 1) := by decide +kernel
theorem dX5_take_3 : decode cX5_take 3 = .ok (.istore_n 2, 1) := by decide +kernel
theorem dX5_take_4 : decode cX5_take 4 = .ok (.iload_n 2, 1) := by decide +kernel
theorem dX5_take_5 : decode cX5_take 5 = .ok (.aload_n 0, 1) := by decide +kernel
theorem dX5_take_6 : decode cX5_take 6 = .ok (.getfield 24, 3) := by decide +kernel
theorem dX5_take_9 : decode cX5_take 9 = .ok (.if_icmp .ge 39, 3) := by decide +kernel
theorem dX5_take_12 : decode cX5_take 12 = .ok (.aload_n 0, 1) := by decide +kernel
theorem dX5_take_13 : decode cX5_take 13 = .ok (.getfield 9, 3) := by decide +kernel
theorem dX5_take_16 : decode cX5_take 16 = .ok (.iload_n 2, 1) := by decide +kernel
theorem dX5_take_17 : decode cX5_take 17 = .ok (.iaload, 1) := by decide +kernel
theorem dX5_take_18 : decode cX5_take 18 = .ok (.aload_n 0, 1) := by decide +kernel
theorem dX5_take_19 : decode cX5_take 19 = .ok (.getfield 15, 3) := by decide +kernel
theorem dX5_take_22 : decode cX5_take 22 = .ok (.iload_n 2, 1) := by decide +kernel
theorem dX5_take_23 : decode cX5_take 23 = .ok (.iaload, 1) := by decide +kernel
theorem dX5_take_24 : decode cX5_take 24 = .ok (.if_icmp .eq 6, 3) := by decide +kernel
theorem dX5_take_27 : decode cX5_take 27 = .ok (.iinc 1 1, 3) := by decide +kernel
theorem dX5_take_30 : decode cX5_take 30 = .ok (.aload_n 0, 1) := by decide +kernel
theorem dX5_take_31 : decode cX5_take 31 = .ok (.getfield 9, 3) := by decide +kernel
theorem dX5_take_34 : decode cX5_take 34 = .ok (.iload_n 2, 1) := by decide +kernel
theorem dX5_take_35 : decode cX5_take 35 = .ok (.aload_n 0, 1) := by decide +kernel
theorem dX5_take_36 : decode cX5_take 36 = .ok (.getfield 15, 3) := by decide +kernel
theorem dX5_take_39 : decode cX5_take 39 = .ok (.iload_n 2, 1) := by decide +kernel
theorem dX5_take_40 : decode cX5_take 40 = .ok (.iaload, 1) := by decide +kernel
theorem dX5_take_41 : decode cX5_take 41 = .ok (.iastore, 1) := by decide +kernel
theorem dX5_take_42 : decode cX5_take 42 = .ok (.iinc 2 1, 3) := by decide +kernel
theorem dX5_take_45 : decode cX5_take 45 = .ok (.goto (-41), 3) := by decide +kernel
theorem dX5_take_48 : decode cX5_take 48 = .ok (.iload_n 1, 1) := by decide +kernel
theorem dX5_take_49 : decode cX5_take 49 = .ok (.ireturn, 1) := by decide +kernel
theorem dX6_init_0 : decode cX6_init 0 = .ok (.aload_n 0, 1) := by decide +kernel
theorem dX6_init_1 : decode cX6_init 1 = .ok (.invokespecial 3, 3) := by decide +kernel
theorem dX6_init_4 : decode cX6_init 4 = .ok (.aload_n 0, 1) := by decide +kernel
theorem dX6_init_5 : decode cX6_init 5 = .ok (.iconst (-1), 1) := by decide +kernel
theorem dX6_init_6 : decode cX6_init 6 = .ok (.putfield 9, 3) := by decide +kernel
theorem dX6_init_9 : decode cX6_init 9 = .ok (.return_, 1) := by decide +kernel
theorem dX6_scan_0 : decode cX6_scan 0 = .ok (.aload_n 0, 1) := by decide +kernel
theorem dX6_scan_1 : decode cX6_scan 1 = .ok (.aload_n 2, 1) := by decide +kernel
theorem dX6_scan_2 : decode cX6_scan 2 = .ok (.invokevirtual 15, 3) := by decide +kernel
theorem dX6_scan_5 : decode cX6_scan 5 = .ok (.iconst 0, 1) := by decide +kernel
theorem dX6_scan_6 : decode cX6_scan 6 = .ok (.istore_n 3, 1) := by decide +kernel
theorem dX6_scan_7 : decode cX6_scan 7 = .ok (.iload_n 3, 1) := by decide +kernel
theorem dX6_scan_8 : decode cX6_scan 8 = .ok (.aload_n 1, 1) := by decide +kernel
theorem dX6_scan_9 : decode cX6_scan 9 = .ok (.getfield 19, 3) := by decide +kernel
theorem dX6_scan_12 : decode cX6_scan 12 = .ok (.if_icmp .ge 65, 3) := by decide +kernel
theorem dX6_scan_15 : decode cX6_scan 15 = .ok (.aload_n 0, 1) := by decide +kernel
theorem dX6_scan_16 : decode cX6_scan 16 = .ok (.getfield 24, 3) := by decide +kernel
theorem dX6_scan_19 : decode cX6_scan 19 = .ok (.ifCond .ne 58, 3) := by decide +kernel
theorem dX6_scan_22 : decode cX6_scan 22 = .ok (.aload_n 1, 1) := by decide +kernel
theorem dX6_scan_23 : decode cX6_scan 23 = .ok (.getfield 27, 3) := by decide +kernel
theorem dX6_scan_26 : decode cX6_scan 26 = .ok (.iload_n 3, 1) := by decide +kernel
theorem dX6_scan_27 : decode cX6_scan 27 = .ok (.iaload, 1) := by decide +kernel
theorem dX6_scan_28 : decode cX6_scan 28 = .ok (.invokestatic 31, 3) := by decide +kernel
theorem dX6_scan_31 : decode cX6_scan 31 = .ok (.istore 4, 2) := by decide +kernel
theorem dX6_scan_33 : decode cX6_scan 33 = .ok (.aload_n 2, 1) := by decide +kernel
theorem dX6_scan_34 : decode cX6_scan 34 = .ok (.getfield 35, 3) := by decide +kernel
theorem dX6_scan_37 : decode cX6_scan 37 = .ok (.iload_n 3, 1) := by decide +kernel
theorem dX6_scan_38 : decode cX6_scan 38 = .ok (.iload 4, 2) := by decide +kernel
theorem dX6_scan_40 : decode cX6_scan 40 = .ok (.iastore, 1) := by decide +kernel
theorem dX6_scan_41 : decode cX6_scan 41 = .ok (.iload 4, 2) := by decide +kernel
theorem dX6_scan_43 : decode cX6_scan 43 = .ok (.invokestatic 40, 3) := by decide +kernel
theorem dX6_scan_46 : decode cX6_scan 46 = .ok (.ifCond .eq 12, 3) := by decide +kernel
theorem dX6_scan_49 : decode cX6_scan 49 = .ok (.aload_n 0, 1) := by decide +kernel
theorem dX6_scan_50 : decode cX6_scan 50 = .ok (.aload_n 2, 1) := by decide +kernel
theorem dX6_scan_51 : decode cX6_scan 51 = .ok (.iload_n 3, 1) := by decide +kernel
theorem dX6_scan_52 : decode cX6_scan 52 = .ok (.invokevirtual 44, 3) := by decide +kernel
theorem dX6_scan_55 : decode cX6_scan 55 = .ok (.goto 16, 3) := by decide +kernel
theorem dX6_scan_58 : decode cX6_scan 58 = .ok (.aload_n 0, 1) := by decide +kernel
theorem dX6_scan_59 : decode cX6_scan 59 = .ok (.iconst 0, 1) := by decide +kernel
theorem dX6_scan_60 : decode cX6_scan 60 = .ok (.putfield 48, 3) := by decide +kernel
theorem dX6_scan_63 : decode cX6_scan 63 = .ok (.aload_n 0, 1) := by decide +kernel
theorem dX6_scan_64 : decode cX6_scan 64 = .ok (.aload_n 2, 1) := by decide +kernel
theorem dX6_scan_65 : decode cX6_scan 65 = .ok (.iload_n 3, 1) := by decide +kernel
theorem dX6_scan_66 : decode cX6_scan 66 = .ok (.iload 4, 2) := by decide +kernel
theorem dX6_scan_68 : decode cX6_scan 68 = .ok (.invokevirtual 52, 3) := by decide +kernel
theorem dX6_scan_71 : decode cX6_scan 71 = .ok (.iinc 3 1, 3) := by decide +kernel
theorem dX6_scan_74 : decode cX6_scan 74 = .ok (.goto (-67), 3) := by decide +kernel
theorem dX6_scan_77 : decode cX6_scan 77 = .ok (.aload_n 0, 1) := by decide +kernel
theorem dX6_scan_78 : decode cX6_scan 78 = .ok (.getfield 24, 3) := by decide +kernel
theorem dX6_scan_81 : decode cX6_scan 81 = .ok (.ifCond .ne 27, 3) := by decide +kernel
theorem dX6_scan_84 : decode cX6_scan 84 = .ok (.aload_n 0, 1) := by decide +kernel
theorem dX6_scan_85 : decode cX6_scan 85 = .ok (.getfield 56, 3) := by decide +kernel
theorem dX6_scan_88 : decode cX6_scan 88 = .ok (.ifCond .ne 10, 3) := by decide +kernel
theorem dX6_scan_91 : decode cX6_scan 91 = .ok (.aload_n 2, 1) := by decide +kernel
theorem dX6_scan_92 : decode cX6_scan 92 = .ok (.getfield 59, 3) := by decide +kernel
theorem dX6_scan_95 : decode cX6_scan 95 = .ok (.ifCond .ne 13, 3) := by decide +kernel
theorem dX6_scan_98 : decode cX6_scan 98 = .ok (.aload_n 0, 1) := by decide +kernel
theorem dX6_scan_99 : decode cX6_scan 99 = .ok (.bipush 6, 2) := by decide +kernel
theorem dX6_scan_101 : decode cX6_scan 101 = .ok (.aload_n 1, 1) := by decide +kernel
theorem dX6_scan_102 : decode cX6_scan 102 = .ok (.getfield 19, 3) := by decide +kernel
theorem dX6_scan_105 : decode cX6_scan 105 = .ok (.invokevirtual 62, 3) := by decide +kernel
theorem dX6_scan_108 : decode cX6_scan 108 = .ok (.return_, 1) := by decide +kernel
theorem dX6_clear_0 : decode cX6_clear 0 = .ok (.aload_n 0, 1) := by decide +kernel
theorem dX6_clear_1 : decode cX6_clear 1 = .ok (.iconst 0, 1) := by decide +kernel
theorem dX6_clear_2 : decode cX6_clear 2 = .ok (.putfield 24, 3) := by decide +kernel
theorem dX6_clear_5 : decode cX6_clear 5 = .ok (.aload_n 0, 1) := by decide +kernel
theorem dX6_clear_6 : decode cX6_clear 6 = .ok (.iconst (-1), 1) := by decide +kernel
theorem dX6_clear_7 : decode cX6_clear 7 = .ok (.putfield 9, 3) := by decide +kernel
theorem dX6_clear_10 : decode cX6_clear 10 = .ok (.aload_n 0, 1) := by decide +kernel
theorem dX6_clear_11 : decode cX6_clear 11 = .ok (.iconst 0, 1) := by decide +kernel
theorem dX6_clear_12 : decode cX6_clear 12 = .ok (.putfield 48, 3) := by decide +kernel
theorem dX6_clear_15 : decode cX6_clear 15 = .ok (.aload_n 0, 1) := by decide +kernel
theorem dX6_clear_16 : decode cX6_clear 16 = .ok (.iconst 0, 1) := by decide +kernel
theorem dX6_clear_17 : decode cX6_clear 17 = .ok (.putfield 56, 3) := by decide +kernel
theorem dX6_clear_20 : decode cX6_clear 20 = .ok (.aload_n 0, 1) := by decide +kernel
theorem dX6_clear_21 : decode cX6_clear 21 = .ok (.iconst 0, 1) := by decide +kernel
theorem dX6_clear_22 : decode cX6_clear 22 = .ok (.putfield 66, 3) := by decide +kernel
theorem dX6_clear_25 : decode cX6_clear 25 = .ok (.aload_n 0, 1) := by decide +kernel
theorem dX6_clear_26 : decode cX6_clear 26 = .ok (.iconst 0, 1) := by decide +kernel
theorem dX6_clear_27 : decode cX6_clear 27 = .ok (.putfield 69, 3) := by decide +kernel
theorem dX6_clear_30 : decode cX6_clear 30 = .ok (.aload_n 0, 1) := by decide +kernel
theorem dX6_clear_31 : decode cX6_clear 31 = .ok (.iconst 0, 1) := by decide +kernel
theorem dX6_clear_32 : decode cX6_clear 32 = .ok (.putfield 72, 3) := by decide +kernel
theorem dX6_clear_35 : decode cX6_clear 35 = .ok (.aload_n 1, 1) := by decide +kernel
theorem dX6_clear_36 : decode cX6_clear 36 = .ok (.iconst 0, 1) := by decide +kernel
theorem dX6_clear_37 : decode cX6_clear 37 = .ok (.putfield 75, 3) := by decide +kernel
theorem dX6_clear_40 : decode cX6_clear 40 = .ok (.aload_n 1, 1) := by decide +kernel
theorem dX6_clear_41 : decode cX6_clear 41 = .ok (.iconst 0, 1) := by decide +kernel
theorem dX6_clear_42 : decode cX6_clear 42 = .ok (.putfield 59, 3) := by decide +kernel
theorem dX6_clear_45 : decode cX6_clear 45 = .ok (.return_, 1) := by decide +kernel
theorem dX6_note_0 : decode cX6_note 0 = .ok (.aload_n 0, 1) := by decide +kernel
theorem dX6_note_1 : decode cX6_note 1 = .ok (.iload_n 1, 1) := by decide +kernel
theorem dX6_note_2 : decode cX6_note 2 = .ok (.putfield 24, 3) := by decide +kernel
theorem dX6_note_5 : decode cX6_note 5 = .ok (.aload_n 0, 1) := by decide +kernel
theorem dX6_note_6 : decode cX6_note 6 = .ok (.iload_n 2, 1) := by decide +kernel
theorem dX6_note_7 : decode cX6_note 7 = .ok (.putfield 9, 3) := by decide +kernel
theorem dX6_note_10 : decode cX6_note 10 = .ok (.return_, 1) := by decide +kernel
theorem dX6_takeLetter_0 : decode cX6_takeLetter 0 = .ok (.aload_n 0, 1) := by decide +kernel
theorem dX6_takeLetter_1 : decode cX6_takeLetter 1 = .ok (.getfield 48, 3) := by decide +kernel
theorem dX6_takeLetter_4 : decode cX6_takeLetter 4 = .ok (.ifCond .ne 12, 3) := by decide +kernel
theorem dX6_takeLetter_7 : decode cX6_takeLetter 7 = .ok (.aload_n 0, 1) := by decide +kernel
theorem dX6_takeLetter_8 : decode cX6_takeLetter 8 = .ok (.aload_n 1, 1) := by decide +kernel
theorem dX6_takeLetter_9 : decode cX6_takeLetter 9 = .ok (.iload_n 2, 1) := by decide +kernel
theorem dX6_takeLetter_10 : decode cX6_takeLetter 10 = .ok (.invokevirtual 78, 3) := by decide +kernel
theorem dX6_takeLetter_13 : decode cX6_takeLetter 13 = .ok (.goto 43, 3) := by decide +kernel
theorem dX6_takeLetter_16 : decode cX6_takeLetter 16 = .ok (.aload_n 1, 1) := by decide +kernel
theorem dX6_takeLetter_17 : decode cX6_takeLetter 17 = .ok (.getfield 81, 3) := by decide +kernel
theorem dX6_takeLetter_20 : decode cX6_takeLetter 20 = .ok (.aload_n 1, 1) := by decide +kernel
theorem dX6_takeLetter_21 : decode cX6_takeLetter 21 = .ok (.getfield 75, 3) := by decide +kernel
theorem dX6_takeLetter_24 : decode cX6_takeLetter 24 = .ok (.iconst 1, 1) := by decide +kernel
theorem dX6_takeLetter_25 : decode cX6_takeLetter 25 = .ok (.isub, 1) := by decide +kernel
theorem dX6_takeLetter_26 : decode cX6_takeLetter 26 = .ok (.iaload, 1) := by decide +kernel
theorem dX6_takeLetter_27 : decode cX6_takeLetter 27 = .ok (.bipush 16, 2) := by decide +kernel
theorem dX6_takeLetter_29 : decode cX6_takeLetter 29 = .ok (.if_icmp .lt 12, 3) := by decide +kernel
theorem dX6_takeLetter_32 : decode cX6_takeLetter 32 = .ok (.aload_n 0, 1) := by decide +kernel
theorem dX6_takeLetter_33 : decode cX6_takeLetter 33 = .ok (.iconst 2, 1) := by decide +kernel
theorem dX6_takeLetter_34 : decode cX6_takeLetter 34 = .ok (.iload_n 2, 1) := by decide +kernel
theorem dX6_takeLetter_35 : decode cX6_takeLetter 35 = .ok (.invokevirtual 62, 3) := by decide +kernel
theorem dX6_takeLetter_38 : decode cX6_takeLetter 38 = .ok (.goto 18, 3) := by decide +kernel
theorem dX6_takeLetter_41 : decode cX6_takeLetter 41 = .ok (.aload_n 1, 1) := by decide +kernel
theorem dX6_takeLetter_42 : decode cX6_takeLetter 42 = .ok (.getfield 81, 3) := by decide +kernel
theorem dX6_takeLetter_45 : decode cX6_takeLetter 45 = .ok (.aload_n 1, 1) := by decide +kernel
theorem dX6_takeLetter_46 : decode cX6_takeLetter 46 = .ok (.getfield 75, 3) := by decide +kernel
theorem dX6_takeLetter_49 : decode cX6_takeLetter 49 = .ok (.iconst 1, 1) := by decide +kernel
theorem dX6_takeLetter_50 : decode cX6_takeLetter 50 = .ok (.isub, 1) := by decide +kernel
theorem dX6_takeLetter_51 : decode cX6_takeLetter 51 = .ok (.dup2, 1) := by decide +kernel
theorem dX6_takeLetter_52 : decode cX6_takeLetter 52 = .ok (.iaload, 1) := by decide +kernel
theorem dX6_takeLetter_53 : decode cX6_takeLetter 53 = .ok (.iconst 1, 1) := by decide +kernel
theorem dX6_takeLetter_54 : decode cX6_takeLetter 54 = .ok (.iadd, 1) := by decide +kernel
theorem dX6_takeLetter_55 : decode cX6_takeLetter 55 = .ok (.iastore, 1) := by decide +kernel
theorem dX6_takeLetter_56 : decode cX6_takeLetter 56 = .ok (.return_, 1) := by decide +kernel
theorem dX6_startWord_0 : decode cX6_startWord 0 = .ok (.aload_n 0, 1) := by decide +kernel
theorem dX6_startWord_1 : decode cX6_startWord 1 = .ok (.getfield 56, 3) := by decide +kernel
theorem dX6_startWord_4 : decode cX6_startWord 4 = .ok (.ifCond .ne 12, 3) := by decide +kernel
theorem dX6_startWord_7 : decode cX6_startWord 7 = .ok (.aload_n 0, 1) := by decide +kernel
theorem dX6_startWord_8 : decode cX6_startWord 8 = .ok (.aload_n 1, 1) := by decide +kernel
theorem dX6_startWord_9 : decode cX6_startWord 9 = .ok (.iload_n 2, 1) := by decide +kernel
theorem dX6_startWord_10 : decode cX6_startWord 10 = .ok (.invokevirtual 84, 3) := by decide +kernel
theorem dX6_startWord_13 : decode cX6_startWord 13 = .ok (.goto 25, 3) := by decide +kernel
theorem dX6_startWord_16 : decode cX6_startWord 16 = .ok (.aload_n 1, 1) := by decide +kernel
theorem dX6_startWord_17 : decode cX6_startWord 17 = .ok (.getfield 87, 3) := by decide +kernel
theorem dX6_startWord_20 : decode cX6_startWord 20 = .ok (.aload_n 1, 1) := by decide +kernel
theorem dX6_startWord_21 : decode cX6_startWord 21 = .ok (.getfield 59, 3) := by decide +kernel
theorem dX6_startWord_24 : decode cX6_startWord 24 = .ok (.iconst 1, 1) := by decide +kernel
theorem dX6_startWord_25 : decode cX6_startWord 25 = .ok (.isub, 1) := by decide +kernel
theorem dX6_startWord_26 : decode cX6_startWord 26 = .ok (.iaload, 1) := by decide +kernel
theorem dX6_startWord_27 : decode cX6_startWord 27 = .ok (.bipush 40, 2) := by decide +kernel
theorem dX6_startWord_29 : decode cX6_startWord 29 = .ok (.if_icmp .lt 9, 3) := by decide +kernel
theorem dX6_startWord_32 : decode cX6_startWord 32 = .ok (.aload_n 0, 1) := by decide +kernel
theorem dX6_startWord_33 : decode cX6_startWord 33 = .ok (.iconst 3, 1) := by decide +kernel
theorem dX6_startWord_34 : decode cX6_startWord 34 = .ok (.iload_n 2, 1) := by decide +kernel
theorem dX6_startWord_35 : decode cX6_startWord 35 = .ok (.invokevirtual 62, 3) := by decide +kernel
theorem dX6_startWord_38 : decode cX6_startWord 38 = .ok (.aload_n 0, 1) := by decide +kernel
theorem dX6_startWord_39 : decode cX6_startWord 39 = .ok (.getfield 24, 3) := by decide +kernel
theorem dX6_startWord_42 : decode cX6_startWord 42 = .ok (.ifCond .ne 53, 3) := by decide +kernel
theorem dX6_startWord_45 : decode cX6_startWord 45 = .ok (.aload_n 0, 1) := by decide +kernel
theorem dX6_startWord_46 : decode cX6_startWord 46 = .ok (.iconst 1, 1) := by decide +kernel
theorem dX6_startWord_47 : decode cX6_startWord 47 = .ok (.putfield 48, 3) := by decide +kernel
theorem dX6_startWord_50 : decode cX6_startWord 50 = .ok (.aload_n 1, 1) := by decide +kernel
theorem dX6_startWord_51 : decode cX6_startWord 51 = .ok (.getfield 90, 3) := by decide +kernel
theorem dX6_startWord_54 : decode cX6_startWord 54 = .ok (.aload_n 1, 1) := by decide +kernel
theorem dX6_startWord_55 : decode cX6_startWord 55 = .ok (.getfield 75, 3) := by decide +kernel
theorem dX6_startWord_58 : decode cX6_startWord 58 = .ok (.iload_n 2, 1) := by decide +kernel
theorem dX6_startWord_59 : decode cX6_startWord 59 = .ok (.iastore, 1) := by decide +kernel
theorem dX6_startWord_60 : decode cX6_startWord 60 = .ok (.aload_n 1, 1) := by decide +kernel
theorem dX6_startWord_61 : decode cX6_startWord 61 = .ok (.getfield 81, 3) := by decide +kernel
theorem dX6_startWord_64 : decode cX6_startWord 64 = .ok (.aload_n 1, 1) := by decide +kernel
theorem dX6_startWord_65 : decode cX6_startWord 65 = .ok (.getfield 75, 3) := by decide +kernel
theorem dX6_startWord_68 : decode cX6_startWord 68 = .ok (.iconst 1, 1) := by decide +kernel
theorem dX6_startWord_69 : decode cX6_startWord 69 = .ok (.iastore, 1) := by decide +kernel
theorem dX6_startWord_70 : decode cX6_startWord 70 = .ok (.aload_n 1, 1) := by decide +kernel
theorem dX6_startWord_71 : decode cX6_startWord 71 = .ok (.dup, 1) := by decide +kernel
theorem dX6_startWord_72 : decode cX6_startWord 72 = .ok (.getfield 75, 3) := by decide +kernel
