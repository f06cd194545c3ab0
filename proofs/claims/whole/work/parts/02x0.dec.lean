theorem dX10_init_0 : decode cX10_init 0 = .ok (.aload_n 0, 1) := by decide +kernel
theorem dX10_init_1 : decode cX10_init 1 = .ok (.invokespecial 3, 3) := by decide +kernel
theorem dX10_init_4 : decode cX10_init 4 = .ok (.aload_n 0, 1) := by decide +kernel
theorem dX10_init_5 : decode cX10_init 5 = .ok (.new 9, 3) := by decide +kernel
theorem dX10_init_8 : decode cX10_init 8 = .ok (.dup, 1) := by decide +kernel
theorem dX10_init_9 : decode cX10_init 9 = .ok (.invokespecial 11, 3) := by decide +kernel
theorem dX10_init_12 : decode cX10_init 12 = .ok (.putfield 12, 3) := by decide +kernel
theorem dX10_init_15 : decode cX10_init 15 = .ok (.aload_n 0, 1) := by decide +kernel
theorem dX10_init_16 : decode cX10_init 16 = .ok (.new 16, 3) := by decide +kernel
theorem dX10_init_19 : decode cX10_init 19 = .ok (.dup, 1) := by decide +kernel
theorem dX10_init_20 : decode cX10_init 20 = .ok (.bipush 60, 2) := by decide +kernel
theorem dX10_init_22 : decode cX10_init 22 = .ok (.bipush 16, 2) := by decide +kernel
theorem dX10_init_24 : decode cX10_init 24 = .ok (.invokespecial 18, 3) := by decide +kernel
theorem dX10_init_27 : decode cX10_init 27 = .ok (.putfield 21, 3) := by decide +kernel
theorem dX10_init_30 : decode cX10_init 30 = .ok (.aload_n 0, 1) := by decide +kernel
theorem dX10_init_31 : decode cX10_init 31 = .ok (.new 16, 3) := by decide +kernel
theorem dX10_init_34 : decode cX10_init 34 = .ok (.dup, 1) := by decide +kernel
theorem dX10_init_35 : decode cX10_init 35 = .ok (.bipush 30, 2) := by decide +kernel
theorem dX10_init_37 : decode cX10_init 37 = .ok (.bipush 16, 2) := by decide +kernel
theorem dX10_init_39 : decode cX10_init 39 = .ok (.invokespecial 18, 3) := by decide +kernel
theorem dX10_init_42 : decode cX10_init 42 = .ok (.putfield 25, 3) := by decide +kernel
theorem dX10_init_45 : decode cX10_init 45 = .ok (.aload_n 0, 1) := by decide +kernel
theorem dX10_init_46 : decode cX10_init 46 = .ok (.new 16, 3) := by decide +kernel
theorem dX10_init_49 : decode cX10_init 49 = .ok (.dup, 1) := by decide +kernel
theorem dX10_init_50 : decode cX10_init 50 = .ok (.bipush 10, 2) := by decide +kernel
theorem dX10_init_52 : decode cX10_init 52 = .ok (.bipush 6, 2) := by decide +kernel
theorem dX10_init_54 : decode cX10_init 54 = .ok (.invokespecial 18, 3) := by decide +kernel
theorem dX10_init_57 : decode cX10_init 57 = .ok (.putfield 28, 3) := by decide +kernel
theorem dX10_init_60 : decode cX10_init 60 = .ok (.aload_n 0, 1) := by decide +kernel
theorem dX10_init_61 : decode cX10_init 61 = .ok (.iconst 4, 1) := by decide +kernel
theorem dX10_init_62 : decode cX10_init 62 = .ok (.newarray .int, 2) := by decide +kernel
theorem dX10_init_64 : decode cX10_init 64 = .ok (.putfield 31, 3) := by decide +kernel
theorem dX10_init_67 : decode cX10_init 67 = .ok (.aload_n 0, 1) := by decide +kernel
theorem dX10_init_68 : decode cX10_init 68 = .ok (.getfield 31, 3) := by decide +kernel
theorem dX10_init_71 : decode cX10_init 71 = .ok (.iconst 0, 1) := by decide +kernel
theorem dX10_init_72 : decode cX10_init 72 = .ok (.iconst 2, 1) := by decide +kernel
theorem dX10_init_73 : decode cX10_init 73 = .ok (.iastore, 1) := by decide +kernel
theorem dX10_init_74 : decode cX10_init 74 = .ok (.aload_n 0, 1) := by decide +kernel
theorem dX10_init_75 : decode cX10_init 75 = .ok (.getfield 31, 3) := by decide +kernel
theorem dX10_init_78 : decode cX10_init 78 = .ok (.iconst 1, 1) := by decide +kernel
theorem dX10_init_79 : decode cX10_init 79 = .ok (.iconst 3, 1) := by decide +kernel
theorem dX10_init_80 : decode cX10_init 80 = .ok (.iastore, 1) := by decide +kernel
theorem dX10_init_81 : decode cX10_init 81 = .ok (.aload_n 0, 1) := by decide +kernel
theorem dX10_init_82 : decode cX10_init 82 = .ok (.getfield 31, 3) := by decide +kernel
theorem dX10_init_85 : decode cX10_init 85 = .ok (.iconst 2, 1) := by decide +kernel
theorem dX10_init_86 : decode cX10_init 86 = .ok (.bipush 10, 2) := by decide +kernel
theorem dX10_init_88 : decode cX10_init 88 = .ok (.iastore, 1) := by decide +kernel
theorem dX10_init_89 : decode cX10_init 89 = .ok (.aload_n 0, 1) := by decide +kernel
theorem dX10_init_90 : decode cX10_init 90 = .ok (.getfield 31, 3) := by decide +kernel
theorem dX10_init_93 : decode cX10_init 93 = .ok (.iconst 3, 1) := by decide +kernel
theorem dX10_init_94 : decode cX10_init 94 = .ok (.iconst 5, 1) := by decide +kernel
theorem dX10_init_95 : decode cX10_init 95 = .ok (.iastore, 1) := by decide +kernel
theorem dX10_init_96 : decode cX10_init 96 = .ok (.aload_n 0, 1) := by decide +kernel
theorem dX10_init_97 : decode cX10_init 97 = .ok (.new 35, 3) := by decide +kernel
theorem dX10_init_100 : decode cX10_init 100 = .ok (.dup, 1) := by decide +kernel
theorem dX10_init_101 : decode cX10_init 101 = .ok (.invokespecial 37, 3) := by decide +kernel
theorem dX10_init_104 : decode cX10_init 104 = .ok (.putfield 38, 3) := by decide +kernel
theorem dX10_init_107 : decode cX10_init 107 = .ok (.aload_n 0, 1) := by decide +kernel
theorem dX10_init_108 : decode cX10_init 108 = .ok (.new 42, 3) := by decide +kernel
theorem dX10_init_111 : decode cX10_init 111 = .ok (.dup, 1) := by decide +kernel
theorem dX10_init_112 : decode cX10_init 112 = .ok (.invokespecial 44, 3) := by decide +kernel
theorem dX10_init_115 : decode cX10_init 115 = .ok (.putfield 45, 3) := by decide +kernel
theorem dX10_init_118 : decode cX10_init 118 = .ok (.aload_n 0, 1) := by decide +kernel
theorem dX10_init_119 : decode cX10_init 119 = .ok (.new 42, 3) := by decide +kernel
theorem dX10_init_122 : decode cX10_init 122 = .ok (.dup, 1) := by decide +kernel
theorem dX10_init_123 : decode cX10_init 123 = .ok (.invokespecial 44, 3) := by decide +kernel
theorem dX10_init_126 : decode cX10_init 126 = .ok (.putfield 49, 3) := by decide +kernel
theorem dX10_init_129 : decode cX10_init 129 = .ok (.aload_n 0, 1) := by decide +kernel
theorem dX10_init_130 : decode cX10_init 130 = .ok (.new 52, 3) := by decide +kernel
theorem dX10_init_133 : decode cX10_init 133 = .ok (.dup, 1) := by decide +kernel
theorem dX10_init_134 : decode cX10_init 134 = .ok (.invokespecial 54, 3) := by decide +kernel
theorem dX10_init_137 : decode cX10_init 137 = .ok (.putfield 55, 3) := by decide +kernel
theorem dX10_init_140 : decode cX10_init 140 = .ok (.aload_n 0, 1) := by decide +kernel
theorem dX10_init_141 : decode cX10_init 141 = .ok (.new 59, 3) := by decide +kernel
theorem dX10_init_144 : decode cX10_init 144 = .ok (.dup, 1) := by decide +kernel
theorem dX10_init_145 : decode cX10_init 145 = .ok (.invokespecial 61, 3) := by decide +kernel
theorem dX10_init_148 : decode cX10_init 148 = .ok (.putfield 62, 3) := by decide +kernel
theorem dX10_init_151 : decode cX10_init 151 = .ok (.aload_n 0, 1) := by decide +kernel
theorem dX10_init_152 : decode cX10_init 152 = .ok (.new 66, 3) := by decide +kernel
theorem dX10_init_155 : decode cX10_init 155 = .ok (.dup, 1) := by decide +kernel
theorem dX10_init_156 : decode cX10_init 156 = .ok (.invokespecial 68, 3) := by decide +kernel
theorem dX10_init_159 : decode cX10_init 159 = .ok (.putfield 69, 3) := by decide +kernel
theorem dX10_init_162 : decode cX10_init 162 = .ok (.aload_n 0, 1) := by decide +kernel
theorem dX10_init_163 : decode cX10_init 163 = .ok (.new 73, 3) := by decide +kernel
theorem dX10_init_166 : decode cX10_init 166 = .ok (.dup, 1) := by decide +kernel
theorem dX10_init_167 : decode cX10_init 167 = .ok (.invokespecial 75, 3) := by decide +kernel
theorem dX10_init_170 : decode cX10_init 170 = .ok (.putfield 76, 3) := by decide +kernel
theorem dX10_init_173 : decode cX10_init 173 = .ok (.aload_n 0, 1) := by decide +kernel
theorem dX10_init_174 : decode cX10_init 174 = .ok (.new 80, 3) := by decide +kernel
theorem dX10_init_177 : decode cX10_init 177 = .ok (.dup, 1) := by decide +kernel
theorem dX10_init_178 : decode cX10_init 178 = .ok (.invokespecial 82, 3) := by decide +kernel
theorem dX10_init_181 : decode cX10_init 181 = .ok (.putfield 83, 3) := by decide +kernel
theorem dX10_init_184 : decode cX10_init 184 = .ok (.aload_n 0, 1) := by decide +kernel
theorem dX10_init_185 : decode cX10_init 185 = .ok (.new 87, 3) := by decide +kernel
theorem dX10_init_188 : decode cX10_init 188 = .ok (.dup, 1) := by decide +kernel
theorem dX10_init_189 : decode cX10_init 189 = .ok (.invokespecial 89, 3) := by decide +kernel
theorem dX10_init_192 : decode cX10_init 192 = .ok (.putfield 90, 3) := by decide +kernel
theorem dX10_init_195 : decode cX10_init 195 = .ok (.return_, 1) := by decide +kernel
theorem dX10_feed_0 : decode cX10_feed 0 = .ok (.aload_n 0, 1) := by decide +kernel
theorem dX10_feed_1 : decode cX10_feed 1 = .ok (.getfield 12, 3) := by decide +kernel
theorem dX10_feed_4 : decode cX10_feed 4 = .ok (.getfield 94, 3) := by decide +kernel
theorem dX10_feed_7 : decode cX10_feed 7 = .ok (.bipush 20, 2) := by decide +kernel
theorem dX10_feed_9 : decode cX10_feed 9 = .ok (.iadd, 1) := by decide +kernel
theorem dX10_feed_10 : decode cX10_feed 10 = .ok (.sipush 3000, 3) := by decide +kernel
theorem dX10_feed_13 : decode cX10_feed 13 = .ok (.if_icmp .le 6, 3) := by decide +kernel
theorem dX10_feed_16 : decode cX10_feed 16 = .ok (.bipush (-3), 2) := by decide +kernel
theorem dX10_feed_18 : decode cX10_feed 18 = .ok (.ireturn, 1) := by decide +kernel
theorem dX10_feed_19 : decode cX10_feed 19 = .ok (.aload_n 0, 1) := by decide +kernel
theorem dX10_feed_20 : decode cX10_feed 20 = .ok (.getfield 12, 3) := by decide +kernel
theorem dX10_feed_23 : decode cX10_feed 23 = .ok (.iload_n 1, 1) := by decide +kernel
theorem dX10_feed_24 : decode cX10_feed 24 = .ok (.invokevirtual 98, 3) := by decide +kernel
theorem dX10_feed_27 : decode cX10_feed 27 = .ok (.aload_n 0, 1) := by decide +kernel
theorem dX10_feed_28 : decode cX10_feed 28 = .ok (.getfield 12, 3) := by decide +kernel
theorem dX10_feed_31 : decode cX10_feed 31 = .ok (.iload_n 2, 1) := by decide +kernel
theorem dX10_feed_32 : decode cX10_feed 32 = .ok (.invokevirtual 98, 3) := by decide +kernel
theorem dX10_feed_35 : decode cX10_feed 35 = .ok (.aload_n 0, 1) := by decide +kernel
theorem dX10_feed_36 : decode cX10_feed 36 = .ok (.getfield 12, 3) := by decide +kernel
theorem dX10_feed_39 : decode cX10_feed 39 = .ok (.iload_n 3, 1) := by decide +kernel
theorem dX10_feed_40 : decode cX10_feed 40 = .ok (.invokevirtual 98, 3) := by decide +kernel
theorem dX10_feed_43 : decode cX10_feed 43 = .ok (.aload_n 0, 1) := by decide +kernel
theorem dX10_feed_44 : decode cX10_feed 44 = .ok (.getfield 12, 3) := by decide +kernel
theorem dX10_feed_47 : decode cX10_feed 47 = .ok (.iload 4, 2) := by decide +kernel
theorem dX10_feed_49 : decode cX10_feed 49 = .ok (.invokevirtual 98, 3) := by decide +kernel
theorem dX10_feed_52 : decode cX10_feed 52 = .ok (.aload_n 0, 1) := by decide +kernel
theorem dX10_feed_53 : decode cX10_feed 53 = .ok (.getfield 12, 3) := by decide +kernel
theorem dX10_feed_56 : decode cX10_feed 56 = .ok (.iload 5, 2) := by decide +kernel
theorem dX10_feed_58 : decode cX10_feed 58 = .ok (.invokevirtual 98, 3) := by decide +kernel
theorem dX10_feed_61 : decode cX10_feed 61 = .ok (.aload_n 0, 1) := by decide +kernel
theorem dX10_feed_62 : decode cX10_feed 62 = .ok (.getfield 12, 3) := by decide +kernel
theorem dX10_feed_65 : decode cX10_feed 65 = .ok (.getfield 94, 3) := by decide +kernel
theorem dX10_feed_68 : decode cX10_feed 68 = .ok (.ireturn, 1) := by decide +kernel
theorem dX10_end_0 : decode cX10_end 0 = .ok (.iload_n 1, 1) := by decide +kernel
theorem dX10_end_1 : decode cX10_end 1 = .ok (.ifCond .lt 14, 3) := by decide +kernel
theorem dX10_end_4 : decode cX10_end 4 = .ok (.iload_n 1, 1) := by decide +kernel
theorem dX10_end_5 : decode cX10_end 5 = .ok (.aload_n 0, 1) := by decide +kernel
theorem dX10_end_6 : decode cX10_end 6 = .ok (.getfield 12, 3) := by decide +kernel
theorem dX10_end_9 : decode cX10_end 9 = .ok (.getfield 94, 3) := by decide +kernel
theorem dX10_end_12 : decode cX10_end 12 = .ok (.if_icmp .le 5, 3) := by decide +kernel
theorem dX10_end_15 : decode cX10_end 15 = .ok (.iconst (-1), 1) := by decide +kernel
theorem dX10_end_16 : decode cX10_end 16 = .ok (.ireturn, 1) := by decide +kernel
theorem dX10_end_17 : decode cX10_end 17 = .ok (.aload_n 0, 1) := by decide +kernel
theorem dX10_end_18 : decode cX10_end 18 = .ok (.getfield 12, 3) := by decide +kernel
theorem dX10_end_21 : decode cX10_end 21 = .ok (.iload_n 1, 1) := by decide +kernel
theorem dX10_end_22 : decode cX10_end 22 = .ok (.putfield 94, 3) := by decide +kernel
theorem dX10_end_25 : decode cX10_end 25 = .ok (.iload_n 1, 1) := by decide +kernel
theorem dX10_end_26 : decode cX10_end 26 = .ok (.ireturn, 1) := by decide +kernel
theorem dX10_stop_0 : decode cX10_stop 0 = .ok (.aload_n 0, 1) := by decide +kernel
theorem dX10_stop_1 : decode cX10_stop 1 = .ok (.aload_n 0, 1) := by decide +kernel
theorem dX10_stop_2 : decode cX10_stop 2 = .ok (.getfield 21, 3) := by decide +kernel
theorem dX10_stop_5 : decode cX10_stop 5 = .ok (.invokevirtual 102, 3) := by decide +kernel
theorem dX10_stop_8 : decode cX10_stop 8 = .ok (.ireturn, 1) := by decide +kernel
theorem dX10_sign_0 : decode cX10_sign 0 = .ok (.aload_n 0, 1) := by decide +kernel
theorem dX10_sign_1 : decode cX10_sign 1 = .ok (.getfield 12, 3) := by decide +kernel
theorem dX10_sign_4 : decode cX10_sign 4 = .ok (.bipush 16, 2) := by decide +kernel
theorem dX10_sign_6 : decode cX10_sign 6 = .ok (.invokevirtual 106, 3) := by decide +kernel
theorem dX10_sign_9 : decode cX10_sign 9 = .ok (.istore_n 2, 1) := by decide +kernel
theorem dX10_sign_10 : decode cX10_sign 10 = .ok (.iload_n 2, 1) := by decide +kernel
theorem dX10_sign_11 : decode cX10_sign 11 = .ok (.ifCond .eq 12, 3) := by decide +kernel
theorem dX10_sign_14 : decode cX10_sign 14 = .ok (.iload_n 1, 1) := by decide +kernel
theorem dX10_sign_15 : decode cX10_sign 15 = .ok (.ifCond .lt 8, 3) := by decide +kernel
theorem dX10_sign_18 : decode cX10_sign 18 = .ok (.iload_n 1, 1) := by decide +kernel
theorem dX10_sign_19 : decode cX10_sign 19 = .ok (.iconst 4, 1) := by decide +kernel
theorem dX10_sign_20 : decode cX10_sign 20 = .ok (.if_icmp .le 6, 3) := by decide +kernel
theorem dX10_sign_23 : decode cX10_sign 23 = .ok (.bipush (-2), 2) := by decide +kernel
theorem dX10_sign_25 : decode cX10_sign 25 = .ok (.ireturn, 1) := by decide +kernel
theorem dX10_sign_26 : decode cX10_sign 26 = .ok (.aload_n 0, 1) := by decide +kernel
theorem dX10_sign_27 : decode cX10_sign 27 = .ok (.getfield 25, 3) := by decide +kernel
theorem dX10_sign_30 : decode cX10_sign 30 = .ok (.aload_n 0, 1) := by decide +kernel
theorem dX10_sign_31 : decode cX10_sign 31 = .ok (.getfield 12, 3) := by decide +kernel
theorem dX10_sign_34 : decode cX10_sign 34 = .ok (.getfield 110, 3) := by decide +kernel
theorem dX10_sign_37 : decode cX10_sign 37 = .ok (.iconst 0, 1) := by decide +kernel
theorem dX10_sign_38 : decode cX10_sign 38 = .ok (.iload_n 2, 1) := by decide +kernel
theorem dX10_sign_39 : decode cX10_sign 39 = .ok (.invokevirtual 113, 3) := by decide +kernel
theorem dX10_sign_42 : decode cX10_sign 42 = .ok (.istore_n 3, 1) := by decide +kernel
theorem dX10_sign_43 : decode cX10_sign 43 = .ok (.iload_n 1, 1) := by decide +kernel
theorem dX10_sign_44 : decode cX10_sign 44 = .ok (.ifCond .ne 14, 3) := by decide +kernel
theorem dX10_sign_47 : decode cX10_sign 47 = .ok (.aload_n 0, 1) := by decide +kernel
theorem dX10_sign_48 : decode cX10_sign 48 = .ok (.getfield 25, 3) := by decide +kernel
theorem dX10_sign_51 : decode cX10_sign 51 = .ok (.iload_n 3, 1) := by decide +kernel
theorem dX10_sign_52 : decode cX10_sign 52 = .ok (.invokevirtual 117, 3) := by decide +kernel
theorem dX10_sign_55 : decode cX10_sign 55 = .ok (.goto 49, 3) := by decide +kernel
theorem dX10_sign_58 : decode cX10_sign 58 = .ok (.iload_n 3, 1) := by decide +kernel
theorem dX10_sign_59 : decode cX10_sign 59 = .ok (.ifCond .lt 16, 3) := by decide +kernel
theorem dX10_sign_62 : decode cX10_sign 62 = .ok (.aload_n 0, 1) := by decide +kernel
theorem dX10_sign_63 : decode cX10_sign 63 = .ok (.getfield 25, 3) := by decide +kernel
theorem dX10_sign_66 : decode cX10_sign 66 = .ok (.getfield 120, 3) := by decide +kernel
theorem dX10_sign_69 : decode cX10_sign 69 = .ok (.iload_n 3, 1) := by decide +kernel
theorem dX10_sign_70 : decode cX10_sign 70 = .ok (.iload_n 1, 1) := by decide +kernel
theorem dX10_sign_71 : decode cX10_sign 71 = .ok (.iastore, 1) := by decide +kernel
theorem dX10_sign_72 : decode cX10_sign 72 = .ok (.goto 32, 3) := by decide +kernel
theorem dX10_sign_75 : decode cX10_sign 75 = .ok (.aload_n 0, 1) := by decide +kernel
theorem dX10_sign_76 : decode cX10_sign 76 = .ok (.getfield 25, 3) := by decide +kernel
theorem dX10_sign_79 : decode cX10_sign 79 = .ok (.invokevirtual 123, 3) := by decide +kernel
theorem dX10_sign_82 : decode cX10_sign 82 = .ok (.ifCond .eq 6, 3) := by decide +kernel
theorem dX10_sign_85 : decode cX10_sign 85 = .ok (.bipush (-3), 2) := by decide +kernel
theorem dX10_sign_87 : decode cX10_sign 87 = .ok (.ireturn, 1) := by decide +kernel
theorem dX10_sign_88 : decode cX10_sign 88 = .ok (.aload_n 0, 1) := by decide +kernel
theorem dX10_sign_89 : decode cX10_sign 89 = .ok (.getfield 25, 3) := by decide +kernel
theorem dX10_sign_92 : decode cX10_sign 92 = .ok (.aload_n 0, 1) := by decide +kernel
theorem dX10_sign_93 : decode cX10_sign 93 = .ok (.getfield 12, 3) := by decide +kernel
theorem dX10_sign_96 : decode cX10_sign 96 = .ok (.getfield 110, 3) := by decide +kernel
theorem dX10_sign_99 : decode cX10_sign 99 = .ok (.iload_n 2, 1) := by decide +kernel
theorem dX10_sign_100 : decode cX10_sign 100 = .ok (.iload_n 1, 1) := by decide +kernel
theorem dX10_sign_101 : decode cX10_sign 101 = .ok (.invokevirtual 127, 3) := by decide +kernel
theorem dX10_sign_104 : decode cX10_sign 104 = .ok (.aload_n 0, 1) := by decide +kernel
theorem dX10_sign_105 : decode cX10_sign 105 = .ok (.iconst 1, 1) := by decide +kernel
theorem dX10_sign_106 : decode cX10_sign 106 = .ok (.putfield 131, 3) := by decide +kernel
theorem dX10_sign_109 : decode cX10_sign 109 = .ok (.aload_n 0, 1) := by decide +kernel
theorem dX10_sign_110 : decode cX10_sign 110 = .ok (.getfield 25, 3) := by decide +kernel
theorem dX10_sign_113 : decode cX10_sign 113 = .ok (.getfield 135, 3) := by decide +kernel
theorem dX10_sign_116 : decode cX10_sign 116 = .ok (.ireturn, 1) := by decide +kernel
theorem dX10_ending_0 : decode cX10_ending 0 = .ok (.aload_n 0, 1) := by decide +kernel
theorem dX10_ending_1 : decode cX10_ending 1 = .ok (.aload_n 0, 1) := by decide +kernel
theorem dX10_ending_2 : decode cX10_ending 2 = .ok (.getfield 28, 3) := by decide +kernel
theorem dX10_ending_5 : decode cX10_ending 5 = .ok (.invokevirtual 102, 3) := by decide +kernel
theorem dX10_ending_8 : decode cX10_ending 8 = .ok (.ireturn, 1) := by decide +kernel
theorem dX10_weight_0 : decode cX10_weight 0 = .ok (.iload_n 1, 1) := by decide +kernel
theorem dX10_weight_1 : decode cX10_weight 1 = .ok (.ifCond .lt 18, 3) := by decide +kernel
theorem dX10_weight_4 : decode cX10_weight 4 = .ok (.iload_n 1, 1) := by decide +kernel
theorem dX10_weight_5 : decode cX10_weight 5 = .ok (.iconst 4, 1) := by decide +kernel
theorem dX10_weight_6 : decode cX10_weight 6 = .ok (.if_icmp .ge 13, 3) := by decide +kernel
theorem dX10_weight_9 : decode cX10_weight 9 = .ok (.iload_n 2, 1) := by decide +kernel
theorem dX10_weight_10 : decode cX10_weight 10 = .ok (.ifCond .lt 9, 3) := by decide +kernel
theorem dX10_weight_13 : decode cX10_weight 13 = .ok (.iload_n 2, 1) := by decide +kernel
theorem dX10_weight_14 : decode cX10_weight 14 = .ok (.bipush 50, 2) := by decide +kernel
theorem dX10_weight_16 : decode cX10_weight 16 = .ok (.if_icmp .le 6, 3) := by decide +kernel
theorem dX10_weight_19 : decode cX10_weight 19 = .ok (.bipush (-2), 2) := by decide +kernel
theorem dX10_weight_21 : decode cX10_weight 21 = .ok (.ireturn, 1) := by decide +kernel
theorem dX10_weight_22 : decode cX10_weight 22 = .ok (.aload_n 0, 1) := by decide +kernel
theorem dX10_weight_23 : decode cX10_weight 23 = .ok (.getfield 31, 3) := by decide +kernel
theorem dX10_weight_26 : decode cX10_weight 26 = .ok (.iload_n 1, 1) := by decide +kernel
theorem dX10_weight_27 : decode cX10_weight 27 = .ok (.iaload, 1) := by decide +kernel
theorem dX10_weight_28 : decode cX10_weight 28 = .ok (.istore_n 3, 1) := by decide +kernel
theorem dX10_weight_29 : decode cX10_weight 29 = .ok (.aload_n 0, 1) := by decide +kernel
theorem dX10_weight_30 : decode cX10_weight 30 = .ok (.getfield 31, 3) := by decide +kernel
theorem dX10_weight_33 : decode cX10_weight 33 = .ok (.iload_n 1, 1) := by decide +kernel
theorem dX10_weight_34 : decode cX10_weight 34 = .ok (.iload_n 2, 1) := by decide +kernel
theorem dX10_weight_35 : decode cX10_weight 35 = .ok (.iastore, 1) := by decide +kernel
theorem dX10_weight_36 : decode cX10_weight 36 = .ok (.aload_n 0, 1) := by decide +kernel
theorem dX10_weight_37 : decode cX10_weight 37 = .ok (.iconst 1, 1) := by decide +kernel
theorem dX10_weight_38 : decode cX10_weight 38 = .ok (.putfield 136, 3) := by decide +kernel
theorem dX10_weight_41 : decode cX10_weight 41 = .ok (.iload_n 3, 1) := by decide +kernel
theorem dX10_weight_42 : decode cX10_weight 42 = .ok (.ireturn, 1) := by decide +kernel
theorem dX10_toggle_0 : decode cX10_toggle 0 = .ok (.aload_n 0, 1) := by decide +kernel
theorem dX10_toggle_1 : decode cX10_toggle 1 = .ok (.getfield 12, 3) := by decide +kernel
theorem dX10_toggle_4 : decode cX10_toggle 4 = .ok (.aload_n 1, 1) := by decide +kernel
theorem dX10_toggle_5 : decode cX10_toggle 5 = .ok (.getfield 139, 3) := by decide +kernel
theorem dX10_toggle_8 : decode cX10_toggle 8 = .ok (.invokevirtual 106, 3) := by decide +kernel
theorem dX10_toggle_11 : decode cX10_toggle 11 = .ok (.istore_n 2, 1) := by decide +kernel
theorem dX10_toggle_12 : decode cX10_toggle 12 = .ok (.iload_n 2, 1) := by decide +kernel
theorem dX10_toggle_13 : decode cX10_toggle 13 = .ok (.ifCond .ne 6, 3) := by decide +kernel
theorem dX10_toggle_16 : decode cX10_toggle 16 = .ok (.bipush (-2), 2) := by decide +kernel
theorem dX10_toggle_18 : decode cX10_toggle 18 = .ok (.ireturn, 1) := by decide +kernel
theorem dX10_toggle_19 : decode cX10_toggle 19 = .ok (.aload_n 1, 1) := by decide +kernel
theorem dX10_toggle_20 : decode cX10_toggle 20 = .ok (.aload_n 0, 1) := by decide +kernel
theorem dX10_toggle_21 : decode cX10_toggle 21 = .ok (.getfield 12, 3) := by decide +kernel
theorem dX10_toggle_24 : decode cX10_toggle 24 = .ok (.getfield 110, 3) := by decide +kernel
theorem dX10_toggle_27 : decode cX10_toggle 27 = .ok (.iconst 0, 1) := by decide +kernel
theorem dX10_toggle_28 : decode cX10_toggle 28 = .ok (.iload_n 2, 1) := by decide +kernel
theorem dX10_toggle_29 : decode cX10_toggle 29 = .ok (.invokevirtual 113, 3) := by decide +kernel
theorem dX10_toggle_32 : decode cX10_toggle 32 = .ok (.istore_n 3, 1) := by decide +kernel
theorem dX10_toggle_33 : decode cX10_toggle 33 = .ok (.iload_n 3, 1) := by decide +kernel
theorem dX10_toggle_34 : decode cX10_toggle 34 = .ok (.ifCond .lt 11, 3) := by decide +kernel
theorem dX10_toggle_37 : decode cX10_toggle 37 = .ok (.aload_n 1, 1) := by decide +kernel
theorem dX10_toggle_38 : decode cX10_toggle 38 = .ok (.iload_n 3, 1) := by decide +kernel
theorem dX10_toggle_39 : decode cX10_toggle 39 = .ok (.invokevirtual 117, 3) := by decide +kernel
theorem dX10_toggle_42 : decode cX10_toggle 42 = .ok (.goto 26, 3) := by decide +kernel
theorem dX10_toggle_45 : decode cX10_toggle 45 = .ok (.aload_n 1, 1) := by decide +kernel
theorem dX10_toggle_46 : decode cX10_toggle 46 = .ok (.invokevirtual 123, 3) := by decide +kernel
theorem dX10_toggle_49 : decode cX10_toggle 49 = .ok (.ifCond .eq 6, 3) := by decide +kernel
theorem dX10_toggle_52 : decode cX10_toggle 52 = .ok (.bipush (-3), 2) := by decide +kernel
theorem dX10_toggle_54 : decode cX10_toggle 54 = .ok (.ireturn, 1) := by decide +kernel
theorem dX10_toggle_55 : decode cX10_toggle 55 = .ok (.aload_n 1, 1) := by decide +kernel
theorem dX10_toggle_56 : decode cX10_toggle 56 = .ok (.aload_n 0, 1) := by decide +kernel
theorem dX10_toggle_57 : decode cX10_toggle 57 = .ok (.getfield 12, 3) := by decide +kernel
theorem dX10_toggle_60 : decode cX10_toggle 60 = .ok (.getfield 110, 3) := by decide +kernel
theorem dX10_toggle_63 : decode cX10_toggle 63 = .ok (.iload_n 2, 1) := by decide +kernel
theorem dX10_toggle_64 : decode cX10_toggle 64 = .ok (.iconst 0, 1) := by decide +kernel
theorem dX10_toggle_65 : decode cX10_toggle 65 = .ok (.invokevirtual 127, 3) := by decide +kernel
theorem dX10_toggle_68 : decode cX10_toggle 68 = .ok (.aload_n 0, 1) := by decide +kernel
theorem dX10_toggle_69 : decode cX10_toggle 69 = .ok (.iconst 1, 1) := by decide +kernel
theorem dX10_toggle_70 : decode cX10_toggle 70 = .ok (.putfield 131, 3) := by decide +kernel
theorem dX10_toggle_73 : decode cX10_toggle 73 = .ok (.aload_n 1, 1) := by decide +kernel
theorem dX10_toggle_74 : decode cX10_toggle 74 = .ok (.getfield 135, 3) := by decide +kernel
theorem dX10_toggle_77 : decode cX10_toggle 77 = .ok (.ireturn, 1) := by decide +kernel
theorem dX10_read_0 : decode cX10_read 0 = .ok (.aload_n 0, 1) := by decide +kernel
theorem dX10_read_1 : decode cX10_read 1 = .ok (.getfield 38, 3) := by decide +kernel
theorem dX10_read_4 : decode cX10_read 4 = .ok (.aload_n 0, 1) := by decide +kernel
theorem dX10_read_5 : decode cX10_read 5 = .ok (.getfield 12, 3) := by decide +kernel
theorem dX10_read_8 : decode cX10_read 8 = .ok (.aload_n 0, 1) := by decide +kernel
theorem dX10_read_9 : decode cX10_read 9 = .ok (.getfield 49, 3) := by decide +kernel
theorem dX10_read_12 : decode cX10_read 12 = .ok (.invokevirtual 142, 3) := by decide +kernel
theorem dX10_read_15 : decode cX10_read 15 = .ok (.aload_n 0, 1) := by decide +kernel
theorem dX10_read_16 : decode cX10_read 16 = .ok (.getfield 12, 3) := by decide +kernel
theorem dX10_read_19 : decode cX10_read 19 = .ok (.iconst 0, 1) := by decide +kernel
theorem dX10_read_20 : decode cX10_read 20 = .ok (.putfield 94, 3) := by decide +kernel
theorem dX10_read_23 : decode cX10_read 23 = .ok (.aload_n 0, 1) := by decide +kernel
theorem dX10_read_24 : decode cX10_read 24 = .ok (.getfield 38, 3) := by decide +kernel
theorem dX10_read_27 : decode cX10_read 27 = .ok (.getfield 146, 3) := by decide +kernel
theorem dX10_read_30 : decode cX10_read 30 = .ok (.ifCond .eq 5, 3) := by decide +kernel
theorem dX10_read_33 : decode cX10_read 33 = .ok (.iconst (-1), 1) := by decide +kernel
theorem dX10_read_34 : decode cX10_read 34 = .ok (.ireturn, 1) := by decide +kernel
theorem dX10_read_35 : decode cX10_read 35 = .ok (.aload_n 0, 1) := by decide +kernel
theorem dX10_read_36 : decode cX10_read 36 = .ok (.getfield 45, 3) := by decide +kernel
theorem dX10_read_39 : decode cX10_read 39 = .ok (.astore_n 1, 1) := by decide +kernel
theorem dX10_read_40 : decode cX10_read 40 = .ok (.aload_n 0, 1) := by decide +kernel
theorem dX10_read_41 : decode cX10_read 41 = .ok (.aload_n 0, 1) := by decide +kernel
theorem dX10_read_42 : decode cX10_read 42 = .ok (.getfield 49, 3) := by decide +kernel
theorem dX10_read_45 : decode cX10_read 45 = .ok (.putfield 45, 3) := by decide +kernel
theorem dX10_read_48 : decode cX10_read 48 = .ok (.aload_n 0, 1) := by decide +kernel
theorem dX10_read_49 : decode cX10_read 49 = .ok (.aload_n 1, 1) := by decide +kernel
theorem dX10_read_50 : decode cX10_read 50 = .ok (.putfield 49, 3) := by decide +kernel
theorem dX10_read_53 : decode cX10_read 53 = .ok (.aload_n 0, 1) := by decide +kernel
theorem dX10_read_54 : decode cX10_read 54 = .ok (.getfield 62, 3) := by decide +kernel
theorem dX10_read_57 : decode cX10_read 57 = .ok (.aload_n 0, 1) := by decide +kernel
theorem dX10_read_58 : decode cX10_read 58 = .ok (.getfield 45, 3) := by decide +kernel
theorem dX10_read_61 : decode cX10_read 61 = .ok (.getfield 149, 3) := by decide +kernel
theorem dX10_read_64 : decode cX10_read 64 = .ok (.invokevirtual 152, 3) := by decide +kernel
theorem dX10_read_67 : decode cX10_read 67 = .ok (.aload_n 0, 1) := by decide +kernel
theorem dX10_read_68 : decode cX10_read 68 = .ok (.getfield 83, 3) := by decide +kernel
theorem dX10_read_71 : decode cX10_read 71 = .ok (.iconst 0, 1) := by decide +kernel
theorem dX10_read_72 : decode cX10_read 72 = .ok (.putfield 155, 3) := by decide +kernel
theorem dX10_read_75 : decode cX10_read 75 = .ok (.aload_n 0, 1) := by decide +kernel
theorem dX10_read_76 : decode cX10_read 76 = .ok (.iconst 1, 1) := by decide +kernel
theorem dX10_read_77 : decode cX10_read 77 = .ok (.putfield 131, 3) := by decide +kernel
theorem dX10_read_80 : decode cX10_read 80 = .ok (.aload_n 0, 1) := by decide +kernel
theorem dX10_read_81 : decode cX10_read 81 = .ok (.getfield 45, 3) := by decide +kernel
theorem dX10_read_84 : decode cX10_read 84 = .ok (.getfield 149, 3) := by decide +kernel
theorem dX10_read_87 : decode cX10_read 87 = .ok (.ireturn, 1) := by decide +kernel
theorem dX10_fault_0 : decode cX10_fault 0 = .ok (.iload_n 1, 1) := by decide +kernel
theorem dX10_fault_1 : decode cX10_fault 1 = .ok (.ifCond .ne 11, 3) := by decide +kernel
theorem dX10_fault_4 : decode cX10_fault 4 = .ok (.aload_n 0, 1) := by decide +kernel
theorem dX10_fault_5 : decode cX10_fault 5 = .ok (.getfield 38, 3) := by decide +kernel
theorem dX10_fault_8 : decode cX10_fault 8 = .ok (.getfield 146, 3) := by decide +kernel
theorem dX10_fault_11 : decode cX10_fault 11 = .ok (.ireturn, 1) := by decide +kernel
theorem dX10_fault_12 : decode cX10_fault 12 = .ok (.iload_n 1, 1) := by decide +kernel
theorem dX10_fault_13 : decode cX10_fault 13 = .ok (.iconst 1, 1) := by decide +kernel
theorem dX10_fault_14 : decode cX10_fault 14 = .ok (.if_icmp .ne 13, 3) := by decide +kernel
theorem dX10_fault_17 : decode cX10_fault 17 = .ok (.aload_n 0, 1) := by decide +kernel
theorem dX10_fault_18 : decode cX10_fault 18 = .ok (.getfield 38, 3) := by decide +kernel
theorem dX10_fault_21 : decode cX10_fault 21 = .ok (.getfield 156, 3) := by decide +kernel
theorem dX10_fault_24 : decode cX10_fault 24 = .ok (.goto 4, 3) := by decide +kernel
theorem dX10_fault_27 : decode cX10_fault 27 = .ok (.iconst (-1), 1) := by decide +kernel
theorem dX10_fault_28 : decode cX10_fault 28 = .ok (.ireturn, 1) := by decide +kernel
theorem dX10_sentence_0 : decode cX10_sentence 0 = .ok (.aload_n 0, 1) := by decide +kernel
theorem dX10_sentence_1 : decode cX10_sentence 1 = .ok (.iload_n 1, 1) := by decide +kernel
theorem dX10_sentence_2 : decode cX10_sentence 2 = .ok (.invokevirtual 159, 3) := by decide +kernel
theorem dX10_sentence_5 : decode cX10_sentence 5 = .ok (.ifCond .eq 6, 3) := by decide +kernel
theorem dX10_sentence_8 : decode cX10_sentence 8 = .ok (.bipush (-2), 2) := by decide +kernel
theorem dX10_sentence_10 : decode cX10_sentence 10 = .ok (.ireturn, 1) := by decide +kernel
theorem dX10_sentence_11 : decode cX10_sentence 11 = .ok (.aload_n 0, 1) := by decide +kernel
theorem dX10_sentence_12 : decode cX10_sentence 12 = .ok (.invokevirtual 163, 3) := by decide +kernel
theorem dX10_sentence_15 : decode cX10_sentence 15 = .ok (.aload_n 0, 1) := by decide +kernel
theorem dX10_sentence_16 : decode cX10_sentence 16 = .ok (.getfield 62, 3) := by decide +kernel
theorem dX10_sentence_19 : decode cX10_sentence 19 = .ok (.getfield 166, 3) := by decide +kernel
theorem dX10_sentence_22 : decode cX10_sentence 22 = .ok (.iload_n 1, 1) := by decide +kernel
theorem dX10_sentence_23 : decode cX10_sentence 23 = .ok (.iaload, 1) := by decide +kernel
theorem dX10_sentence_24 : decode cX10_sentence 24 = .ok (.istore_n 3, 1) := by decide +kernel
theorem dX10_sentence_25 : decode cX10_sentence 25 = .ok (.iload_n 2, 1) := by decide +kernel
theorem dX10_sentence_26 : decode cX10_sentence 26 = .ok (.tableswitch 118 0 7 #[46, 56, 66, 76, 86, 96, 106, 116], 46) := by decide +kernel
theorem dX10_sentence_72 : decode cX10_sentence 72 = .ok (.aload_n 0, 1) := by decide +kernel
theorem dX10_sentence_73 : decode cX10_sentence 73 = .ok (.getfield 45, 3) := by decide +kernel
theorem dX10_sentence_76 : decode cX10_sentence 76 = .ok (.getfield 169, 3) := by decide +kernel
theorem dX10_sentence_79 : decode cX10_sentence 79 = .ok (.iload_n 3, 1) := by decide +kernel
theorem dX10_sentence_80 : decode cX10_sentence 80 = .ok (.iaload, 1) := by decide +kernel
theorem dX10_sentence_81 : decode cX10_sentence 81 = .ok (.ireturn, 1) := by decide +kernel
theorem dX10_sentence_82 : decode cX10_sentence 82 = .ok (.aload_n 0, 1) := by decide +kernel
theorem dX10_sentence_83 : decode cX10_sentence 83 = .ok (.getfield 55, 3) := by decide +kernel
theorem dX10_sentence_86 : decode cX10_sentence 86 = .ok (.getfield 172, 3) := by decide +kernel
theorem dX10_sentence_89 : decode cX10_sentence 89 = .ok (.iload_n 3, 1) := by decide +kernel
theorem dX10_sentence_90 : decode cX10_sentence 90 = .ok (.iaload, 1) := by decide +kernel
theorem dX10_sentence_91 : decode cX10_sentence 91 = .ok (.ireturn, 1) := by decide +kernel
theorem dX10_sentence_92 : decode cX10_sentence 92 = .ok (.aload_n 0, 1) := by decide +kernel
theorem dX10_sentence_93 : decode cX10_sentence 93 = .ok (.getfield 55, 3) := by decide +kernel
theorem dX10_sentence_96 : decode cX10_sentence 96 = .ok (.getfield 175, 3) := by decide +kernel
theorem dX10_sentence_99 : decode cX10_sentence 99 = .ok (.iload_n 3, 1) := by decide +kernel
theorem dX10_sentence_100 : decode cX10_sentence 100 = .ok (.iaload, 1) := by decide +kernel
theorem dX10_sentence_101 : decode cX10_sentence 101 = .ok (.ireturn, 1) := by decide +kernel
theorem dX10_sentence_102 : decode cX10_sentence 102 = .ok (.aload_n 0, 1) := by decide +kernel
theorem dX10_sentence_103 : decode cX10_sentence 103 = .ok (.getfield 45, 3) := by decide +kernel
theorem dX10_sentence_106 : decode cX10_sentence 106 = .ok (.getfield 178, 3) := by decide +kernel
theorem dX10_sentence_109 : decode cX10_sentence 109 = .ok (.iload_n 1, 1) := by decide +kernel
theorem dX10_sentence_110 : decode cX10_sentence 110 = .ok (.iaload, 1) := by decide +kernel
theorem dX10_sentence_111 : decode cX10_sentence 111 = .ok (.ireturn, 1) := by decide +kernel
theorem dX10_sentence_112 : decode cX10_sentence 112 = .ok (.aload_n 0, 1) := by decide +kernel
theorem dX10_sentence_113 : decode cX10_sentence 113 = .ok (.getfield 76, 3) := by decide +kernel
theorem dX10_sentence_116 : decode cX10_sentence 116 = .ok (.getfield 181, 3) := by decide +kernel
theorem dX10_sentence_119 : decode cX10_sentence 119 = .ok (.iload_n 1, 1) := by decide +kernel
theorem dX10_sentence_120 : decode cX10_sentence 120 = .ok (.iaload, 1) := by decide +kernel
theorem dX10_sentence_121 : decode cX10_sentence 121 = .ok (.ireturn, 1) := by decide +kernel
theorem dX10_sentence_122 : decode cX10_sentence 122 = .ok (.aload_n 0, 1) := by decide +kernel
theorem dX10_sentence_123 : decode cX10_sentence 123 = .ok (.getfield 76, 3) := by decide +kernel
theorem dX10_sentence_126 : decode cX10_sentence 126 = .ok (.getfield 184, 3) := by decide +kernel
theorem dX10_sentence_129 : decode cX10_sentence 129 = .ok (.iload_n 1, 1) := by decide +kernel
theorem dX10_sentence_130 : decode cX10_sentence 130 = .ok (.iaload, 1) := by decide +kernel
theorem dX10_sentence_131 : decode cX10_sentence 131 = .ok (.ireturn, 1) := by decide +kernel
theorem dX10_sentence_132 : decode cX10_sentence 132 = .ok (.aload_n 0, 1) := by decide +kernel
theorem dX10_sentence_133 : decode cX10_sentence 133 = .ok (.getfield 76, 3) := by decide +kernel
theorem dX10_sentence_136 : decode cX10_sentence 136 = .ok (.getfield 187, 3) := by decide +kernel
theorem dX10_sentence_139 : decode cX10_sentence 139 = .ok (.iload_n 1, 1) := by decide +kernel
theorem dX10_sentence_140 : decode cX10_sentence 140 = .ok (.iaload, 1) := by decide +kernel
theorem dX10_sentence_141 : decode cX10_sentence 141 = .ok (.ireturn, 1) := by decide +kernel
theorem dX10_sentence_142 : decode cX10_sentence 142 = .ok (.iload_n 3, 1) := by decide +kernel
theorem dX10_sentence_143 : decode cX10_sentence 143 = .ok (.ireturn, 1) := by decide +kernel
theorem dX10_sentence_144 : decode cX10_sentence 144 = .ok (.bipush (-2), 2) := by decide +kernel
theorem dX10_sentence_146 : decode cX10_sentence 146 = .ok (.ireturn, 1) := by decide +kernel
theorem dX10_word_0 : decode cX10_word 0 = .ok (.aload_n 0, 1) := by decide +kernel
theorem dX10_word_1 : decode cX10_word 1 = .ok (.iload_n 1, 1) := by decide +kernel
theorem dX10_word_2 : decode cX10_word 2 = .ok (.invokevirtual 159, 3) := by decide +kernel
theorem dX10_word_5 : decode cX10_word 5 = .ok (.ifCond .eq 5, 3) := by decide +kernel
theorem dX10_word_8 : decode cX10_word 8 = .ok (.iconst (-1), 1) := by decide +kernel
theorem dX10_word_9 : decode cX10_word 9 = .ok (.ireturn, 1) := by decide +kernel
theorem dX10_word_10 : decode cX10_word 10 = .ok (.aload_n 0, 1) := by decide +kernel
theorem dX10_word_11 : decode cX10_word 11 = .ok (.getfield 62, 3) := by decide +kernel
theorem dX10_word_14 : decode cX10_word 14 = .ok (.getfield 166, 3) := by decide +kernel
theorem dX10_word_17 : decode cX10_word 17 = .ok (.iload_n 1, 1) := by decide +kernel
theorem dX10_word_18 : decode cX10_word 18 = .ok (.iaload, 1) := by decide +kernel
theorem dX10_word_19 : decode cX10_word 19 = .ok (.istore 4, 2) := by decide +kernel
theorem dX10_word_21 : decode cX10_word 21 = .ok (.iload_n 2, 1) := by decide +kernel
theorem dX10_word_22 : decode cX10_word 22 = .ok (.ifCond .lt 17, 3) := by decide +kernel
theorem dX10_word_25 : decode cX10_word 25 = .ok (.iload_n 2, 1) := by decide +kernel
theorem dX10_word_26 : decode cX10_word 26 = .ok (.aload_n 0, 1) := by decide +kernel
theorem dX10_word_27 : decode cX10_word 27 = .ok (.getfield 45, 3) := by decide +kernel
theorem dX10_word_30 : decode cX10_word 30 = .ok (.getfield 169, 3) := by decide +kernel
theorem dX10_word_33 : decode cX10_word 33 = .ok (.iload 4, 2) := by decide +kernel
theorem dX10_word_35 : decode cX10_word 35 = .ok (.iaload, 1) := by decide +kernel
theorem dX10_word_36 : decode cX10_word 36 = .ok (.if_icmp .lt 5, 3) := by decide +kernel
theorem dX10_word_39 : decode cX10_word 39 = .ok (.iconst (-1), 1) := by decide +kernel
theorem dX10_word_40 : decode cX10_word 40 = .ok (.ireturn, 1) := by decide +kernel
theorem dX10_word_41 : decode cX10_word 41 = .ok (.aload_n 0, 1) := by decide +kernel
theorem dX10_word_42 : decode cX10_word 42 = .ok (.getfield 45, 3) := by decide +kernel
theorem dX10_word_45 : decode cX10_word 45 = .ok (.getfield 190, 3) := by decide +kernel
theorem dX10_word_48 : decode cX10_word 48 = .ok (.iload 4, 2) := by decide +kernel
theorem dX10_word_50 : decode cX10_word 50 = .ok (.iaload, 1) := by decide +kernel
theorem dX10_word_51 : decode cX10_word 51 = .ok (.iload_n 2, 1) := by decide +kernel
theorem dX10_word_52 : decode cX10_word 52 = .ok (.iadd, 1) := by decide +kernel
theorem dX10_word_53 : decode cX10_word 53 = .ok (.istore 5, 2) := by decide +kernel
theorem dX10_word_55 : decode cX10_word 55 = .ok (.iload_n 3, 1) := by decide +kernel
theorem dX10_word_56 : decode cX10_word 56 = .ok (.ifCond .lt 17, 3) := by decide +kernel
theorem dX10_word_59 : decode cX10_word 59 = .ok (.iload_n 3, 1) := by decide +kernel
theorem dX10_word_60 : decode cX10_word 60 = .ok (.aload_n 0, 1) := by decide +kernel
theorem dX10_word_61 : decode cX10_word 61 = .ok (.getfield 45, 3) := by decide +kernel
theorem dX10_word_64 : decode cX10_word 64 = .ok (.getfield 193, 3) := by decide +kernel
theorem dX10_word_67 : decode cX10_word 67 = .ok (.iload 5, 2) := by decide +kernel
theorem dX10_word_69 : decode cX10_word 69 = .ok (.iaload, 1) := by decide +kernel
theorem dX10_word_70 : decode cX10_word 70 = .ok (.if_icmp .lt 5, 3) := by decide +kernel
theorem dX10_word_73 : decode cX10_word 73 = .ok (.iconst (-1), 1) := by decide +kernel
theorem dX10_word_74 : decode cX10_word 74 = .ok (.ireturn, 1) := by decide +kernel
theorem dX10_word_75 : decode cX10_word 75 = .ok (.aload_n 0, 1) := by decide +kernel
theorem dX10_word_76 : decode cX10_word 76 = .ok (.getfield 45, 3) := by decide +kernel
theorem dX10_word_79 : decode cX10_word 79 = .ok (.getfield 196, 3) := by decide +kernel
theorem dX10_word_82 : decode cX10_word 82 = .ok (.aload_n 0, 1) := by decide +kernel
theorem dX10_word_83 : decode cX10_word 83 = .ok (.getfield 45, 3) := by decide +kernel
theorem dX10_word_86 : decode cX10_word 86 = .ok (.getfield 199, 3) := by decide +kernel
theorem dX10_word_89 : decode cX10_word 89 = .ok (.iload 5, 2) := by decide +kernel
theorem dX10_word_91 : decode cX10_word 91 = .ok (.iaload, 1) := by decide +kernel
theorem dX10_word_92 : decode cX10_word 92 = .ok (.iload_n 3, 1) := by decide +kernel
theorem dX10_word_93 : decode cX10_word 93 = .ok (.iadd, 1) := by decide +kernel
theorem dX10_word_94 : decode cX10_word 94 = .ok (.iaload, 1) := by decide +kernel
theorem dX10_word_95 : decode cX10_word 95 = .ok (.ireturn, 1) := by decide +kernel
theorem dX10_shared_0 : decode cX10_shared 0 = .ok (.aload_n 0, 1) := by decide +kernel
theorem dX10_shared_1 : decode cX10_shared 1 = .ok (.iload_n 1, 1) := by decide +kernel
theorem dX10_shared_2 : decode cX10_shared 2 = .ok (.invokevirtual 159, 3) := by decide +kernel
theorem dX10_shared_5 : decode cX10_shared 5 = .ok (.ifCond .ne 11, 3) := by decide +kernel
theorem dX10_shared_8 : decode cX10_shared 8 = .ok (.aload_n 0, 1) := by decide +kernel
theorem dX10_shared_9 : decode cX10_shared 9 = .ok (.iload_n 2, 1) := by decide +kernel
theorem dX10_shared_10 : decode cX10_shared 10 = .ok (.invokevirtual 159, 3) := by decide +kernel
theorem dX10_shared_13 : decode cX10_shared 13 = .ok (.ifCond .eq 6, 3) := by decide +kernel
theorem dX10_shared_16 : decode cX10_shared 16 = .ok (.bipush (-2), 2) := by decide +kernel
theorem dX10_shared_18 : decode cX10_shared 18 = .ok (.ireturn, 1) := by decide +kernel
theorem dX10_shared_19 : decode cX10_shared 19 = .ok (.aload_n 0, 1) := by decide +kernel
theorem dX10_shared_20 : decode cX10_shared 20 = .ok (.invokevirtual 202, 3) := by decide +kernel
theorem dX10_shared_23 : decode cX10_shared 23 = .ok (.aload_n 0, 1) := by decide +kernel
theorem dX10_shared_24 : decode cX10_shared 24 = .ok (.iload_n 1, 1) := by decide +kernel
theorem dX10_shared_25 : decode cX10_shared 25 = .ok (.iload_n 2, 1) := by decide +kernel
theorem dX10_shared_26 : decode cX10_shared 26 = .ok (.invokevirtual 205, 3) := by decide +kernel
theorem dX10_shared_29 : decode cX10_shared 29 = .ok (.ireturn, 1) := by decide +kernel
theorem dX10_isNoSentence_0 : decode cX10_isNoSentence 0 = .ok (.iload_n 1, 1) := by decide +kernel
theorem dX10_isNoSentence_1 : decode cX10_isNoSentence 1 = .ok (.ifCond .lt 14, 3) := by decide +kernel
theorem dX10_isNoSentence_4 : decode cX10_isNoSentence 4 = .ok (.iload_n 1, 1) := by decide +kernel
theorem dX10_isNoSentence_5 : decode cX10_isNoSentence 5 = .ok (.aload_n 0, 1) := by decide +kernel
theorem dX10_isNoSentence_6 : decode cX10_isNoSentence 6 = .ok (.getfield 45, 3) := by decide +kernel
theorem dX10_isNoSentence_9 : decode cX10_isNoSentence 9 = .ok (.getfield 149, 3) := by decide +kernel
theorem dX10_isNoSentence_12 : decode cX10_isNoSentence 12 = .ok (.if_icmp .lt 7, 3) := by decide +kernel
theorem dX10_isNoSentence_15 : decode cX10_isNoSentence 15 = .ok (.iconst 1, 1) := by decide +kernel
theorem dX10_isNoSentence_16 : decode cX10_isNoSentence 16 = .ok (.goto 4, 3) := by decide +kernel
theorem dX10_isNoSentence_19 : decode cX10_isNoSentence 19 = .ok (.iconst 0, 1) := by decide +kernel
theorem dX10_isNoSentence_20 : decode cX10_isNoSentence 20 = .ok (.ireturn, 1) := by decide +kernel
theorem dX10_sharedKeys_0 : decode cX10_sharedKeys 0 = .ok (.aload_n 0, 1) := by decide +kernel
theorem dX10_sharedKeys_1 : decode cX10_sharedKeys 1 = .ok (.getfield 55, 3) := by decide +kernel
theorem dX10_sharedKeys_4 : decode cX10_sharedKeys 4 = .ok (.getfield 209, 3) := by decide +kernel
theorem dX10_sharedKeys_7 : decode cX10_sharedKeys 7 = .ok (.aload_n 0, 1) := by decide +kernel
theorem dX10_sharedKeys_8 : decode cX10_sharedKeys 8 = .ok (.getfield 62, 3) := by decide +kernel
theorem dX10_sharedKeys_11 : decode cX10_sharedKeys 11 = .ok (.getfield 166, 3) := by decide +kernel
theorem dX10_sharedKeys_14 : decode cX10_sharedKeys 14 = .ok (.iload_n 1, 1) := by decide +kernel
theorem dX10_sharedKeys_15 : decode cX10_sharedKeys 15 = .ok (.iaload, 1) := by decide +kernel
theorem dX10_sharedKeys_16 : decode cX10_sharedKeys 16 = .ok (.bipush 24, 2) := by decide +kernel
theorem dX10_sharedKeys_18 : decode cX10_sharedKeys 18 = .ok (.imul, 1) := by decide +kernel
theorem dX10_sharedKeys_19 : decode cX10_sharedKeys 19 = .ok (.aload_n 0, 1) := by decide +kernel
theorem dX10_sharedKeys_20 : decode cX10_sharedKeys 20 = .ok (.getfield 62, 3) := by decide +kernel
theorem dX10_sharedKeys_23 : decode cX10_sharedKeys 23 = .ok (.getfield 166, 3) := by decide +kernel
theorem dX10_sharedKeys_26 : decode cX10_sharedKeys 26 = .ok (.iload_n 2, 1) := by decide +kernel
theorem dX10_sharedKeys_27 : decode cX10_sharedKeys 27 = .ok (.iaload, 1) := by decide +kernel
theorem dX10_sharedKeys_28 : decode cX10_sharedKeys 28 = .ok (.iadd, 1) := by decide +kernel
theorem dX10_sharedKeys_29 : decode cX10_sharedKeys 29 = .ok (.iaload, 1) := by decide +kernel
theorem dX10_sharedKeys_30 : decode cX10_sharedKeys 30 = .ok (.ireturn, 1) := by decide +kernel
theorem dX10_kindAt_0 : decode cX10_kindAt 0 = .ok (.aload_n 0, 1) := by decide +kernel
theorem dX10_kindAt_1 : decode cX10_kindAt 1 = .ok (.getfield 55, 3) := by decide +kernel
theorem dX10_kindAt_4 : decode cX10_kindAt 4 = .ok (.getfield 175, 3) := by decide +kernel
theorem dX10_kindAt_7 : decode cX10_kindAt 7 = .ok (.aload_n 0, 1) := by decide +kernel
theorem dX10_kindAt_8 : decode cX10_kindAt 8 = .ok (.getfield 62, 3) := by decide +kernel
theorem dX10_kindAt_11 : decode cX10_kindAt 11 = .ok (.getfield 166, 3) := by decide +kernel
theorem dX10_kindAt_14 : decode cX10_kindAt 14 = .ok (.iload_n 1, 1) := by decide +kernel
theorem dX10_kindAt_15 : decode cX10_kindAt 15 = .ok (.iaload, 1) := by decide +kernel
theorem dX10_kindAt_16 : decode cX10_kindAt 16 = .ok (.iaload, 1) := by decide +kernel
theorem dX10_kindAt_17 : decode cX10_kindAt 17 = .ok (.ireturn, 1) := by decide +kernel
theorem dX10_refreshKeys_0 : decode cX10_refreshKeys 0 = .ok (.aload_n 0, 1) := by decide +kernel
theorem dX10_refreshKeys_1 : decode cX10_refreshKeys 1 = .ok (.getfield 131, 3) := by decide +kernel
theorem dX10_refreshKeys_4 : decode cX10_refreshKeys 4 = .ok (.ifCond .eq 36, 3) := by decide +kernel
theorem dX10_refreshKeys_7 : decode cX10_refreshKeys 7 = .ok (.aload_n 0, 1) := by decide +kernel
theorem dX10_refreshKeys_8 : decode cX10_refreshKeys 8 = .ok (.getfield 55, 3) := by decide +kernel
theorem dX10_refreshKeys_11 : decode cX10_refreshKeys 11 = .ok (.aload_n 0, 1) := by decide +kernel
theorem dX10_refreshKeys_12 : decode cX10_refreshKeys 12 = .ok (.getfield 45, 3) := by decide +kernel
theorem dX10_refreshKeys_15 : decode cX10_refreshKeys 15 = .ok (.aload_n 0, 1) := by decide +kernel
theorem dX10_refreshKeys_16 : decode cX10_refreshKeys 16 = .ok (.getfield 21, 3) := by decide +kernel
theorem dX10_refreshKeys_19 : decode cX10_refreshKeys 19 = .ok (.aload_n 0, 1) := by decide +kernel
theorem dX10_refreshKeys_20 : decode cX10_refreshKeys 20 = .ok (.getfield 25, 3) := by decide +kernel
theorem dX10_refreshKeys_23 : decode cX10_refreshKeys 23 = .ok (.aload_n 0, 1) := by decide +kernel
theorem dX10_refreshKeys_24 : decode cX10_refreshKeys 24 = .ok (.getfield 28, 3) := by decide +kernel
theorem dX10_refreshKeys_27 : decode cX10_refreshKeys 27 = .ok (.invokevirtual 212, 3) := by decide +kernel
theorem dX10_refreshKeys_30 : decode cX10_refreshKeys 30 = .ok (.aload_n 0, 1) := by decide +kernel
theorem dX10_refreshKeys_31 : decode cX10_refreshKeys 31 = .ok (.iconst 0, 1) := by decide +kernel
theorem dX10_refreshKeys_32 : decode cX10_refreshKeys 32 = .ok (.putfield 131, 3) := by decide +kernel
theorem dX10_refreshKeys_35 : decode cX10_refreshKeys 35 = .ok (.aload_n 0, 1) := by decide +kernel
theorem dX10_refreshKeys_36 : decode cX10_refreshKeys 36 = .ok (.iconst 1, 1) := by decide +kernel
theorem dX10_refreshKeys_37 : decode cX10_refreshKeys 37 = .ok (.putfield 136, 3) := by decide +kernel
theorem dX10_refreshKeys_40 : decode cX10_refreshKeys 40 = .ok (.return_, 1) := by decide +kernel
theorem dX10_cost_0 : decode cX10_cost 0 = .ok (.aload_n 0, 1) := by decide +kernel
theorem dX10_cost_1 : decode cX10_cost 1 = .ok (.iload_n 1, 1) := by decide +kernel
theorem dX10_cost_2 : decode cX10_cost 2 = .ok (.invokevirtual 159, 3) := by decide +kernel
theorem dX10_cost_5 : decode cX10_cost 5 = .ok (.ifCond .ne 16, 3) := by decide +kernel
theorem dX10_cost_8 : decode cX10_cost 8 = .ok (.aload_n 0, 1) := by decide +kernel
theorem dX10_cost_9 : decode cX10_cost 9 = .ok (.iload_n 2, 1) := by decide +kernel
theorem dX10_cost_10 : decode cX10_cost 10 = .ok (.invokevirtual 159, 3) := by decide +kernel
theorem dX10_cost_13 : decode cX10_cost 13 = .ok (.ifCond .ne 8, 3) := by decide +kernel
theorem dX10_cost_16 : decode cX10_cost 16 = .ok (.iload_n 1, 1) := by decide +kernel
theorem dX10_cost_17 : decode cX10_cost 17 = .ok (.iload_n 2, 1) := by decide +kernel
theorem dX10_cost_18 : decode cX10_cost 18 = .ok (.if_icmp .ne 6, 3) := by decide +kernel
theorem dX10_cost_21 : decode cX10_cost 21 = .ok (.bipush (-2), 2) := by decide +kernel
theorem dX10_cost_23 : decode cX10_cost 23 = .ok (.ireturn, 1) := by decide +kernel
theorem dX10_cost_24 : decode cX10_cost 24 = .ok (.aload_n 0, 1) := by decide +kernel
theorem dX10_cost_25 : decode cX10_cost 25 = .ok (.invokevirtual 202, 3) := by decide +kernel
theorem dX10_cost_28 : decode cX10_cost 28 = .ok (.aload_n 0, 1) := by decide +kernel
theorem dX10_cost_29 : decode cX10_cost 29 = .ok (.iload_n 1, 1) := by decide +kernel
theorem dX10_cost_30 : decode cX10_cost 30 = .ok (.iload_n 2, 1) := by decide +kernel
theorem dX10_cost_31 : decode cX10_cost 31 = .ok (.invokevirtual 216, 3) := by decide +kernel
theorem dX10_cost_34 : decode cX10_cost 34 = .ok (.ireturn, 1) := by decide +kernel
theorem dX10_tree_0 : decode cX10_tree 0 = .ok (.aload_n 0, 1) := by decide +kernel
theorem dX10_tree_1 : decode cX10_tree 1 = .ok (.getfield 45, 3) := by decide +kernel
theorem dX10_tree_4 : decode cX10_tree 4 = .ok (.getfield 149, 3) := by decide +kernel
theorem dX10_tree_7 : decode cX10_tree 7 = .ok (.ifCond .ne 5, 3) := by decide +kernel
theorem dX10_tree_10 : decode cX10_tree 10 = .ok (.iconst (-1), 1) := by decide +kernel
theorem dX10_tree_11 : decode cX10_tree 11 = .ok (.ireturn, 1) := by decide +kernel
theorem dX10_tree_12 : decode cX10_tree 12 = .ok (.aload_n 0, 1) := by decide +kernel
theorem dX10_tree_13 : decode cX10_tree 13 = .ok (.invokevirtual 163, 3) := by decide +kernel
theorem dX10_tree_16 : decode cX10_tree 16 = .ok (.aload_n 0, 1) := by decide +kernel
theorem dX10_tree_17 : decode cX10_tree 17 = .ok (.getfield 69, 3) := by decide +kernel
theorem dX10_tree_20 : decode cX10_tree 20 = .ok (.invokevirtual 219, 3) := by decide +kernel
theorem dX10_tree_23 : decode cX10_tree 23 = .ok (.ireturn, 1) := by decide +kernel
theorem dX10_next_0 : decode cX10_next 0 = .ok (.aload_n 0, 1) := by decide +kernel
theorem dX10_next_1 : decode cX10_next 1 = .ok (.getfield 45, 3) := by decide +kernel
theorem dX10_next_4 : decode cX10_next 4 = .ok (.getfield 149, 3) := by decide +kernel
theorem dX10_next_7 : decode cX10_next 7 = .ok (.ifCond .ne 5, 3) := by decide +kernel
theorem dX10_next_10 : decode cX10_next 10 = .ok (.iconst (-1), 1) := by decide +kernel
theorem dX10_next_11 : decode cX10_next 11 = .ok (.ireturn, 1) := by decide +kernel
theorem dX10_next_12 : decode cX10_next 12 = .ok (.aload_n 0, 1) := by decide +kernel
theorem dX10_next_13 : decode cX10_next 13 = .ok (.invokevirtual 163, 3) := by decide +kernel
theorem dX10_next_16 : decode cX10_next 16 = .ok (.aload_n 0, 1) := by decide +kernel
theorem dX10_next_17 : decode cX10_next 17 = .ok (.getfield 69, 3) := by decide +kernel
theorem dX10_next_20 : decode cX10_next 20 = .ok (.invokevirtual 223, 3) := by decide +kernel
theorem dX10_next_23 : decode cX10_next 23 = .ok (.istore_n 1, 1) := by decide +kernel
theorem dX10_next_24 : decode cX10_next 24 = .ok (.iload_n 1, 1) := by decide +kernel
theorem dX10_next_25 : decode cX10_next 25 = .ok (.ldc 226, 2) := by decide +kernel
theorem dX10_next_27 : decode cX10_next 27 = .ok (.if_icmp .ge 7, 3) := by decide +kernel
theorem dX10_next_30 : decode cX10_next 30 = .ok (.iload_n 1, 1) := by decide +kernel
theorem dX10_next_31 : decode cX10_next 31 = .ok (.goto 4, 3) := by decide +kernel
theorem dX10_next_34 : decode cX10_next 34 = .ok (.iconst (-1), 1) := by decide +kernel
theorem dX10_next_35 : decode cX10_next 35 = .ok (.ireturn, 1) := by decide +kernel
theorem dX10_finding_0 : decode cX10_finding 0 = .ok (.aload_n 0, 1) := by decide +kernel
theorem dX10_finding_1 : decode cX10_finding 1 = .ok (.iload_n 1, 1) := by decide +kernel
theorem dX10_finding_2 : decode cX10_finding 2 = .ok (.invokevirtual 159, 3) := by decide +kernel
theorem dX10_finding_5 : decode cX10_finding 5 = .ok (.ifCond .eq 6, 3) := by decide +kernel
theorem dX10_finding_8 : decode cX10_finding 8 = .ok (.bipush (-2), 2) := by decide +kernel
theorem dX10_finding_10 : decode cX10_finding 10 = .ok (.ireturn, 1) := by decide +kernel
theorem dX10_finding_11 : decode cX10_finding 11 = .ok (.aload_n 0, 1) := by decide +kernel
theorem dX10_finding_12 : decode cX10_finding 12 = .ok (.invokevirtual 163, 3) := by decide +kernel
theorem dX10_finding_15 : decode cX10_finding 15 = .ok (.aload_n 0, 1) := by decide +kernel
theorem dX10_finding_16 : decode cX10_finding 16 = .ok (.iload_n 1, 1) := by decide +kernel
theorem dX10_finding_17 : decode cX10_finding 17 = .ok (.invokevirtual 227, 3) := by decide +kernel
theorem dX10_finding_20 : decode cX10_finding 20 = .ok (.ireturn, 1) := by decide +kernel
theorem dX10_marks_0 : decode cX10_marks 0 = .ok (.iload_n 1, 1) := by decide +kernel
theorem dX10_marks_1 : decode cX10_marks 1 = .ok (.invokestatic 230, 3) := by decide +kernel
theorem dX10_marks_4 : decode cX10_marks 4 = .ok (.ifCond .ne 33, 3) := by decide +kernel
theorem dX10_marks_7 : decode cX10_marks 7 = .ok (.iload_n 2, 1) := by decide +kernel
theorem dX10_marks_8 : decode cX10_marks 8 = .ok (.invokestatic 230, 3) := by decide +kernel
theorem dX10_marks_11 : decode cX10_marks 11 = .ok (.ifCond .ne 26, 3) := by decide +kernel
theorem dX10_marks_14 : decode cX10_marks 14 = .ok (.iload_n 3, 1) := by decide +kernel
theorem dX10_marks_15 : decode cX10_marks 15 = .ok (.invokestatic 230, 3) := by decide +kernel
theorem dX10_marks_18 : decode cX10_marks 18 = .ok (.ifCond .ne 19, 3) := by decide +kernel
theorem dX10_marks_21 : decode cX10_marks 21 = .ok (.iload 4, 2) := by decide +kernel
theorem dX10_marks_23 : decode cX10_marks 23 = .ok (.invokestatic 230, 3) := by decide +kernel
theorem dX10_marks_26 : decode cX10_marks 26 = .ok (.ifCond .ne 11, 3) := by decide +kernel
theorem dX10_marks_29 : decode cX10_marks 29 = .ok (.iload 5, 2) := by decide +kernel
theorem dX10_marks_31 : decode cX10_marks 31 = .ok (.invokestatic 230, 3) := by decide +kernel
theorem dX10_marks_34 : decode cX10_marks 34 = .ok (.ifCond .eq 6, 3) := by decide +kernel
theorem dX10_marks_37 : decode cX10_marks 37 = .ok (.bipush (-2), 2) := by decide +kernel
theorem dX10_marks_39 : decode cX10_marks 39 = .ok (.ireturn, 1) := by decide +kernel
theorem dX10_marks_40 : decode cX10_marks 40 = .ok (.aload_n 0, 1) := by decide +kernel
theorem dX10_marks_41 : decode cX10_marks 41 = .ok (.invokevirtual 163, 3) := by decide +kernel
theorem dX10_marks_44 : decode cX10_marks 44 = .ok (.iconst 0, 1) := by decide +kernel
theorem dX10_marks_45 : decode cX10_marks 45 = .ok (.istore 6, 2) := by decide +kernel
theorem dX10_marks_47 : decode cX10_marks 47 = .ok (.iconst 0, 1) := by decide +kernel
theorem dX10_marks_48 : decode cX10_marks 48 = .ok (.istore 7, 2) := by decide +kernel
theorem dX10_marks_50 : decode cX10_marks 50 = .ok (.iload 7, 2) := by decide +kernel
theorem dX10_marks_52 : decode cX10_marks 52 = .ok (.aload_n 0, 1) := by decide +kernel
theorem dX10_marks_53 : decode cX10_marks 53 = .ok (.getfield 45, 3) := by decide +kernel
theorem dX10_marks_56 : decode cX10_marks 56 = .ok (.getfield 149, 3) := by decide +kernel
theorem dX10_marks_59 : decode cX10_marks 59 = .ok (.if_icmp .ge 106, 3) := by decide +kernel
theorem dX10_marks_62 : decode cX10_marks 62 = .ok (.aload_n 0, 1) := by decide +kernel
theorem dX10_marks_63 : decode cX10_marks 63 = .ok (.iload 7, 2) := by decide +kernel
theorem dX10_marks_65 : decode cX10_marks 65 = .ok (.invokevirtual 227, 3) := by decide +kernel
theorem dX10_marks_68 : decode cX10_marks 68 = .ok (.istore 8, 2) := by decide +kernel
theorem dX10_marks_70 : decode cX10_marks 70 = .ok (.iload 6, 2) := by decide +kernel
theorem dX10_marks_72 : decode cX10_marks 72 = .ok (.iload 8, 2) := by decide +kernel
theorem dX10_marks_74 : decode cX10_marks 74 = .ok (.iconst 1, 1) := by decide +kernel
theorem dX10_marks_75 : decode cX10_marks 75 = .ok (.iand, 1) := by decide +kernel
theorem dX10_marks_76 : decode cX10_marks 76 = .ok (.ifCond .eq 7, 3) := by decide +kernel
theorem dX10_marks_79 : decode cX10_marks 79 = .ok (.iload_n 1, 1) := by decide +kernel
theorem dX10_marks_80 : decode cX10_marks 80 = .ok (.goto 4, 3) := by decide +kernel
theorem dX10_marks_83 : decode cX10_marks 83 = .ok (.iconst 0, 1) := by decide +kernel
theorem dX10_marks_84 : decode cX10_marks 84 = .ok (.iadd, 1) := by decide +kernel
theorem dX10_marks_85 : decode cX10_marks 85 = .ok (.istore 6, 2) := by decide +kernel
theorem dX10_marks_87 : decode cX10_marks 87 = .ok (.iload 6, 2) := by decide +kernel
theorem dX10_marks_89 : decode cX10_marks 89 = .ok (.iload 8, 2) := by decide +kernel
theorem dX10_marks_91 : decode cX10_marks 91 = .ok (.iconst 2, 1) := by decide +kernel
theorem dX10_marks_92 : decode cX10_marks 92 = .ok (.iand, 1) := by decide +kernel
theorem dX10_marks_93 : decode cX10_marks 93 = .ok (.ifCond .eq 7, 3) := by decide +kernel
theorem dX10_marks_96 : decode cX10_marks 96 = .ok (.iload_n 2, 1) := by decide +kernel
theorem dX10_marks_97 : decode cX10_marks 97 = .ok (.goto 4, 3) := by decide +kernel
theorem dX10_marks_100 : decode cX10_marks 100 = .ok (.iconst 0, 1) := by decide +kernel
theorem dX10_marks_101 : decode cX10_marks 101 = .ok (.iadd, 1) := by decide +kernel
theorem dX10_marks_102 : decode cX10_marks 102 = .ok (.istore 6, 2) := by decide +kernel
theorem dX10_marks_104 : decode cX10_marks 104 = .ok (.iload 6, 2) := by decide +kernel
theorem dX10_marks_106 : decode cX10_marks 106 = .ok (.iload 8, 2) := by decide +kernel
theorem dX10_marks_108 : decode cX10_marks 108 = .ok (.iconst 4, 1) := by decide +kernel
theorem dX10_marks_109 : decode cX10_marks 109 = .ok (.iand, 1) := by decide +kernel
theorem dX10_marks_110 : decode cX10_marks 110 = .ok (.ifCond .eq 7, 3) := by decide +kernel
theorem dX10_marks_113 : decode cX10_marks 113 = .ok (.iload_n 3, 1) := by decide +kernel
theorem dX10_marks_114 : decode cX10_marks 114 = .ok (.goto 4, 3) := by decide +kernel
theorem dX10_marks_117 : decode cX10_marks 117 = .ok (.iconst 0, 1) := by decide +kernel
theorem dX10_marks_118 : decode cX10_marks 118 = .ok (.iadd, 1) := by decide +kernel
theorem dX10_marks_119 : decode cX10_marks 119 = .ok (.istore 6, 2) := by decide +kernel
theorem dX10_marks_121 : decode cX10_marks 121 = .ok (.iload 6, 2) := by decide +kernel
theorem dX10_marks_123 : decode cX10_marks 123 = .ok (.iload 8, 2) := by decide +kernel
theorem dX10_marks_125 : decode cX10_marks 125 = .ok (.bipush 8, 2) := by decide +kernel
theorem dX10_marks_127 : decode cX10_marks 127 = .ok (.iand, 1) := by decide +kernel
theorem dX10_marks_128 : decode cX10_marks 128 = .ok (.ifCond .eq 8, 3) := by decide +kernel
theorem dX10_marks_131 : decode cX10_marks 131 = .ok (.iload 4, 2) := by decide +kernel
theorem dX10_marks_133 : decode cX10_marks 133 = .ok (.goto 4, 3) := by decide +kernel
theorem dX10_marks_136 : decode cX10_marks 136 = .ok (.iconst 0, 1) := by decide +kernel
theorem dX10_marks_137 : decode cX10_marks 137 = .ok (.iadd, 1) := by decide +kernel
theorem dX10_marks_138 : decode cX10_marks 138 = .ok (.istore 6, 2) := by decide +kernel
theorem dX10_marks_140 : decode cX10_marks 140 = .ok (.iload 6, 2) := by decide +kernel
theorem dX10_marks_142 : decode cX10_marks 142 = .ok (.iload 8, 2) := by decide +kernel
theorem dX10_marks_144 : decode cX10_marks 144 = .ok (.bipush 16, 2) := by decide +kernel
theorem dX10_marks_146 : decode cX10_marks 146 = .ok (.iand, 1) := by decide +kernel
theorem dX10_marks_147 : decode cX10_marks 147 = .ok (.ifCond .eq 8, 3) := by decide +kernel
theorem dX10_marks_150 : decode cX10_marks 150 = .ok (.iload 5, 2) := by decide +kernel
theorem dX10_marks_152 : decode cX10_marks 152 = .ok (.goto 4, 3) := by decide +kernel
theorem dX10_marks_155 : decode cX10_marks 155 = .ok (.iconst 0, 1) := by decide +kernel
theorem dX10_marks_156 : decode cX10_marks 156 = .ok (.iadd, 1) := by decide +kernel
theorem dX10_marks_157 : decode cX10_marks 157 = .ok (.istore 6, 2) := by decide +kernel
theorem dX10_marks_159 : decode cX10_marks 159 = .ok (.iinc 7 1, 3) := by decide +kernel
theorem dX10_marks_162 : decode cX10_marks 162 = .ok (.goto (-112), 3) := by decide +kernel
theorem dX10_marks_165 : decode cX10_marks 165 = .ok (.iload 6, 2) := by decide +kernel
theorem dX10_marks_167 : decode cX10_marks 167 = .ok (.ireturn, 1) := by decide +kernel
theorem dX10_refresh_0 : decode cX10_refresh 0 = .ok (.aload_n 0, 1) := by decide +kernel
theorem dX10_refresh_1 : decode cX10_refresh 1 = .ok (.invokevirtual 202, 3) := by decide +kernel
theorem dX10_refresh_4 : decode cX10_refresh 4 = .ok (.aload_n 0, 1) := by decide +kernel
theorem dX10_refresh_5 : decode cX10_refresh 5 = .ok (.getfield 136, 3) := by decide +kernel
theorem dX10_refresh_8 : decode cX10_refresh 8 = .ok (.ifCond .eq 12, 3) := by decide +kernel
theorem dX10_refresh_11 : decode cX10_refresh 11 = .ok (.aload_n 0, 1) := by decide +kernel
theorem dX10_refresh_12 : decode cX10_refresh 12 = .ok (.invokevirtual 233, 3) := by decide +kernel
theorem dX10_refresh_15 : decode cX10_refresh 15 = .ok (.aload_n 0, 1) := by decide +kernel
theorem dX10_refresh_16 : decode cX10_refresh 16 = .ok (.iconst 0, 1) := by decide +kernel
theorem dX10_refresh_17 : decode cX10_refresh 17 = .ok (.putfield 136, 3) := by decide +kernel
theorem dX10_refresh_20 : decode cX10_refresh 20 = .ok (.return_, 1) := by decide +kernel
theorem dX10_growTree_0 : decode cX10_growTree 0 = .ok (.aload_n 0, 1) := by decide +kernel
theorem dX10_growTree_1 : decode cX10_growTree 1 = .ok (.getfield 45, 3) := by decide +kernel
theorem dX10_growTree_4 : decode cX10_growTree 4 = .ok (.getfield 149, 3) := by decide +kernel
theorem dX10_growTree_7 : decode cX10_growTree 7 = .ok (.istore_n 1, 1) := by decide +kernel
theorem dX10_growTree_8 : decode cX10_growTree 8 = .ok (.iconst 0, 1) := by decide +kernel
theorem dX10_growTree_9 : decode cX10_growTree 9 = .ok (.istore_n 2, 1) := by decide +kernel
theorem dX10_growTree_10 : decode cX10_growTree 10 = .ok (.iload_n 2, 1) := by decide +kernel
theorem dX10_growTree_11 : decode cX10_growTree 11 = .ok (.iload_n 1, 1) := by decide +kernel
theorem dX10_growTree_12 : decode cX10_growTree 12 = .ok (.if_icmp .ge 77, 3) := by decide +kernel
theorem dX10_growTree_15 : decode cX10_growTree 15 = .ok (.aload_n 0, 1) := by decide +kernel
theorem dX10_growTree_16 : decode cX10_growTree 16 = .ok (.getfield 69, 3) := by decide +kernel
theorem dX10_growTree_19 : decode cX10_growTree 19 = .ok (.getfield 236, 3) := by decide +kernel
theorem dX10_growTree_22 : decode cX10_growTree 22 = .ok (.iload_n 2, 1) := by decide +kernel
theorem dX10_growTree_23 : decode cX10_growTree 23 = .ok (.aload_n 0, 1) := by decide +kernel
theorem dX10_growTree_24 : decode cX10_growTree 24 = .ok (.iload_n 2, 1) := by decide +kernel
theorem dX10_growTree_25 : decode cX10_growTree 25 = .ok (.invokevirtual 239, 3) := by decide +kernel
theorem dX10_growTree_28 : decode cX10_growTree 28 = .ok (.invokestatic 242, 3) := by decide +kernel
theorem dX10_growTree_31 : decode cX10_growTree 31 = .ok (.ifCond .eq 12, 3) := by decide +kernel
theorem dX10_growTree_34 : decode cX10_growTree 34 = .ok (.aload_n 0, 1) := by decide +kernel
theorem dX10_growTree_35 : decode cX10_growTree 35 = .ok (.getfield 31, 3) := by decide +kernel
theorem dX10_growTree_38 : decode cX10_growTree 38 = .ok (.iconst 2, 1) := by decide +kernel
theorem dX10_growTree_39 : decode cX10_growTree 39 = .ok (.iaload, 1) := by decide +kernel
theorem dX10_growTree_40 : decode cX10_growTree 40 = .ok (.goto 4, 3) := by decide +kernel
theorem dX10_growTree_43 : decode cX10_growTree 43 = .ok (.iconst 0, 1) := by decide +kernel
theorem dX10_growTree_44 : decode cX10_growTree 44 = .ok (.iastore, 1) := by decide +kernel
theorem dX10_growTree_45 : decode cX10_growTree 45 = .ok (.iconst 0, 1) := by decide +kernel
theorem dX10_growTree_46 : decode cX10_growTree 46 = .ok (.istore_n 3, 1) := by decide +kernel
theorem dX10_growTree_47 : decode cX10_growTree 47 = .ok (.iload_n 3, 1) := by decide +kernel
theorem dX10_growTree_48 : decode cX10_growTree 48 = .ok (.iload_n 1, 1) := by decide +kernel
theorem dX10_growTree_49 : decode cX10_growTree 49 = .ok (.if_icmp .ge 34, 3) := by decide +kernel
theorem dX10_growTree_52 : decode cX10_growTree 52 = .ok (.iload_n 2, 1) := by decide +kernel
theorem dX10_growTree_53 : decode cX10_growTree 53 = .ok (.iload_n 3, 1) := by decide +kernel
theorem dX10_growTree_54 : decode cX10_growTree 54 = .ok (.if_icmp .eq 23, 3) := by decide +kernel
theorem dX10_growTree_57 : decode cX10_growTree 57 = .ok (.aload_n 0, 1) := by decide +kernel
theorem dX10_growTree_58 : decode cX10_growTree 58 = .ok (.getfield 69, 3) := by decide +kernel
theorem dX10_growTree_61 : decode cX10_growTree 61 = .ok (.getfield 245, 3) := by decide +kernel
theorem dX10_growTree_64 : decode cX10_growTree 64 = .ok (.iload_n 2, 1) := by decide +kernel
theorem dX10_growTree_65 : decode cX10_growTree 65 = .ok (.bipush 24, 2) := by decide +kernel
theorem dX10_growTree_67 : decode cX10_growTree 67 = .ok (.imul, 1) := by decide +kernel
theorem dX10_growTree_68 : decode cX10_growTree 68 = .ok (.iload_n 3, 1) := by decide +kernel
theorem dX10_growTree_69 : decode cX10_growTree 69 = .ok (.iadd, 1) := by decide +kernel
theorem dX10_growTree_70 : decode cX10_growTree 70 = .ok (.aload_n 0, 1) := by decide +kernel
theorem dX10_growTree_71 : decode cX10_growTree 71 = .ok (.iload_n 2, 1) := by decide +kernel
theorem dX10_growTree_72 : decode cX10_growTree 72 = .ok (.iload_n 3, 1) := by decide +kernel
theorem dX10_growTree_73 : decode cX10_growTree 73 = .ok (.invokevirtual 216, 3) := by decide +kernel
theorem dX10_growTree_76 : decode cX10_growTree 76 = .ok (.iastore, 1) := by decide +kernel
theorem dX10_growTree_77 : decode cX10_growTree 77 = .ok (.iinc 3 1, 3) := by decide +kernel
theorem dX10_growTree_80 : decode cX10_growTree 80 = .ok (.goto (-33), 3) := by decide +kernel
theorem dX10_growTree_83 : decode cX10_growTree 83 = .ok (.iinc 2 1, 3) := by decide +kernel
theorem dX10_growTree_86 : decode cX10_growTree 86 = .ok (.goto (-76), 3) := by decide +kernel
theorem dX10_growTree_89 : decode cX10_growTree 89 = .ok (.aload_n 0, 1) := by decide +kernel
theorem dX10_growTree_90 : decode cX10_growTree 90 = .ok (.getfield 69, 3) := by decide +kernel
theorem dX10_growTree_93 : decode cX10_growTree 93 = .ok (.iload_n 1, 1) := by decide +kernel
theorem dX10_growTree_94 : decode cX10_growTree 94 = .ok (.invokevirtual 247, 3) := by decide +kernel
theorem dX10_growTree_97 : decode cX10_growTree 97 = .ok (.iconst 0, 1) := by decide +kernel
theorem dX10_growTree_98 : decode cX10_growTree 98 = .ok (.istore_n 2, 1) := by decide +kernel
theorem dX10_growTree_99 : decode cX10_growTree 99 = .ok (.iload_n 2, 1) := by decide +kernel
theorem dX10_growTree_100 : decode cX10_growTree 100 = .ok (.iload_n 1, 1) := by decide +kernel
theorem dX10_growTree_101 : decode cX10_growTree 101 = .ok (.if_icmp .ge 26, 3) := by decide +kernel
theorem dX10_growTree_104 : decode cX10_growTree 104 = .ok (.aload_n 0, 1) := by decide +kernel
theorem dX10_growTree_105 : decode cX10_growTree 105 = .ok (.getfield 76, 3) := by decide +kernel
theorem dX10_growTree_108 : decode cX10_growTree 108 = .ok (.getfield 181, 3) := by decide +kernel
theorem dX10_growTree_111 : decode cX10_growTree 111 = .ok (.iload_n 2, 1) := by decide +kernel
theorem dX10_growTree_112 : decode cX10_growTree 112 = .ok (.aload_n 0, 1) := by decide +kernel
theorem dX10_growTree_113 : decode cX10_growTree 113 = .ok (.getfield 69, 3) := by decide +kernel
theorem dX10_growTree_116 : decode cX10_growTree 116 = .ok (.iload_n 2, 1) := by decide +kernel
theorem dX10_growTree_117 : decode cX10_growTree 117 = .ok (.invokevirtual 250, 3) := by decide +kernel
theorem dX10_growTree_120 : decode cX10_growTree 120 = .ok (.iastore, 1) := by decide +kernel
theorem dX10_growTree_121 : decode cX10_growTree 121 = .ok (.iinc 2 1, 3) := by decide +kernel
theorem dX10_growTree_124 : decode cX10_growTree 124 = .ok (.goto (-25), 3) := by decide +kernel
theorem dX10_growTree_127 : decode cX10_growTree 127 = .ok (.aload_n 0, 1) := by decide +kernel
theorem dX10_growTree_128 : decode cX10_growTree 128 = .ok (.getfield 76, 3) := by decide +kernel
theorem dX10_growTree_131 : decode cX10_growTree 131 = .ok (.iload_n 1, 1) := by decide +kernel
theorem dX10_growTree_132 : decode cX10_growTree 132 = .ok (.invokevirtual 253, 3) := by decide +kernel
theorem dX10_growTree_135 : decode cX10_growTree 135 = .ok (.return_, 1) := by decide +kernel
theorem dX10_hangCost_0 : decode cX10_hangCost 0 = .ok (.iload_n 1, 1) := by decide +kernel
theorem dX10_hangCost_1 : decode cX10_hangCost 1 = .ok (.iload_n 2, 1) := by decide +kernel
theorem dX10_hangCost_2 : decode cX10_hangCost 2 = .ok (.isub, 1) := by decide +kernel
theorem dX10_hangCost_3 : decode cX10_hangCost 3 = .ok (.invokestatic 256, 3) := by decide +kernel
theorem dX10_hangCost_6 : decode cX10_hangCost 6 = .ok (.iconst 1, 1) := by decide +kernel
theorem dX10_hangCost_7 : decode cX10_hangCost 7 = .ok (.isub, 1) := by decide +kernel
theorem dX10_hangCost_8 : decode cX10_hangCost 8 = .ok (.istore_n 3, 1) := by decide +kernel
theorem dX10_hangCost_9 : decode cX10_hangCost 9 = .ok (.iconst 4, 1) := by decide +kernel
theorem dX10_hangCost_10 : decode cX10_hangCost 10 = .ok (.iconst 4, 1) := by decide +kernel
theorem dX10_hangCost_11 : decode cX10_hangCost 11 = .ok (.aload_n 0, 1) := by decide +kernel
theorem dX10_hangCost_12 : decode cX10_hangCost 12 = .ok (.iload_n 1, 1) := by decide +kernel
theorem dX10_hangCost_13 : decode cX10_hangCost 13 = .ok (.iload_n 2, 1) := by decide +kernel
theorem dX10_hangCost_14 : decode cX10_hangCost 14 = .ok (.invokevirtual 205, 3) := by decide +kernel
theorem dX10_hangCost_17 : decode cX10_hangCost 17 = .ok (.invokestatic 261, 3) := by decide +kernel
theorem dX10_hangCost_20 : decode cX10_hangCost 20 = .ok (.isub, 1) := by decide +kernel
theorem dX10_hangCost_21 : decode cX10_hangCost 21 = .ok (.istore 4, 2) := by decide +kernel
theorem dX10_hangCost_23 : decode cX10_hangCost 23 = .ok (.aload_n 0, 1) := by decide +kernel
theorem dX10_hangCost_24 : decode cX10_hangCost 24 = .ok (.getfield 31, 3) := by decide +kernel
theorem dX10_hangCost_27 : decode cX10_hangCost 27 = .ok (.iconst 0, 1) := by decide +kernel
theorem dX10_hangCost_28 : decode cX10_hangCost 28 = .ok (.iaload, 1) := by decide +kernel
theorem dX10_hangCost_29 : decode cX10_hangCost 29 = .ok (.iload_n 3, 1) := by decide +kernel
theorem dX10_hangCost_30 : decode cX10_hangCost 30 = .ok (.imul, 1) := by decide +kernel
theorem dX10_hangCost_31 : decode cX10_hangCost 31 = .ok (.aload_n 0, 1) := by decide +kernel
theorem dX10_hangCost_32 : decode cX10_hangCost 32 = .ok (.getfield 31, 3) := by decide +kernel
theorem dX10_hangCost_35 : decode cX10_hangCost 35 = .ok (.iconst 1, 1) := by decide +kernel
theorem dX10_hangCost_36 : decode cX10_hangCost 36 = .ok (.iaload, 1) := by decide +kernel
theorem dX10_hangCost_37 : decode cX10_hangCost 37 = .ok (.iload 4, 2) := by decide +kernel
theorem dX10_hangCost_39 : decode cX10_hangCost 39 = .ok (.imul, 1) := by decide +kernel
theorem dX10_hangCost_40 : decode cX10_hangCost 40 = .ok (.iadd, 1) := by decide +kernel
theorem dX10_hangCost_41 : decode cX10_hangCost 41 = .ok (.istore 5, 2) := by decide +kernel
theorem dX10_hangCost_43 : decode cX10_hangCost 43 = .ok (.aload_n 0, 1) := by decide +kernel
theorem dX10_hangCost_44 : decode cX10_hangCost 44 = .ok (.getfield 45, 3) := by decide +kernel
theorem dX10_hangCost_47 : decode cX10_hangCost 47 = .ok (.getfield 178, 3) := by decide +kernel
theorem dX10_hangCost_50 : decode cX10_hangCost 50 = .ok (.iload_n 1, 1) := by decide +kernel
theorem dX10_hangCost_51 : decode cX10_hangCost 51 = .ok (.iaload, 1) := by decide +kernel
theorem dX10_hangCost_52 : decode cX10_hangCost 52 = .ok (.aload_n 0, 1) := by decide +kernel
theorem dX10_hangCost_53 : decode cX10_hangCost 53 = .ok (.getfield 45, 3) := by decide +kernel
theorem dX10_hangCost_56 : decode cX10_hangCost 56 = .ok (.getfield 178, 3) := by decide +kernel
theorem dX10_hangCost_59 : decode cX10_hangCost 59 = .ok (.iload_n 2, 1) := by decide +kernel
theorem dX10_hangCost_60 : decode cX10_hangCost 60 = .ok (.iaload, 1) := by decide +kernel
theorem dX10_hangCost_61 : decode cX10_hangCost 61 = .ok (.if_icmp .eq 14, 3) := by decide +kernel
theorem dX10_hangCost_64 : decode cX10_hangCost 64 = .ok (.iload 5, 2) := by decide +kernel
theorem dX10_hangCost_66 : decode cX10_hangCost 66 = .ok (.aload_n 0, 1) := by decide +kernel
theorem dX10_hangCost_67 : decode cX10_hangCost 67 = .ok (.getfield 31, 3) := by decide +kernel
theorem dX10_hangCost_70 : decode cX10_hangCost 70 = .ok (.iconst 3, 1) := by decide +kernel
theorem dX10_hangCost_71 : decode cX10_hangCost 71 = .ok (.iaload, 1) := by decide +kernel
theorem dX10_hangCost_72 : decode cX10_hangCost 72 = .ok (.iadd, 1) := by decide +kernel
theorem dX10_hangCost_73 : decode cX10_hangCost 73 = .ok (.istore 5, 2) := by decide +kernel
theorem dX10_hangCost_75 : decode cX10_hangCost 75 = .ok (.aload_n 0, 1) := by decide +kernel
theorem dX10_hangCost_76 : decode cX10_hangCost 76 = .ok (.iload_n 1, 1) := by decide +kernel
theorem dX10_hangCost_77 : decode cX10_hangCost 77 = .ok (.iload_n 2, 1) := by decide +kernel
theorem dX10_hangCost_78 : decode cX10_hangCost 78 = .ok (.invokevirtual 264, 3) := by decide +kernel
theorem dX10_hangCost_81 : decode cX10_hangCost 81 = .ok (.ifCond .eq 14, 3) := by decide +kernel
theorem dX10_hangCost_84 : decode cX10_hangCost 84 = .ok (.iload 5, 2) := by decide +kernel
theorem dX10_hangCost_86 : decode cX10_hangCost 86 = .ok (.aload_n 0, 1) := by decide +kernel
theorem dX10_hangCost_87 : decode cX10_hangCost 87 = .ok (.getfield 31, 3) := by decide +kernel
theorem dX10_hangCost_90 : decode cX10_hangCost 90 = .ok (.iconst 2, 1) := by decide +kernel
theorem dX10_hangCost_91 : decode cX10_hangCost 91 = .ok (.iaload, 1) := by decide +kernel
theorem dX10_hangCost_92 : decode cX10_hangCost 92 = .ok (.iadd, 1) := by decide +kernel
theorem dX10_hangCost_93 : decode cX10_hangCost 93 = .ok (.istore 5, 2) := by decide +kernel
theorem dX10_hangCost_95 : decode cX10_hangCost 95 = .ok (.iload 5, 2) := by decide +kernel
theorem dX10_hangCost_97 : decode cX10_hangCost 97 = .ok (.ireturn, 1) := by decide +kernel
theorem dX10_isAgainstSign_0 : decode cX10_isAgainstSign 0 = .ok (.aload_n 0, 1) := by decide +kernel
theorem dX10_isAgainstSign_1 : decode cX10_isAgainstSign 1 = .ok (.iload_n 2, 1) := by decide +kernel
theorem dX10_isAgainstSign_2 : decode cX10_isAgainstSign 2 = .ok (.invokevirtual 239, 3) := by decide +kernel
theorem dX10_isAgainstSign_5 : decode cX10_isAgainstSign 5 = .ok (.tableswitch 77 1 4 #[31, 42, 53, 66], 31) := by decide +kernel
theorem dX10_isAgainstSign_36 : decode cX10_isAgainstSign 36 = .ok (.iload_n 1, 1) := by decide +kernel
theorem dX10_isAgainstSign_37 : decode cX10_isAgainstSign 37 = .ok (.iload_n 2, 1) := by decide +kernel
theorem dX10_isAgainstSign_38 : decode cX10_isAgainstSign 38 = .ok (.if_icmp .le 7, 3) := by decide +kernel
theorem dX10_isAgainstSign_41 : decode cX10_isAgainstSign 41 = .ok (.iconst 1, 1) := by decide +kernel
theorem dX10_isAgainstSign_42 : decode cX10_isAgainstSign 42 = .ok (.goto 4, 3) := by decide +kernel
theorem dX10_isAgainstSign_45 : decode cX10_isAgainstSign 45 = .ok (.iconst 0, 1) := by decide +kernel
theorem dX10_isAgainstSign_46 : decode cX10_isAgainstSign 46 = .ok (.ireturn, 1) := by decide +kernel
theorem dX10_isAgainstSign_47 : decode cX10_isAgainstSign 47 = .ok (.iload_n 1, 1) := by decide +kernel
theorem dX10_isAgainstSign_48 : decode cX10_isAgainstSign 48 = .ok (.iload_n 2, 1) := by decide +kernel
theorem dX10_isAgainstSign_49 : decode cX10_isAgainstSign 49 = .ok (.if_icmp .le 7, 3) := by decide +kernel
theorem dX10_isAgainstSign_52 : decode cX10_isAgainstSign 52 = .ok (.iconst 1, 1) := by decide +kernel
theorem dX10_isAgainstSign_53 : decode cX10_isAgainstSign 53 = .ok (.goto 4, 3) := by decide +kernel
theorem dX10_isAgainstSign_56 : decode cX10_isAgainstSign 56 = .ok (.iconst 0, 1) := by decide +kernel
theorem dX10_isAgainstSign_57 : decode cX10_isAgainstSign 57 = .ok (.ireturn, 1) := by decide +kernel
theorem dX10_isAgainstSign_58 : decode cX10_isAgainstSign 58 = .ok (.iload_n 1, 1) := by decide +kernel
theorem dX10_isAgainstSign_59 : decode cX10_isAgainstSign 59 = .ok (.iload_n 2, 1) := by decide +kernel
theorem dX10_isAgainstSign_60 : decode cX10_isAgainstSign 60 = .ok (.iconst 1, 1) := by decide +kernel
theorem dX10_isAgainstSign_61 : decode cX10_isAgainstSign 61 = .ok (.isub, 1) := by decide +kernel
theorem dX10_isAgainstSign_62 : decode cX10_isAgainstSign 62 = .ok (.if_icmp .eq 7, 3) := by decide +kernel
theorem dX10_isAgainstSign_65 : decode cX10_isAgainstSign 65 = .ok (.iconst 1, 1) := by decide +kernel
theorem dX10_isAgainstSign_66 : decode cX10_isAgainstSign 66 = .ok (.goto 4, 3) := by decide +kernel
theorem dX10_isAgainstSign_69 : decode cX10_isAgainstSign 69 = .ok (.iconst 0, 1) := by decide +kernel
theorem dX10_isAgainstSign_70 : decode cX10_isAgainstSign 70 = .ok (.ireturn, 1) := by decide +kernel
theorem dX10_isAgainstSign_71 : decode cX10_isAgainstSign 71 = .ok (.iload_n 1, 1) := by decide +kernel
theorem dX10_isAgainstSign_72 : decode cX10_isAgainstSign 72 = .ok (.iload_n 2, 1) := by decide +kernel
theorem dX10_isAgainstSign_73 : decode cX10_isAgainstSign 73 = .ok (.if_icmp .ge 7, 3) := by decide +kernel
theorem dX10_isAgainstSign_76 : decode cX10_isAgainstSign 76 = .ok (.iconst 1, 1) := by decide +kernel
theorem dX10_isAgainstSign_77 : decode cX10_isAgainstSign 77 = .ok (.goto 4, 3) := by decide +kernel
theorem dX10_isAgainstSign_80 : decode cX10_isAgainstSign 80 = .ok (.iconst 0, 1) := by decide +kernel
theorem dX10_isAgainstSign_81 : decode cX10_isAgainstSign 81 = .ok (.ireturn, 1) := by decide +kernel
theorem dX10_isAgainstSign_82 : decode cX10_isAgainstSign 82 = .ok (.iconst 0, 1) := by decide +kernel
theorem dX10_isAgainstSign_83 : decode cX10_isAgainstSign 83 = .ok (.ireturn, 1) := by decide +kernel
theorem dX10_isBound_0 : decode cX10_isBound 0 = .ok (.iload_n 0, 1) := by decide +kernel
theorem dX10_isBound_1 : decode cX10_isBound 1 = .ok (.iconst 1, 1) := by decide +kernel
theorem dX10_isBound_2 : decode cX10_isBound 2 = .ok (.if_icmp .eq 13, 3) := by decide +kernel
theorem dX10_isBound_5 : decode cX10_isBound 5 = .ok (.iload_n 0, 1) := by decide +kernel
theorem dX10_isBound_6 : decode cX10_isBound 6 = .ok (.iconst 2, 1) := by decide +kernel
theorem dX10_isBound_7 : decode cX10_isBound 7 = .ok (.if_icmp .eq 8, 3) := by decide +kernel
theorem dX10_isBound_10 : decode cX10_isBound 10 = .ok (.iload_n 0, 1) := by decide +kernel
theorem dX10_isBound_11 : decode cX10_isBound 11 = .ok (.iconst 3, 1) := by decide +kernel
theorem dX10_isBound_12 : decode cX10_isBound 12 = .ok (.if_icmp .ne 7, 3) := by decide +kernel
theorem dX10_isBound_15 : decode cX10_isBound 15 = .ok (.iconst 1, 1) := by decide +kernel
theorem dX10_isBound_16 : decode cX10_isBound 16 = .ok (.goto 4, 3) := by decide +kernel
theorem dX10_isBound_19 : decode cX10_isBound 19 = .ok (.iconst 0, 1) := by decide +kernel
theorem dX10_isBound_20 : decode cX10_isBound 20 = .ok (.ireturn, 1) := by decide +kernel
theorem dX10_isNoPoint_0 : decode cX10_isNoPoint 0 = .ok (.iload_n 0, 1) := by decide +kernel
theorem dX10_isNoPoint_1 : decode cX10_isNoPoint 1 = .ok (.bipush (-100), 2) := by decide +kernel
theorem dX10_isNoPoint_3 : decode cX10_isNoPoint 3 = .ok (.if_icmp .lt 9, 3) := by decide +kernel
theorem dX10_isNoPoint_6 : decode cX10_isNoPoint 6 = .ok (.iload_n 0, 1) := by decide +kernel
theorem dX10_isNoPoint_7 : decode cX10_isNoPoint 7 = .ok (.bipush 100, 2) := by decide +kernel
theorem dX10_isNoPoint_9 : decode cX10_isNoPoint 9 = .ok (.if_icmp .le 7, 3) := by decide +kernel
theorem dX10_isNoPoint_12 : decode cX10_isNoPoint 12 = .ok (.iconst 1, 1) := by decide +kernel
theorem dX10_isNoPoint_13 : decode cX10_isNoPoint 13 = .ok (.goto 4, 3) := by decide +kernel
theorem dX10_isNoPoint_16 : decode cX10_isNoPoint 16 = .ok (.iconst 0, 1) := by decide +kernel
theorem dX10_isNoPoint_17 : decode cX10_isNoPoint 17 = .ok (.ireturn, 1) := by decide +kernel
theorem dX10_findings_0 : decode cX10_findings 0 = .ok (.aload_n 0, 1) := by decide +kernel
theorem dX10_findings_1 : decode cX10_findings 1 = .ok (.iload_n 1, 1) := by decide +kernel
theorem dX10_findings_2 : decode cX10_findings 2 = .ok (.invokevirtual 239, 3) := by decide +kernel
theorem dX10_findings_5 : decode cX10_findings 5 = .ok (.istore_n 2, 1) := by decide +kernel
theorem dX10_findings_6 : decode cX10_findings 6 = .ok (.iconst 0, 1) := by decide +kernel
theorem dX10_findings_7 : decode cX10_findings 7 = .ok (.istore_n 3, 1) := by decide +kernel
theorem dX10_findings_8 : decode cX10_findings 8 = .ok (.iload_n 2, 1) := by decide +kernel
