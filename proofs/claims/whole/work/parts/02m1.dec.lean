theorem dX11_read_12 : decode cX11_read 12 = .ok (.putfield 186, 3) := by decide +kernel
theorem dX11_read_15 : decode cX11_read 15 = .ok (.aload_n 0, 1) := by decide +kernel
theorem dX11_read_16 : decode cX11_read 16 = .ok (.iconst (-1), 1) := by decide +kernel
theorem dX11_read_17 : decode cX11_read 17 = .ok (.putfield 68, 3) := by decide +kernel
theorem dX11_read_20 : decode cX11_read 20 = .ok (.aload_n 0, 1) := by decide +kernel
theorem dX11_read_21 : decode cX11_read 21 = .ok (.iload_n 1, 1) := by decide +kernel
theorem dX11_read_22 : decode cX11_read 22 = .ok (.invokevirtual 193, 3) := by decide +kernel
theorem dX11_read_25 : decode cX11_read 25 = .ok (.istore_n 2, 1) := by decide +kernel
theorem dX11_read_26 : decode cX11_read 26 = .ok (.iload_n 2, 1) := by decide +kernel
theorem dX11_read_27 : decode cX11_read 27 = .ok (.iconst (-1), 1) := by decide +kernel
theorem dX11_read_28 : decode cX11_read 28 = .ok (.if_icmp .ne 5, 3) := by decide +kernel
theorem dX11_read_31 : decode cX11_read 31 = .ok (.iconst (-1), 1) := by decide +kernel
theorem dX11_read_32 : decode cX11_read 32 = .ok (.ireturn, 1) := by decide +kernel
theorem dX11_read_33 : decode cX11_read 33 = .ok (.aload_n 0, 1) := by decide +kernel
theorem dX11_read_34 : decode cX11_read 34 = .ok (.iload_n 2, 1) := by decide +kernel
theorem dX11_read_35 : decode cX11_read 35 = .ok (.putfield 196, 3) := by decide +kernel
theorem dX11_read_38 : decode cX11_read 38 = .ok (.aload_n 0, 1) := by decide +kernel
theorem dX11_read_39 : decode cX11_read 39 = .ok (.iconst 0, 1) := by decide +kernel
theorem dX11_read_40 : decode cX11_read 40 = .ok (.putfield 199, 3) := by decide +kernel
theorem dX11_read_43 : decode cX11_read 43 = .ok (.iconst 0, 1) := by decide +kernel
theorem dX11_read_44 : decode cX11_read 44 = .ok (.istore_n 3, 1) := by decide +kernel
theorem dX11_read_45 : decode cX11_read 45 = .ok (.iload_n 3, 1) := by decide +kernel
theorem dX11_read_46 : decode cX11_read 46 = .ok (.aload_n 0, 1) := by decide +kernel
theorem dX11_read_47 : decode cX11_read 47 = .ok (.getfield 196, 3) := by decide +kernel
theorem dX11_read_50 : decode cX11_read 50 = .ok (.if_icmp .ge 129, 3) := by decide +kernel
theorem dX11_read_53 : decode cX11_read 53 = .ok (.aload_n 0, 1) := by decide +kernel
theorem dX11_read_54 : decode cX11_read 54 = .ok (.getfield 47, 3) := by decide +kernel
theorem dX11_read_57 : decode cX11_read 57 = .ok (.iload_n 3, 1) := by decide +kernel
theorem dX11_read_58 : decode cX11_read 58 = .ok (.aload_n 0, 1) := by decide +kernel
theorem dX11_read_59 : decode cX11_read 59 = .ok (.getfield 56, 3) := by decide +kernel
theorem dX11_read_62 : decode cX11_read 62 = .ok (.iload_n 3, 1) := by decide +kernel
theorem dX11_read_63 : decode cX11_read 63 = .ok (.iaload, 1) := by decide +kernel
theorem dX11_read_64 : decode cX11_read 64 = .ok (.iastore, 1) := by decide +kernel
theorem dX11_read_65 : decode cX11_read 65 = .ok (.aload_n 0, 1) := by decide +kernel
theorem dX11_read_66 : decode cX11_read 66 = .ok (.getfield 62, 3) := by decide +kernel
theorem dX11_read_69 : decode cX11_read 69 = .ok (.iload_n 3, 1) := by decide +kernel
theorem dX11_read_70 : decode cX11_read 70 = .ok (.aload_n 0, 1) := by decide +kernel
theorem dX11_read_71 : decode cX11_read 71 = .ok (.getfield 59, 3) := by decide +kernel
theorem dX11_read_74 : decode cX11_read 74 = .ok (.iload_n 3, 1) := by decide +kernel
theorem dX11_read_75 : decode cX11_read 75 = .ok (.iaload, 1) := by decide +kernel
theorem dX11_read_76 : decode cX11_read 76 = .ok (.iastore, 1) := by decide +kernel
theorem dX11_read_77 : decode cX11_read 77 = .ok (.aload_n 0, 1) := by decide +kernel
theorem dX11_read_78 : decode cX11_read 78 = .ok (.getfield 65, 3) := by decide +kernel
theorem dX11_read_81 : decode cX11_read 81 = .ok (.iload_n 3, 1) := by decide +kernel
theorem dX11_read_82 : decode cX11_read 82 = .ok (.iload_n 3, 1) := by decide +kernel
theorem dX11_read_83 : decode cX11_read 83 = .ok (.iastore, 1) := by decide +kernel
theorem dX11_read_84 : decode cX11_read 84 = .ok (.bipush 40, 2) := by decide +kernel
theorem dX11_read_86 : decode cX11_read 86 = .ok (.iload_n 3, 1) := by decide +kernel
theorem dX11_read_87 : decode cX11_read 87 = .ok (.imul, 1) := by decide +kernel
theorem dX11_read_88 : decode cX11_read 88 = .ok (.istore 4, 2) := by decide +kernel
theorem dX11_read_90 : decode cX11_read 90 = .ok (.iload 4, 2) := by decide +kernel
theorem dX11_read_92 : decode cX11_read 92 = .ok (.bipush 40, 2) := by decide +kernel
theorem dX11_read_94 : decode cX11_read 94 = .ok (.iload_n 3, 1) := by decide +kernel
theorem dX11_read_95 : decode cX11_read 95 = .ok (.imul, 1) := by decide +kernel
theorem dX11_read_96 : decode cX11_read 96 = .ok (.aload_n 0, 1) := by decide +kernel
theorem dX11_read_97 : decode cX11_read 97 = .ok (.getfield 47, 3) := by decide +kernel
theorem dX11_read_100 : decode cX11_read 100 = .ok (.iload_n 3, 1) := by decide +kernel
theorem dX11_read_101 : decode cX11_read 101 = .ok (.iaload, 1) := by decide +kernel
theorem dX11_read_102 : decode cX11_read 102 = .ok (.iadd, 1) := by decide +kernel
theorem dX11_read_103 : decode cX11_read 103 = .ok (.if_icmp .ge 70, 3) := by decide +kernel
theorem dX11_read_106 : decode cX11_read 106 = .ok (.aload_n 0, 1) := by decide +kernel
theorem dX11_read_107 : decode cX11_read 107 = .ok (.getfield 44, 3) := by decide +kernel
theorem dX11_read_110 : decode cX11_read 110 = .ok (.iload 4, 2) := by decide +kernel
theorem dX11_read_112 : decode cX11_read 112 = .ok (.aload_n 0, 1) := by decide +kernel
theorem dX11_read_113 : decode cX11_read 113 = .ok (.getfield 53, 3) := by decide +kernel
theorem dX11_read_116 : decode cX11_read 116 = .ok (.iload 4, 2) := by decide +kernel
theorem dX11_read_118 : decode cX11_read 118 = .ok (.iaload, 1) := by decide +kernel
theorem dX11_read_119 : decode cX11_read 119 = .ok (.iastore, 1) := by decide +kernel
theorem dX11_read_120 : decode cX11_read 120 = .ok (.iconst 0, 1) := by decide +kernel
theorem dX11_read_121 : decode cX11_read 121 = .ok (.istore 5, 2) := by decide +kernel
theorem dX11_read_123 : decode cX11_read 123 = .ok (.iload 5, 2) := by decide +kernel
theorem dX11_read_125 : decode cX11_read 125 = .ok (.aload_n 0, 1) := by decide +kernel
theorem dX11_read_126 : decode cX11_read 126 = .ok (.getfield 44, 3) := by decide +kernel
theorem dX11_read_129 : decode cX11_read 129 = .ok (.iload 4, 2) := by decide +kernel
theorem dX11_read_131 : decode cX11_read 131 = .ok (.iaload, 1) := by decide +kernel
theorem dX11_read_132 : decode cX11_read 132 = .ok (.if_icmp .ge 35, 3) := by decide +kernel
theorem dX11_read_135 : decode cX11_read 135 = .ok (.aload_n 0, 1) := by decide +kernel
theorem dX11_read_136 : decode cX11_read 136 = .ok (.getfield 41, 3) := by decide +kernel
theorem dX11_read_139 : decode cX11_read 139 = .ok (.bipush 16, 2) := by decide +kernel
theorem dX11_read_141 : decode cX11_read 141 = .ok (.iload 4, 2) := by decide +kernel
theorem dX11_read_143 : decode cX11_read 143 = .ok (.imul, 1) := by decide +kernel
theorem dX11_read_144 : decode cX11_read 144 = .ok (.iload 5, 2) := by decide +kernel
theorem dX11_read_146 : decode cX11_read 146 = .ok (.iadd, 1) := by decide +kernel
theorem dX11_read_147 : decode cX11_read 147 = .ok (.aload_n 0, 1) := by decide +kernel
theorem dX11_read_148 : decode cX11_read 148 = .ok (.getfield 50, 3) := by decide +kernel
theorem dX11_read_151 : decode cX11_read 151 = .ok (.bipush 16, 2) := by decide +kernel
theorem dX11_read_153 : decode cX11_read 153 = .ok (.iload 4, 2) := by decide +kernel
theorem dX11_read_155 : decode cX11_read 155 = .ok (.imul, 1) := by decide +kernel
theorem dX11_read_156 : decode cX11_read 156 = .ok (.iload 5, 2) := by decide +kernel
theorem dX11_read_158 : decode cX11_read 158 = .ok (.iadd, 1) := by decide +kernel
theorem dX11_read_159 : decode cX11_read 159 = .ok (.baload, 1) := by decide +kernel
theorem dX11_read_160 : decode cX11_read 160 = .ok (.bastore, 1) := by decide +kernel
theorem dX11_read_161 : decode cX11_read 161 = .ok (.iinc 5 1, 3) := by decide +kernel
theorem dX11_read_164 : decode cX11_read 164 = .ok (.goto (-41), 3) := by decide +kernel
theorem dX11_read_167 : decode cX11_read 167 = .ok (.iinc 4 1, 3) := by decide +kernel
theorem dX11_read_170 : decode cX11_read 170 = .ok (.goto (-80), 3) := by decide +kernel
theorem dX11_read_173 : decode cX11_read 173 = .ok (.iinc 3 1, 3) := by decide +kernel
theorem dX11_read_176 : decode cX11_read 176 = .ok (.goto (-131), 3) := by decide +kernel
theorem dX11_read_179 : decode cX11_read 179 = .ok (.aload_n 0, 1) := by decide +kernel
theorem dX11_read_180 : decode cX11_read 180 = .ok (.aload_n 0, 1) := by decide +kernel
theorem dX11_read_181 : decode cX11_read 181 = .ok (.getfield 62, 3) := by decide +kernel
theorem dX11_read_184 : decode cX11_read 184 = .ok (.aload_n 0, 1) := by decide +kernel
theorem dX11_read_185 : decode cX11_read 185 = .ok (.getfield 196, 3) := by decide +kernel
theorem dX11_read_188 : decode cX11_read 188 = .ok (.iconst 1, 1) := by decide +kernel
theorem dX11_read_189 : decode cX11_read 189 = .ok (.isub, 1) := by decide +kernel
theorem dX11_read_190 : decode cX11_read 190 = .ok (.iaload, 1) := by decide +kernel
theorem dX11_read_191 : decode cX11_read 191 = .ok (.iconst 1, 1) := by decide +kernel
theorem dX11_read_192 : decode cX11_read 192 = .ok (.iadd, 1) := by decide +kernel
theorem dX11_read_193 : decode cX11_read 193 = .ok (.putfield 202, 3) := by decide +kernel
theorem dX11_read_196 : decode cX11_read 196 = .ok (.aload_n 0, 1) := by decide +kernel
theorem dX11_read_197 : decode cX11_read 197 = .ok (.iconst 0, 1) := by decide +kernel
theorem dX11_read_198 : decode cX11_read 198 = .ok (.putfield 176, 3) := by decide +kernel
theorem dX11_read_201 : decode cX11_read 201 = .ok (.aload_n 0, 1) := by decide +kernel
theorem dX11_read_202 : decode cX11_read 202 = .ok (.getfield 196, 3) := by decide +kernel
theorem dX11_read_205 : decode cX11_read 205 = .ok (.ireturn, 1) := by decide +kernel
theorem dX11_fault_0 : decode cX11_fault 0 = .ok (.iload_n 1, 1) := by decide +kernel
theorem dX11_fault_1 : decode cX11_fault 1 = .ok (.ifCond .ne 10, 3) := by decide +kernel
theorem dX11_fault_4 : decode cX11_fault 4 = .ok (.aload_n 0, 1) := by decide +kernel
theorem dX11_fault_5 : decode cX11_fault 5 = .ok (.getfield 186, 3) := by decide +kernel
theorem dX11_fault_8 : decode cX11_fault 8 = .ok (.goto 16, 3) := by decide +kernel
theorem dX11_fault_11 : decode cX11_fault 11 = .ok (.iload_n 1, 1) := by decide +kernel
theorem dX11_fault_12 : decode cX11_fault 12 = .ok (.iconst 1, 1) := by decide +kernel
theorem dX11_fault_13 : decode cX11_fault 13 = .ok (.if_icmp .ne 10, 3) := by decide +kernel
theorem dX11_fault_16 : decode cX11_fault 16 = .ok (.aload_n 0, 1) := by decide +kernel
theorem dX11_fault_17 : decode cX11_fault 17 = .ok (.getfield 68, 3) := by decide +kernel
theorem dX11_fault_20 : decode cX11_fault 20 = .ok (.goto 4, 3) := by decide +kernel
theorem dX11_fault_23 : decode cX11_fault 23 = .ok (.iconst (-1), 1) := by decide +kernel
theorem dX11_fault_24 : decode cX11_fault 24 = .ok (.ireturn, 1) := by decide +kernel
theorem dX11_isHere_0 : decode cX11_isHere 0 = .ok (.iload_n 1, 1) := by decide +kernel
theorem dX11_isHere_1 : decode cX11_isHere 1 = .ok (.iconst 0, 1) := by decide +kernel
theorem dX11_isHere_2 : decode cX11_isHere 2 = .ok (.aload_n 0, 1) := by decide +kernel
theorem dX11_isHere_3 : decode cX11_isHere 3 = .ok (.getfield 196, 3) := by decide +kernel
theorem dX11_isHere_6 : decode cX11_isHere 6 = .ok (.iconst 1, 1) := by decide +kernel
theorem dX11_isHere_7 : decode cX11_isHere 7 = .ok (.isub, 1) := by decide +kernel
theorem dX11_isHere_8 : decode cX11_isHere 8 = .ok (.invokestatic 139, 3) := by decide +kernel
theorem dX11_isHere_11 : decode cX11_isHere 11 = .ok (.ireturn, 1) := by decide +kernel
theorem dX11_folded_0 : decode cX11_folded 0 = .ok (.aload_n 0, 1) := by decide +kernel
theorem dX11_folded_1 : decode cX11_folded 1 = .ok (.getfield 44, 3) := by decide +kernel
theorem dX11_folded_4 : decode cX11_folded 4 = .ok (.iload_n 1, 1) := by decide +kernel
theorem dX11_folded_5 : decode cX11_folded 5 = .ok (.iaload, 1) := by decide +kernel
theorem dX11_folded_6 : decode cX11_folded 6 = .ok (.istore_n 2, 1) := by decide +kernel
theorem dX11_folded_7 : decode cX11_folded 7 = .ok (.iconst 0, 1) := by decide +kernel
theorem dX11_folded_8 : decode cX11_folded 8 = .ok (.istore_n 3, 1) := by decide +kernel
theorem dX11_folded_9 : decode cX11_folded 9 = .ok (.iconst 0, 1) := by decide +kernel
theorem dX11_folded_10 : decode cX11_folded 10 = .ok (.istore 4, 2) := by decide +kernel
theorem dX11_folded_12 : decode cX11_folded 12 = .ok (.iload 4, 2) := by decide +kernel
theorem dX11_folded_14 : decode cX11_folded 14 = .ok (.aload_n 0, 1) := by decide +kernel
theorem dX11_folded_15 : decode cX11_folded 15 = .ok (.getfield 183, 3) := by decide +kernel
theorem dX11_folded_18 : decode cX11_folded 18 = .ok (.if_icmp .ge 88, 3) := by decide +kernel
theorem dX11_folded_21 : decode cX11_folded 21 = .ok (.aload_n 0, 1) := by decide +kernel
theorem dX11_folded_22 : decode cX11_folded 22 = .ok (.getfield 35, 3) := by decide +kernel
theorem dX11_folded_25 : decode cX11_folded 25 = .ok (.iload 4, 2) := by decide +kernel
theorem dX11_folded_27 : decode cX11_folded 27 = .ok (.iaload, 1) := by decide +kernel
theorem dX11_folded_28 : decode cX11_folded 28 = .ok (.iload_n 3, 1) := by decide +kernel
theorem dX11_folded_29 : decode cX11_folded 29 = .ok (.if_icmp .le 71, 3) := by decide +kernel
theorem dX11_folded_32 : decode cX11_folded 32 = .ok (.iload_n 2, 1) := by decide +kernel
theorem dX11_folded_33 : decode cX11_folded 33 = .ok (.aload_n 0, 1) := by decide +kernel
theorem dX11_folded_34 : decode cX11_folded 34 = .ok (.getfield 35, 3) := by decide +kernel
theorem dX11_folded_37 : decode cX11_folded 37 = .ok (.iload 4, 2) := by decide +kernel
theorem dX11_folded_39 : decode cX11_folded 39 = .ok (.iaload, 1) := by decide +kernel
theorem dX11_folded_40 : decode cX11_folded 40 = .ok (.isub, 1) := by decide +kernel
theorem dX11_folded_41 : decode cX11_folded 41 = .ok (.iconst 3, 1) := by decide +kernel
theorem dX11_folded_42 : decode cX11_folded 42 = .ok (.if_icmp .lt 58, 3) := by decide +kernel
theorem dX11_folded_45 : decode cX11_folded 45 = .ok (.aload_n 0, 1) := by decide +kernel
theorem dX11_folded_46 : decode cX11_folded 46 = .ok (.getfield 32, 3) := by decide +kernel
theorem dX11_folded_49 : decode cX11_folded 49 = .ok (.bipush 16, 2) := by decide +kernel
theorem dX11_folded_51 : decode cX11_folded 51 = .ok (.iload 4, 2) := by decide +kernel
theorem dX11_folded_53 : decode cX11_folded 53 = .ok (.imul, 1) := by decide +kernel
theorem dX11_folded_54 : decode cX11_folded 54 = .ok (.aload_n 0, 1) := by decide +kernel
theorem dX11_folded_55 : decode cX11_folded 55 = .ok (.getfield 35, 3) := by decide +kernel
theorem dX11_folded_58 : decode cX11_folded 58 = .ok (.iload 4, 2) := by decide +kernel
theorem dX11_folded_60 : decode cX11_folded 60 = .ok (.iaload, 1) := by decide +kernel
theorem dX11_folded_61 : decode cX11_folded 61 = .ok (.aload_n 0, 1) := by decide +kernel
theorem dX11_folded_62 : decode cX11_folded 62 = .ok (.getfield 41, 3) := by decide +kernel
theorem dX11_folded_65 : decode cX11_folded 65 = .ok (.bipush 16, 2) := by decide +kernel
theorem dX11_folded_67 : decode cX11_folded 67 = .ok (.iload_n 1, 1) := by decide +kernel
theorem dX11_folded_68 : decode cX11_folded 68 = .ok (.imul, 1) := by decide +kernel
theorem dX11_folded_69 : decode cX11_folded 69 = .ok (.iload_n 2, 1) := by decide +kernel
theorem dX11_folded_70 : decode cX11_folded 70 = .ok (.iadd, 1) := by decide +kernel
theorem dX11_folded_71 : decode cX11_folded 71 = .ok (.aload_n 0, 1) := by decide +kernel
theorem dX11_folded_72 : decode cX11_folded 72 = .ok (.getfield 35, 3) := by decide +kernel
theorem dX11_folded_75 : decode cX11_folded 75 = .ok (.iload 4, 2) := by decide +kernel
theorem dX11_folded_77 : decode cX11_folded 77 = .ok (.iaload, 1) := by decide +kernel
theorem dX11_folded_78 : decode cX11_folded 78 = .ok (.isub, 1) := by decide +kernel
theorem dX11_folded_79 : decode cX11_folded 79 = .ok (.aload_n 0, 1) := by decide +kernel
theorem dX11_folded_80 : decode cX11_folded 80 = .ok (.getfield 35, 3) := by decide +kernel
theorem dX11_folded_83 : decode cX11_folded 83 = .ok (.iload 4, 2) := by decide +kernel
theorem dX11_folded_85 : decode cX11_folded 85 = .ok (.iaload, 1) := by decide +kernel
theorem dX11_folded_86 : decode cX11_folded 86 = .ok (.invokestatic 154, 3) := by decide +kernel
theorem dX11_folded_89 : decode cX11_folded 89 = .ok (.ifCond .eq 11, 3) := by decide +kernel
theorem dX11_folded_92 : decode cX11_folded 92 = .ok (.aload_n 0, 1) := by decide +kernel
theorem dX11_folded_93 : decode cX11_folded 93 = .ok (.getfield 35, 3) := by decide +kernel
theorem dX11_folded_96 : decode cX11_folded 96 = .ok (.iload 4, 2) := by decide +kernel
theorem dX11_folded_98 : decode cX11_folded 98 = .ok (.iaload, 1) := by decide +kernel
theorem dX11_folded_99 : decode cX11_folded 99 = .ok (.istore_n 3, 1) := by decide +kernel
theorem dX11_folded_100 : decode cX11_folded 100 = .ok (.iinc 4 1, 3) := by decide +kernel
theorem dX11_folded_103 : decode cX11_folded 103 = .ok (.goto (-91), 3) := by decide +kernel
theorem dX11_folded_106 : decode cX11_folded 106 = .ok (.iload_n 2, 1) := by decide +kernel
theorem dX11_folded_107 : decode cX11_folded 107 = .ok (.iload_n 3, 1) := by decide +kernel
theorem dX11_folded_108 : decode cX11_folded 108 = .ok (.isub, 1) := by decide +kernel
theorem dX11_folded_109 : decode cX11_folded 109 = .ok (.ireturn, 1) := by decide +kernel
theorem dX11_sameKey_0 : decode cX11_sameKey 0 = .ok (.aload_n 0, 1) := by decide +kernel
theorem dX11_sameKey_1 : decode cX11_sameKey 1 = .ok (.getfield 41, 3) := by decide +kernel
theorem dX11_sameKey_4 : decode cX11_sameKey 4 = .ok (.bipush 16, 2) := by decide +kernel
theorem dX11_sameKey_6 : decode cX11_sameKey 6 = .ok (.iload_n 1, 1) := by decide +kernel
theorem dX11_sameKey_7 : decode cX11_sameKey 7 = .ok (.imul, 1) := by decide +kernel
theorem dX11_sameKey_8 : decode cX11_sameKey 8 = .ok (.iload_n 2, 1) := by decide +kernel
theorem dX11_sameKey_9 : decode cX11_sameKey 9 = .ok (.aload_n 0, 1) := by decide +kernel
theorem dX11_sameKey_10 : decode cX11_sameKey 10 = .ok (.getfield 41, 3) := by decide +kernel
theorem dX11_sameKey_13 : decode cX11_sameKey 13 = .ok (.bipush 16, 2) := by decide +kernel
theorem dX11_sameKey_15 : decode cX11_sameKey 15 = .ok (.iload_n 3, 1) := by decide +kernel
theorem dX11_sameKey_16 : decode cX11_sameKey 16 = .ok (.imul, 1) := by decide +kernel
theorem dX11_sameKey_17 : decode cX11_sameKey 17 = .ok (.iload 4, 2) := by decide +kernel
theorem dX11_sameKey_19 : decode cX11_sameKey 19 = .ok (.invokestatic 154, 3) := by decide +kernel
theorem dX11_sameKey_22 : decode cX11_sameKey 22 = .ok (.ireturn, 1) := by decide +kernel
theorem dX11_makeKeys_0 : decode cX11_makeKeys 0 = .ok (.aload_n 0, 1) := by decide +kernel
theorem dX11_makeKeys_1 : decode cX11_makeKeys 1 = .ok (.getfield 65, 3) := by decide +kernel
theorem dX11_makeKeys_4 : decode cX11_makeKeys 4 = .ok (.iload_n 1, 1) := by decide +kernel
theorem dX11_makeKeys_5 : decode cX11_makeKeys 5 = .ok (.iaload, 1) := by decide +kernel
theorem dX11_makeKeys_6 : decode cX11_makeKeys 6 = .ok (.istore_n 2, 1) := by decide +kernel
theorem dX11_makeKeys_7 : decode cX11_makeKeys 7 = .ok (.aload_n 0, 1) := by decide +kernel
theorem dX11_makeKeys_8 : decode cX11_makeKeys 8 = .ok (.getfield 78, 3) := by decide +kernel
theorem dX11_makeKeys_11 : decode cX11_makeKeys 11 = .ok (.iload_n 1, 1) := by decide +kernel
theorem dX11_makeKeys_12 : decode cX11_makeKeys 12 = .ok (.iconst 0, 1) := by decide +kernel
theorem dX11_makeKeys_13 : decode cX11_makeKeys 13 = .ok (.iastore, 1) := by decide +kernel
theorem dX11_makeKeys_14 : decode cX11_makeKeys 14 = .ok (.aload_n 0, 1) := by decide +kernel
theorem dX11_makeKeys_15 : decode cX11_makeKeys 15 = .ok (.getfield 23, 3) := by decide +kernel
theorem dX11_makeKeys_18 : decode cX11_makeKeys 18 = .ok (.aload_n 0, 1) := by decide +kernel
theorem dX11_makeKeys_19 : decode cX11_makeKeys 19 = .ok (.getfield 26, 3) := by decide +kernel
theorem dX11_makeKeys_22 : decode cX11_makeKeys 22 = .ok (.aload_n 0, 1) := by decide +kernel
theorem dX11_makeKeys_23 : decode cX11_makeKeys 23 = .ok (.getfield 180, 3) := by decide +kernel
theorem dX11_makeKeys_26 : decode cX11_makeKeys 26 = .ok (.aload_n 0, 1) := by decide +kernel
theorem dX11_makeKeys_27 : decode cX11_makeKeys 27 = .ok (.getfield 41, 3) := by decide +kernel
theorem dX11_makeKeys_30 : decode cX11_makeKeys 30 = .ok (.sipush 640, 3) := by decide +kernel
theorem dX11_makeKeys_33 : decode cX11_makeKeys 33 = .ok (.iload_n 2, 1) := by decide +kernel
theorem dX11_makeKeys_34 : decode cX11_makeKeys 34 = .ok (.imul, 1) := by decide +kernel
theorem dX11_makeKeys_35 : decode cX11_makeKeys 35 = .ok (.aload_n 0, 1) := by decide +kernel
theorem dX11_makeKeys_36 : decode cX11_makeKeys 36 = .ok (.getfield 44, 3) := by decide +kernel
theorem dX11_makeKeys_39 : decode cX11_makeKeys 39 = .ok (.bipush 40, 2) := by decide +kernel
theorem dX11_makeKeys_41 : decode cX11_makeKeys 41 = .ok (.iload_n 2, 1) := by decide +kernel
theorem dX11_makeKeys_42 : decode cX11_makeKeys 42 = .ok (.imul, 1) := by decide +kernel
theorem dX11_makeKeys_43 : decode cX11_makeKeys 43 = .ok (.iaload, 1) := by decide +kernel
theorem dX11_makeKeys_44 : decode cX11_makeKeys 44 = .ok (.invokestatic 164, 3) := by decide +kernel
theorem dX11_makeKeys_47 : decode cX11_makeKeys 47 = .ok (.istore_n 3, 1) := by decide +kernel
theorem dX11_makeKeys_48 : decode cX11_makeKeys 48 = .ok (.aload_n 0, 1) := by decide +kernel
theorem dX11_makeKeys_49 : decode cX11_makeKeys 49 = .ok (.getfield 81, 3) := by decide +kernel
theorem dX11_makeKeys_52 : decode cX11_makeKeys 52 = .ok (.iload_n 1, 1) := by decide +kernel
theorem dX11_makeKeys_53 : decode cX11_makeKeys 53 = .ok (.iload_n 3, 1) := by decide +kernel
theorem dX11_makeKeys_54 : decode cX11_makeKeys 54 = .ok (.iconst (-1), 1) := by decide +kernel
theorem dX11_makeKeys_55 : decode cX11_makeKeys 55 = .ok (.if_icmp .ne 7, 3) := by decide +kernel
theorem dX11_makeKeys_58 : decode cX11_makeKeys 58 = .ok (.iconst 0, 1) := by decide +kernel
theorem dX11_makeKeys_59 : decode cX11_makeKeys 59 = .ok (.goto 9, 3) := by decide +kernel
theorem dX11_makeKeys_62 : decode cX11_makeKeys 62 = .ok (.aload_n 0, 1) := by decide +kernel
theorem dX11_makeKeys_63 : decode cX11_makeKeys 63 = .ok (.getfield 29, 3) := by decide +kernel
theorem dX11_makeKeys_66 : decode cX11_makeKeys 66 = .ok (.iload_n 3, 1) := by decide +kernel
theorem dX11_makeKeys_67 : decode cX11_makeKeys 67 = .ok (.iaload, 1) := by decide +kernel
theorem dX11_makeKeys_68 : decode cX11_makeKeys 68 = .ok (.iastore, 1) := by decide +kernel
theorem dX11_makeKeys_69 : decode cX11_makeKeys 69 = .ok (.iload_n 3, 1) := by decide +kernel
theorem dX11_makeKeys_70 : decode cX11_makeKeys 70 = .ok (.iconst (-1), 1) := by decide +kernel
theorem dX11_makeKeys_71 : decode cX11_makeKeys 71 = .ok (.if_icmp .ne 7, 3) := by decide +kernel
theorem dX11_makeKeys_74 : decode cX11_makeKeys 74 = .ok (.iconst 0, 1) := by decide +kernel
theorem dX11_makeKeys_75 : decode cX11_makeKeys 75 = .ok (.goto 4, 3) := by decide +kernel
theorem dX11_makeKeys_78 : decode cX11_makeKeys 78 = .ok (.iconst 1, 1) := by decide +kernel
theorem dX11_makeKeys_79 : decode cX11_makeKeys 79 = .ok (.istore 4, 2) := by decide +kernel
theorem dX11_makeKeys_81 : decode cX11_makeKeys 81 = .ok (.iload 4, 2) := by decide +kernel
theorem dX11_makeKeys_83 : decode cX11_makeKeys 83 = .ok (.aload_n 0, 1) := by decide +kernel
theorem dX11_makeKeys_84 : decode cX11_makeKeys 84 = .ok (.getfield 47, 3) := by decide +kernel
theorem dX11_makeKeys_87 : decode cX11_makeKeys 87 = .ok (.iload_n 2, 1) := by decide +kernel
theorem dX11_makeKeys_88 : decode cX11_makeKeys 88 = .ok (.iaload, 1) := by decide +kernel
theorem dX11_makeKeys_89 : decode cX11_makeKeys 89 = .ok (.if_icmp .ge 180, 3) := by decide +kernel
theorem dX11_makeKeys_92 : decode cX11_makeKeys 92 = .ok (.bipush 40, 2) := by decide +kernel
theorem dX11_makeKeys_94 : decode cX11_makeKeys 94 = .ok (.iload_n 2, 1) := by decide +kernel
theorem dX11_makeKeys_95 : decode cX11_makeKeys 95 = .ok (.imul, 1) := by decide +kernel
theorem dX11_makeKeys_96 : decode cX11_makeKeys 96 = .ok (.iload 4, 2) := by decide +kernel
theorem dX11_makeKeys_98 : decode cX11_makeKeys 98 = .ok (.iadd, 1) := by decide +kernel
theorem dX11_makeKeys_99 : decode cX11_makeKeys 99 = .ok (.istore 5, 2) := by decide +kernel
theorem dX11_makeKeys_101 : decode cX11_makeKeys 101 = .ok (.aload_n 0, 1) := by decide +kernel
theorem dX11_makeKeys_102 : decode cX11_makeKeys 102 = .ok (.getfield 16, 3) := by decide +kernel
theorem dX11_makeKeys_105 : decode cX11_makeKeys 105 = .ok (.aload_n 0, 1) := by decide +kernel
theorem dX11_makeKeys_106 : decode cX11_makeKeys 106 = .ok (.getfield 19, 3) := by decide +kernel
theorem dX11_makeKeys_109 : decode cX11_makeKeys 109 = .ok (.aload_n 0, 1) := by decide +kernel
theorem dX11_makeKeys_110 : decode cX11_makeKeys 110 = .ok (.getfield 161, 3) := by decide +kernel
theorem dX11_makeKeys_113 : decode cX11_makeKeys 113 = .ok (.aload_n 0, 1) := by decide +kernel
theorem dX11_makeKeys_114 : decode cX11_makeKeys 114 = .ok (.getfield 41, 3) := by decide +kernel
theorem dX11_makeKeys_117 : decode cX11_makeKeys 117 = .ok (.bipush 16, 2) := by decide +kernel
theorem dX11_makeKeys_119 : decode cX11_makeKeys 119 = .ok (.iload 5, 2) := by decide +kernel
theorem dX11_makeKeys_121 : decode cX11_makeKeys 121 = .ok (.imul, 1) := by decide +kernel
theorem dX11_makeKeys_122 : decode cX11_makeKeys 122 = .ok (.aload_n 0, 1) := by decide +kernel
theorem dX11_makeKeys_123 : decode cX11_makeKeys 123 = .ok (.getfield 44, 3) := by decide +kernel
theorem dX11_makeKeys_126 : decode cX11_makeKeys 126 = .ok (.iload 5, 2) := by decide +kernel
theorem dX11_makeKeys_128 : decode cX11_makeKeys 128 = .ok (.iaload, 1) := by decide +kernel
theorem dX11_makeKeys_129 : decode cX11_makeKeys 129 = .ok (.invokestatic 164, 3) := by decide +kernel
theorem dX11_makeKeys_132 : decode cX11_makeKeys 132 = .ok (.iconst (-1), 1) := by decide +kernel
theorem dX11_makeKeys_133 : decode cX11_makeKeys 133 = .ok (.if_icmp .eq 6, 3) := by decide +kernel
theorem dX11_makeKeys_136 : decode cX11_makeKeys 136 = .ok (.goto 127, 3) := by decide +kernel
theorem dX11_makeKeys_139 : decode cX11_makeKeys 139 = .ok (.aload_n 0, 1) := by decide +kernel
theorem dX11_makeKeys_140 : decode cX11_makeKeys 140 = .ok (.iload 5, 2) := by decide +kernel
theorem dX11_makeKeys_142 : decode cX11_makeKeys 142 = .ok (.invokevirtual 205, 3) := by decide +kernel
theorem dX11_makeKeys_145 : decode cX11_makeKeys 145 = .ok (.istore 6, 2) := by decide +kernel
theorem dX11_makeKeys_147 : decode cX11_makeKeys 147 = .ok (.iconst 0, 1) := by decide +kernel
theorem dX11_makeKeys_148 : decode cX11_makeKeys 148 = .ok (.istore 7, 2) := by decide +kernel
theorem dX11_makeKeys_150 : decode cX11_makeKeys 150 = .ok (.iconst 0, 1) := by decide +kernel
theorem dX11_makeKeys_151 : decode cX11_makeKeys 151 = .ok (.istore 8, 2) := by decide +kernel
theorem dX11_makeKeys_153 : decode cX11_makeKeys 153 = .ok (.iload 8, 2) := by decide +kernel
theorem dX11_makeKeys_155 : decode cX11_makeKeys 155 = .ok (.aload_n 0, 1) := by decide +kernel
theorem dX11_makeKeys_156 : decode cX11_makeKeys 156 = .ok (.getfield 78, 3) := by decide +kernel
theorem dX11_makeKeys_159 : decode cX11_makeKeys 159 = .ok (.iload_n 1, 1) := by decide +kernel
theorem dX11_makeKeys_160 : decode cX11_makeKeys 160 = .ok (.iaload, 1) := by decide +kernel
theorem dX11_makeKeys_161 : decode cX11_makeKeys 161 = .ok (.if_icmp .ge 48, 3) := by decide +kernel
theorem dX11_makeKeys_164 : decode cX11_makeKeys 164 = .ok (.iload 7, 2) := by decide +kernel
theorem dX11_makeKeys_166 : decode cX11_makeKeys 166 = .ok (.ifCond .ne 43, 3) := by decide +kernel
theorem dX11_makeKeys_169 : decode cX11_makeKeys 169 = .ok (.aload_n 0, 1) := by decide +kernel
theorem dX11_makeKeys_170 : decode cX11_makeKeys 170 = .ok (.iload 5, 2) := by decide +kernel
theorem dX11_makeKeys_172 : decode cX11_makeKeys 172 = .ok (.iload 6, 2) := by decide +kernel
theorem dX11_makeKeys_174 : decode cX11_makeKeys 174 = .ok (.aload_n 0, 1) := by decide +kernel
theorem dX11_makeKeys_175 : decode cX11_makeKeys 175 = .ok (.getfield 72, 3) := by decide +kernel
theorem dX11_makeKeys_178 : decode cX11_makeKeys 178 = .ok (.bipush 40, 2) := by decide +kernel
theorem dX11_makeKeys_180 : decode cX11_makeKeys 180 = .ok (.iload_n 1, 1) := by decide +kernel
theorem dX11_makeKeys_181 : decode cX11_makeKeys 181 = .ok (.imul, 1) := by decide +kernel
theorem dX11_makeKeys_182 : decode cX11_makeKeys 182 = .ok (.iload 8, 2) := by decide +kernel
theorem dX11_makeKeys_184 : decode cX11_makeKeys 184 = .ok (.iadd, 1) := by decide +kernel
theorem dX11_makeKeys_185 : decode cX11_makeKeys 185 = .ok (.iaload, 1) := by decide +kernel
theorem dX11_makeKeys_186 : decode cX11_makeKeys 186 = .ok (.aload_n 0, 1) := by decide +kernel
theorem dX11_makeKeys_187 : decode cX11_makeKeys 187 = .ok (.getfield 75, 3) := by decide +kernel
theorem dX11_makeKeys_190 : decode cX11_makeKeys 190 = .ok (.bipush 40, 2) := by decide +kernel
theorem dX11_makeKeys_192 : decode cX11_makeKeys 192 = .ok (.iload_n 1, 1) := by decide +kernel
theorem dX11_makeKeys_193 : decode cX11_makeKeys 193 = .ok (.imul, 1) := by decide +kernel
theorem dX11_makeKeys_194 : decode cX11_makeKeys 194 = .ok (.iload 8, 2) := by decide +kernel
theorem dX11_makeKeys_196 : decode cX11_makeKeys 196 = .ok (.iadd, 1) := by decide +kernel
theorem dX11_makeKeys_197 : decode cX11_makeKeys 197 = .ok (.iaload, 1) := by decide +kernel
theorem dX11_makeKeys_198 : decode cX11_makeKeys 198 = .ok (.invokevirtual 208, 3) := by decide +kernel
theorem dX11_makeKeys_201 : decode cX11_makeKeys 201 = .ok (.istore 7, 2) := by decide +kernel
theorem dX11_makeKeys_203 : decode cX11_makeKeys 203 = .ok (.iinc 8 1, 3) := by decide +kernel
theorem dX11_makeKeys_206 : decode cX11_makeKeys 206 = .ok (.goto (-53), 3) := by decide +kernel
theorem dX11_makeKeys_209 : decode cX11_makeKeys 209 = .ok (.iload 7, 2) := by decide +kernel
theorem dX11_makeKeys_211 : decode cX11_makeKeys 211 = .ok (.ifCond .eq 6, 3) := by decide +kernel
theorem dX11_makeKeys_214 : decode cX11_makeKeys 214 = .ok (.goto 49, 3) := by decide +kernel
theorem dX11_makeKeys_217 : decode cX11_makeKeys 217 = .ok (.aload_n 0, 1) := by decide +kernel
theorem dX11_makeKeys_218 : decode cX11_makeKeys 218 = .ok (.getfield 72, 3) := by decide +kernel
theorem dX11_makeKeys_221 : decode cX11_makeKeys 221 = .ok (.bipush 40, 2) := by decide +kernel
theorem dX11_makeKeys_223 : decode cX11_makeKeys 223 = .ok (.iload_n 1, 1) := by decide +kernel
theorem dX11_makeKeys_224 : decode cX11_makeKeys 224 = .ok (.imul, 1) := by decide +kernel
theorem dX11_makeKeys_225 : decode cX11_makeKeys 225 = .ok (.aload_n 0, 1) := by decide +kernel
theorem dX11_makeKeys_226 : decode cX11_makeKeys 226 = .ok (.getfield 78, 3) := by decide +kernel
theorem dX11_makeKeys_229 : decode cX11_makeKeys 229 = .ok (.iload_n 1, 1) := by decide +kernel
theorem dX11_makeKeys_230 : decode cX11_makeKeys 230 = .ok (.iaload, 1) := by decide +kernel
theorem dX11_makeKeys_231 : decode cX11_makeKeys 231 = .ok (.iadd, 1) := by decide +kernel
theorem dX11_makeKeys_232 : decode cX11_makeKeys 232 = .ok (.iload 5, 2) := by decide +kernel
theorem dX11_makeKeys_234 : decode cX11_makeKeys 234 = .ok (.iastore, 1) := by decide +kernel
theorem dX11_makeKeys_235 : decode cX11_makeKeys 235 = .ok (.aload_n 0, 1) := by decide +kernel
theorem dX11_makeKeys_236 : decode cX11_makeKeys 236 = .ok (.getfield 75, 3) := by decide +kernel
theorem dX11_makeKeys_239 : decode cX11_makeKeys 239 = .ok (.bipush 40, 2) := by decide +kernel
theorem dX11_makeKeys_241 : decode cX11_makeKeys 241 = .ok (.iload_n 1, 1) := by decide +kernel
theorem dX11_makeKeys_242 : decode cX11_makeKeys 242 = .ok (.imul, 1) := by decide +kernel
theorem dX11_makeKeys_243 : decode cX11_makeKeys 243 = .ok (.aload_n 0, 1) := by decide +kernel
theorem dX11_makeKeys_244 : decode cX11_makeKeys 244 = .ok (.getfield 78, 3) := by decide +kernel
theorem dX11_makeKeys_247 : decode cX11_makeKeys 247 = .ok (.iload_n 1, 1) := by decide +kernel
theorem dX11_makeKeys_248 : decode cX11_makeKeys 248 = .ok (.iaload, 1) := by decide +kernel
theorem dX11_makeKeys_249 : decode cX11_makeKeys 249 = .ok (.iadd, 1) := by decide +kernel
theorem dX11_makeKeys_250 : decode cX11_makeKeys 250 = .ok (.iload 6, 2) := by decide +kernel
theorem dX11_makeKeys_252 : decode cX11_makeKeys 252 = .ok (.iastore, 1) := by decide +kernel
theorem dX11_makeKeys_253 : decode cX11_makeKeys 253 = .ok (.aload_n 0, 1) := by decide +kernel
theorem dX11_makeKeys_254 : decode cX11_makeKeys 254 = .ok (.getfield 78, 3) := by decide +kernel
theorem dX11_makeKeys_257 : decode cX11_makeKeys 257 = .ok (.iload_n 1, 1) := by decide +kernel
theorem dX11_makeKeys_258 : decode cX11_makeKeys 258 = .ok (.dup2, 1) := by decide +kernel
theorem dX11_makeKeys_259 : decode cX11_makeKeys 259 = .ok (.iaload, 1) := by decide +kernel
theorem dX11_makeKeys_260 : decode cX11_makeKeys 260 = .ok (.iconst 1, 1) := by decide +kernel
theorem dX11_makeKeys_261 : decode cX11_makeKeys 261 = .ok (.iadd, 1) := by decide +kernel
theorem dX11_makeKeys_262 : decode cX11_makeKeys 262 = .ok (.iastore, 1) := by decide +kernel
theorem dX11_makeKeys_263 : decode cX11_makeKeys 263 = .ok (.iinc 4 1, 3) := by decide +kernel
theorem dX11_makeKeys_266 : decode cX11_makeKeys 266 = .ok (.goto (-185), 3) := by decide +kernel
theorem dX11_makeKeys_269 : decode cX11_makeKeys 269 = .ok (.return_, 1) := by decide +kernel
theorem dX11_hasKey_0 : decode cX11_hasKey 0 = .ok (.bipush 40, 2) := by decide +kernel
theorem dX11_hasKey_2 : decode cX11_hasKey 2 = .ok (.iload_n 1, 1) := by decide +kernel
theorem dX11_hasKey_3 : decode cX11_hasKey 3 = .ok (.imul, 1) := by decide +kernel
theorem dX11_hasKey_4 : decode cX11_hasKey 4 = .ok (.istore 4, 2) := by decide +kernel
theorem dX11_hasKey_6 : decode cX11_hasKey 6 = .ok (.iload 4, 2) := by decide +kernel
theorem dX11_hasKey_8 : decode cX11_hasKey 8 = .ok (.bipush 40, 2) := by decide +kernel
theorem dX11_hasKey_10 : decode cX11_hasKey 10 = .ok (.iload_n 1, 1) := by decide +kernel
theorem dX11_hasKey_11 : decode cX11_hasKey 11 = .ok (.imul, 1) := by decide +kernel
theorem dX11_hasKey_12 : decode cX11_hasKey 12 = .ok (.aload_n 0, 1) := by decide +kernel
theorem dX11_hasKey_13 : decode cX11_hasKey 13 = .ok (.getfield 78, 3) := by decide +kernel
theorem dX11_hasKey_16 : decode cX11_hasKey 16 = .ok (.iload_n 1, 1) := by decide +kernel
theorem dX11_hasKey_17 : decode cX11_hasKey 17 = .ok (.iaload, 1) := by decide +kernel
theorem dX11_hasKey_18 : decode cX11_hasKey 18 = .ok (.iadd, 1) := by decide +kernel
theorem dX11_hasKey_19 : decode cX11_hasKey 19 = .ok (.if_icmp .ge 34, 3) := by decide +kernel
theorem dX11_hasKey_22 : decode cX11_hasKey 22 = .ok (.aload_n 0, 1) := by decide +kernel
theorem dX11_hasKey_23 : decode cX11_hasKey 23 = .ok (.iload_n 2, 1) := by decide +kernel
theorem dX11_hasKey_24 : decode cX11_hasKey 24 = .ok (.iload_n 3, 1) := by decide +kernel
theorem dX11_hasKey_25 : decode cX11_hasKey 25 = .ok (.aload_n 0, 1) := by decide +kernel
theorem dX11_hasKey_26 : decode cX11_hasKey 26 = .ok (.getfield 72, 3) := by decide +kernel
theorem dX11_hasKey_29 : decode cX11_hasKey 29 = .ok (.iload 4, 2) := by decide +kernel
theorem dX11_hasKey_31 : decode cX11_hasKey 31 = .ok (.iaload, 1) := by decide +kernel
theorem dX11_hasKey_32 : decode cX11_hasKey 32 = .ok (.aload_n 0, 1) := by decide +kernel
theorem dX11_hasKey_33 : decode cX11_hasKey 33 = .ok (.getfield 75, 3) := by decide +kernel
theorem dX11_hasKey_36 : decode cX11_hasKey 36 = .ok (.iload 4, 2) := by decide +kernel
theorem dX11_hasKey_38 : decode cX11_hasKey 38 = .ok (.iaload, 1) := by decide +kernel
theorem dX11_hasKey_39 : decode cX11_hasKey 39 = .ok (.invokevirtual 208, 3) := by decide +kernel
theorem dX11_hasKey_42 : decode cX11_hasKey 42 = .ok (.ifCond .eq 5, 3) := by decide +kernel
theorem dX11_hasKey_45 : decode cX11_hasKey 45 = .ok (.iconst 1, 1) := by decide +kernel
theorem dX11_hasKey_46 : decode cX11_hasKey 46 = .ok (.ireturn, 1) := by decide +kernel
theorem dX11_hasKey_47 : decode cX11_hasKey 47 = .ok (.iinc 4 1, 3) := by decide +kernel
theorem dX11_hasKey_50 : decode cX11_hasKey 50 = .ok (.goto (-44), 3) := by decide +kernel
theorem dX11_hasKey_53 : decode cX11_hasKey 53 = .ok (.iconst 0, 1) := by decide +kernel
theorem dX11_hasKey_54 : decode cX11_hasKey 54 = .ok (.ireturn, 1) := by decide +kernel
theorem dX11_sharedBy_0 : decode cX11_sharedBy 0 = .ok (.iconst 0, 1) := by decide +kernel
theorem dX11_sharedBy_1 : decode cX11_sharedBy 1 = .ok (.istore_n 3, 1) := by decide +kernel
theorem dX11_sharedBy_2 : decode cX11_sharedBy 2 = .ok (.bipush 40, 2) := by decide +kernel
theorem dX11_sharedBy_4 : decode cX11_sharedBy 4 = .ok (.iload_n 1, 1) := by decide +kernel
theorem dX11_sharedBy_5 : decode cX11_sharedBy 5 = .ok (.imul, 1) := by decide +kernel
theorem dX11_sharedBy_6 : decode cX11_sharedBy 6 = .ok (.istore 4, 2) := by decide +kernel
theorem dX11_sharedBy_8 : decode cX11_sharedBy 8 = .ok (.iload 4, 2) := by decide +kernel
theorem dX11_sharedBy_10 : decode cX11_sharedBy 10 = .ok (.bipush 40, 2) := by decide +kernel
theorem dX11_sharedBy_12 : decode cX11_sharedBy 12 = .ok (.iload_n 1, 1) := by decide +kernel
theorem dX11_sharedBy_13 : decode cX11_sharedBy 13 = .ok (.imul, 1) := by decide +kernel
theorem dX11_sharedBy_14 : decode cX11_sharedBy 14 = .ok (.aload_n 0, 1) := by decide +kernel
theorem dX11_sharedBy_15 : decode cX11_sharedBy 15 = .ok (.getfield 78, 3) := by decide +kernel
theorem dX11_sharedBy_18 : decode cX11_sharedBy 18 = .ok (.iload_n 1, 1) := by decide +kernel
theorem dX11_sharedBy_19 : decode cX11_sharedBy 19 = .ok (.iaload, 1) := by decide +kernel
theorem dX11_sharedBy_20 : decode cX11_sharedBy 20 = .ok (.iadd, 1) := by decide +kernel
theorem dX11_sharedBy_21 : decode cX11_sharedBy 21 = .ok (.if_icmp .ge 39, 3) := by decide +kernel
theorem dX11_sharedBy_24 : decode cX11_sharedBy 24 = .ok (.iload_n 3, 1) := by decide +kernel
theorem dX11_sharedBy_25 : decode cX11_sharedBy 25 = .ok (.aload_n 0, 1) := by decide +kernel
theorem dX11_sharedBy_26 : decode cX11_sharedBy 26 = .ok (.iload_n 2, 1) := by decide +kernel
theorem dX11_sharedBy_27 : decode cX11_sharedBy 27 = .ok (.aload_n 0, 1) := by decide +kernel
theorem dX11_sharedBy_28 : decode cX11_sharedBy 28 = .ok (.getfield 72, 3) := by decide +kernel
theorem dX11_sharedBy_31 : decode cX11_sharedBy 31 = .ok (.iload 4, 2) := by decide +kernel
theorem dX11_sharedBy_33 : decode cX11_sharedBy 33 = .ok (.iaload, 1) := by decide +kernel
theorem dX11_sharedBy_34 : decode cX11_sharedBy 34 = .ok (.aload_n 0, 1) := by decide +kernel
theorem dX11_sharedBy_35 : decode cX11_sharedBy 35 = .ok (.getfield 75, 3) := by decide +kernel
theorem dX11_sharedBy_38 : decode cX11_sharedBy 38 = .ok (.iload 4, 2) := by decide +kernel
theorem dX11_sharedBy_40 : decode cX11_sharedBy 40 = .ok (.iaload, 1) := by decide +kernel
theorem dX11_sharedBy_41 : decode cX11_sharedBy 41 = .ok (.invokevirtual 212, 3) := by decide +kernel
theorem dX11_sharedBy_44 : decode cX11_sharedBy 44 = .ok (.ifCond .eq 7, 3) := by decide +kernel
theorem dX11_sharedBy_47 : decode cX11_sharedBy 47 = .ok (.iconst 1, 1) := by decide +kernel
theorem dX11_sharedBy_48 : decode cX11_sharedBy 48 = .ok (.goto 4, 3) := by decide +kernel
theorem dX11_sharedBy_51 : decode cX11_sharedBy 51 = .ok (.iconst 0, 1) := by decide +kernel
theorem dX11_sharedBy_52 : decode cX11_sharedBy 52 = .ok (.iadd, 1) := by decide +kernel
theorem dX11_sharedBy_53 : decode cX11_sharedBy 53 = .ok (.istore_n 3, 1) := by decide +kernel
theorem dX11_sharedBy_54 : decode cX11_sharedBy 54 = .ok (.iinc 4 1, 3) := by decide +kernel
theorem dX11_sharedBy_57 : decode cX11_sharedBy 57 = .ok (.goto (-49), 3) := by decide +kernel
theorem dX11_sharedBy_60 : decode cX11_sharedBy 60 = .ok (.iload_n 3, 1) := by decide +kernel
theorem dX11_sharedBy_61 : decode cX11_sharedBy 61 = .ok (.ireturn, 1) := by decide +kernel
theorem dX11_priceOf_0 : decode cX11_priceOf 0 = .ok (.iload_n 1, 1) := by decide +kernel
theorem dX11_priceOf_1 : decode cX11_priceOf 1 = .ok (.iload_n 2, 1) := by decide +kernel
theorem dX11_priceOf_2 : decode cX11_priceOf 2 = .ok (.if_icmp .le 9, 3) := by decide +kernel
theorem dX11_priceOf_5 : decode cX11_priceOf 5 = .ok (.iload_n 1, 1) := by decide +kernel
theorem dX11_priceOf_6 : decode cX11_priceOf 6 = .ok (.iload_n 2, 1) := by decide +kernel
theorem dX11_priceOf_7 : decode cX11_priceOf 7 = .ok (.isub, 1) := by decide +kernel
theorem dX11_priceOf_8 : decode cX11_priceOf 8 = .ok (.goto 6, 3) := by decide +kernel
theorem dX11_priceOf_11 : decode cX11_priceOf 11 = .ok (.iload_n 2, 1) := by decide +kernel
theorem dX11_priceOf_12 : decode cX11_priceOf 12 = .ok (.iload_n 1, 1) := by decide +kernel
theorem dX11_priceOf_13 : decode cX11_priceOf 13 = .ok (.isub, 1) := by decide +kernel
theorem dX11_priceOf_14 : decode cX11_priceOf 14 = .ok (.istore_n 3, 1) := by decide +kernel
theorem dX11_priceOf_15 : decode cX11_priceOf 15 = .ok (.aload_n 0, 1) := by decide +kernel
theorem dX11_priceOf_16 : decode cX11_priceOf 16 = .ok (.iload_n 1, 1) := by decide +kernel
theorem dX11_priceOf_17 : decode cX11_priceOf 17 = .ok (.iload_n 2, 1) := by decide +kernel
theorem dX11_priceOf_18 : decode cX11_priceOf 18 = .ok (.invokevirtual 215, 3) := by decide +kernel
theorem dX11_priceOf_21 : decode cX11_priceOf 21 = .ok (.istore 4, 2) := by decide +kernel
theorem dX11_priceOf_23 : decode cX11_priceOf 23 = .ok (.aload_n 0, 1) := by decide +kernel
theorem dX11_priceOf_24 : decode cX11_priceOf 24 = .ok (.getfield 38, 3) := by decide +kernel
theorem dX11_priceOf_27 : decode cX11_priceOf 27 = .ok (.iconst 0, 1) := by decide +kernel
theorem dX11_priceOf_28 : decode cX11_priceOf 28 = .ok (.iaload, 1) := by decide +kernel
theorem dX11_priceOf_29 : decode cX11_priceOf 29 = .ok (.iload_n 3, 1) := by decide +kernel
theorem dX11_priceOf_30 : decode cX11_priceOf 30 = .ok (.iconst 1, 1) := by decide +kernel
theorem dX11_priceOf_31 : decode cX11_priceOf 31 = .ok (.isub, 1) := by decide +kernel
theorem dX11_priceOf_32 : decode cX11_priceOf 32 = .ok (.imul, 1) := by decide +kernel
theorem dX11_priceOf_33 : decode cX11_priceOf 33 = .ok (.aload_n 0, 1) := by decide +kernel
theorem dX11_priceOf_34 : decode cX11_priceOf 34 = .ok (.getfield 38, 3) := by decide +kernel
theorem dX11_priceOf_37 : decode cX11_priceOf 37 = .ok (.iconst 1, 1) := by decide +kernel
theorem dX11_priceOf_38 : decode cX11_priceOf 38 = .ok (.iaload, 1) := by decide +kernel
theorem dX11_priceOf_39 : decode cX11_priceOf 39 = .ok (.iconst 4, 1) := by decide +kernel
theorem dX11_priceOf_40 : decode cX11_priceOf 40 = .ok (.iload 4, 2) := by decide +kernel
theorem dX11_priceOf_42 : decode cX11_priceOf 42 = .ok (.iconst 4, 1) := by decide +kernel
theorem dX11_priceOf_43 : decode cX11_priceOf 43 = .ok (.if_icmp .le 7, 3) := by decide +kernel
theorem dX11_priceOf_46 : decode cX11_priceOf 46 = .ok (.iconst 4, 1) := by decide +kernel
theorem dX11_priceOf_47 : decode cX11_priceOf 47 = .ok (.goto 5, 3) := by decide +kernel
theorem dX11_priceOf_50 : decode cX11_priceOf 50 = .ok (.iload 4, 2) := by decide +kernel
theorem dX11_priceOf_52 : decode cX11_priceOf 52 = .ok (.isub, 1) := by decide +kernel
theorem dX11_priceOf_53 : decode cX11_priceOf 53 = .ok (.imul, 1) := by decide +kernel
theorem dX11_priceOf_54 : decode cX11_priceOf 54 = .ok (.iadd, 1) := by decide +kernel
theorem dX11_priceOf_55 : decode cX11_priceOf 55 = .ok (.istore 5, 2) := by decide +kernel
theorem dX11_priceOf_57 : decode cX11_priceOf 57 = .ok (.aload_n 0, 1) := by decide +kernel
theorem dX11_priceOf_58 : decode cX11_priceOf 58 = .ok (.getfield 62, 3) := by decide +kernel
theorem dX11_priceOf_61 : decode cX11_priceOf 61 = .ok (.iload_n 1, 1) := by decide +kernel
theorem dX11_priceOf_62 : decode cX11_priceOf 62 = .ok (.iaload, 1) := by decide +kernel
theorem dX11_priceOf_63 : decode cX11_priceOf 63 = .ok (.aload_n 0, 1) := by decide +kernel
theorem dX11_priceOf_64 : decode cX11_priceOf 64 = .ok (.getfield 62, 3) := by decide +kernel
theorem dX11_priceOf_67 : decode cX11_priceOf 67 = .ok (.iload_n 2, 1) := by decide +kernel
theorem dX11_priceOf_68 : decode cX11_priceOf 68 = .ok (.iaload, 1) := by decide +kernel
theorem dX11_priceOf_69 : decode cX11_priceOf 69 = .ok (.if_icmp .eq 14, 3) := by decide +kernel
theorem dX11_priceOf_72 : decode cX11_priceOf 72 = .ok (.iload 5, 2) := by decide +kernel
theorem dX11_priceOf_74 : decode cX11_priceOf 74 = .ok (.aload_n 0, 1) := by decide +kernel
theorem dX11_priceOf_75 : decode cX11_priceOf 75 = .ok (.getfield 38, 3) := by decide +kernel
theorem dX11_priceOf_78 : decode cX11_priceOf 78 = .ok (.iconst 3, 1) := by decide +kernel
theorem dX11_priceOf_79 : decode cX11_priceOf 79 = .ok (.iaload, 1) := by decide +kernel
theorem dX11_priceOf_80 : decode cX11_priceOf 80 = .ok (.iadd, 1) := by decide +kernel
theorem dX11_priceOf_81 : decode cX11_priceOf 81 = .ok (.istore 5, 2) := by decide +kernel
theorem dX11_priceOf_83 : decode cX11_priceOf 83 = .ok (.aload_n 0, 1) := by decide +kernel
theorem dX11_priceOf_84 : decode cX11_priceOf 84 = .ok (.getfield 81, 3) := by decide +kernel
theorem dX11_priceOf_87 : decode cX11_priceOf 87 = .ok (.iload_n 2, 1) := by decide +kernel
theorem dX11_priceOf_88 : decode cX11_priceOf 88 = .ok (.iaload, 1) := by decide +kernel
theorem dX11_priceOf_89 : decode cX11_priceOf 89 = .ok (.iconst 1, 1) := by decide +kernel
theorem dX11_priceOf_90 : decode cX11_priceOf 90 = .ok (.if_icmp .eq 13, 3) := by decide +kernel
theorem dX11_priceOf_93 : decode cX11_priceOf 93 = .ok (.aload_n 0, 1) := by decide +kernel
theorem dX11_priceOf_94 : decode cX11_priceOf 94 = .ok (.getfield 81, 3) := by decide +kernel
theorem dX11_priceOf_97 : decode cX11_priceOf 97 = .ok (.iload_n 2, 1) := by decide +kernel
theorem dX11_priceOf_98 : decode cX11_priceOf 98 = .ok (.iaload, 1) := by decide +kernel
theorem dX11_priceOf_99 : decode cX11_priceOf 99 = .ok (.iconst 2, 1) := by decide +kernel
theorem dX11_priceOf_100 : decode cX11_priceOf 100 = .ok (.if_icmp .ne 8, 3) := by decide +kernel
theorem dX11_priceOf_103 : decode cX11_priceOf 103 = .ok (.iload_n 1, 1) := by decide +kernel
theorem dX11_priceOf_104 : decode cX11_priceOf 104 = .ok (.iload_n 2, 1) := by decide +kernel
theorem dX11_priceOf_105 : decode cX11_priceOf 105 = .ok (.if_icmp .gt 35, 3) := by decide +kernel
theorem dX11_priceOf_108 : decode cX11_priceOf 108 = .ok (.aload_n 0, 1) := by decide +kernel
theorem dX11_priceOf_109 : decode cX11_priceOf 109 = .ok (.getfield 81, 3) := by decide +kernel
theorem dX11_priceOf_112 : decode cX11_priceOf 112 = .ok (.iload_n 2, 1) := by decide +kernel
theorem dX11_priceOf_113 : decode cX11_priceOf 113 = .ok (.iaload, 1) := by decide +kernel
theorem dX11_priceOf_114 : decode cX11_priceOf 114 = .ok (.iconst 3, 1) := by decide +kernel
theorem dX11_priceOf_115 : decode cX11_priceOf 115 = .ok (.if_icmp .ne 10, 3) := by decide +kernel
theorem dX11_priceOf_118 : decode cX11_priceOf 118 = .ok (.iload_n 1, 1) := by decide +kernel
theorem dX11_priceOf_119 : decode cX11_priceOf 119 = .ok (.iload_n 2, 1) := by decide +kernel
theorem dX11_priceOf_120 : decode cX11_priceOf 120 = .ok (.iconst 1, 1) := by decide +kernel
theorem dX11_priceOf_121 : decode cX11_priceOf 121 = .ok (.isub, 1) := by decide +kernel
theorem dX11_priceOf_122 : decode cX11_priceOf 122 = .ok (.if_icmp .ne 18, 3) := by decide +kernel
theorem dX11_priceOf_125 : decode cX11_priceOf 125 = .ok (.aload_n 0, 1) := by decide +kernel
theorem dX11_priceOf_126 : decode cX11_priceOf 126 = .ok (.getfield 81, 3) := by decide +kernel
theorem dX11_priceOf_129 : decode cX11_priceOf 129 = .ok (.iload_n 2, 1) := by decide +kernel
theorem dX11_priceOf_130 : decode cX11_priceOf 130 = .ok (.iaload, 1) := by decide +kernel
theorem dX11_priceOf_131 : decode cX11_priceOf 131 = .ok (.iconst 4, 1) := by decide +kernel
theorem dX11_priceOf_132 : decode cX11_priceOf 132 = .ok (.if_icmp .ne 12, 3) := by decide +kernel
theorem dX11_priceOf_135 : decode cX11_priceOf 135 = .ok (.iload_n 1, 1) := by decide +kernel
theorem dX11_priceOf_136 : decode cX11_priceOf 136 = .ok (.iload_n 2, 1) := by decide +kernel
theorem dX11_priceOf_137 : decode cX11_priceOf 137 = .ok (.if_icmp .ge 7, 3) := by decide +kernel
theorem dX11_priceOf_140 : decode cX11_priceOf 140 = .ok (.iconst 1, 1) := by decide +kernel
theorem dX11_priceOf_141 : decode cX11_priceOf 141 = .ok (.goto 4, 3) := by decide +kernel
theorem dX11_priceOf_144 : decode cX11_priceOf 144 = .ok (.iconst 0, 1) := by decide +kernel
theorem dX11_priceOf_145 : decode cX11_priceOf 145 = .ok (.istore 6, 2) := by decide +kernel
theorem dX11_priceOf_147 : decode cX11_priceOf 147 = .ok (.iload 6, 2) := by decide +kernel
theorem dX11_priceOf_149 : decode cX11_priceOf 149 = .ok (.ifCond .eq 15, 3) := by decide +kernel
theorem dX11_priceOf_152 : decode cX11_priceOf 152 = .ok (.iload 5, 2) := by decide +kernel
theorem dX11_priceOf_154 : decode cX11_priceOf 154 = .ok (.aload_n 0, 1) := by decide +kernel
theorem dX11_priceOf_155 : decode cX11_priceOf 155 = .ok (.getfield 38, 3) := by decide +kernel
theorem dX11_priceOf_158 : decode cX11_priceOf 158 = .ok (.iconst 2, 1) := by decide +kernel
theorem dX11_priceOf_159 : decode cX11_priceOf 159 = .ok (.iaload, 1) := by decide +kernel
theorem dX11_priceOf_160 : decode cX11_priceOf 160 = .ok (.iadd, 1) := by decide +kernel
theorem dX11_priceOf_161 : decode cX11_priceOf 161 = .ok (.goto 5, 3) := by decide +kernel
theorem dX11_priceOf_164 : decode cX11_priceOf 164 = .ok (.iload 5, 2) := by decide +kernel
theorem dX11_priceOf_166 : decode cX11_priceOf 166 = .ok (.ireturn, 1) := by decide +kernel
theorem dX11_arc_0 : decode cX11_arc 0 = .ok (.aload_n 0, 1) := by decide +kernel
theorem dX11_arc_1 : decode cX11_arc 1 = .ok (.getfield 90, 3) := by decide +kernel
theorem dX11_arc_4 : decode cX11_arc 4 = .ok (.bipush 25, 2) := by decide +kernel
theorem dX11_arc_6 : decode cX11_arc 6 = .ok (.iload_n 2, 1) := by decide +kernel
theorem dX11_arc_7 : decode cX11_arc 7 = .ok (.imul, 1) := by decide +kernel
theorem dX11_arc_8 : decode cX11_arc 8 = .ok (.iload_n 1, 1) := by decide +kernel
theorem dX11_arc_9 : decode cX11_arc 9 = .ok (.iadd, 1) := by decide +kernel
theorem dX11_arc_10 : decode cX11_arc 10 = .ok (.iconst 1, 1) := by decide +kernel
theorem dX11_arc_11 : decode cX11_arc 11 = .ok (.iadd, 1) := by decide +kernel
theorem dX11_arc_12 : decode cX11_arc 12 = .ok (.baload, 1) := by decide +kernel
theorem dX11_arc_13 : decode cX11_arc 13 = .ok (.ifCond .eq 8, 3) := by decide +kernel
theorem dX11_arc_16 : decode cX11_arc 16 = .ok (.ldc 218, 2) := by decide +kernel
theorem dX11_arc_18 : decode cX11_arc 18 = .ok (.goto 14, 3) := by decide +kernel
theorem dX11_arc_21 : decode cX11_arc 21 = .ok (.aload_n 0, 1) := by decide +kernel
theorem dX11_arc_22 : decode cX11_arc 22 = .ok (.getfield 84, 3) := by decide +kernel
theorem dX11_arc_25 : decode cX11_arc 25 = .ok (.bipush 24, 2) := by decide +kernel
theorem dX11_arc_27 : decode cX11_arc 27 = .ok (.iload_n 1, 1) := by decide +kernel
theorem dX11_arc_28 : decode cX11_arc 28 = .ok (.imul, 1) := by decide +kernel
theorem dX11_arc_29 : decode cX11_arc 29 = .ok (.iload_n 2, 1) := by decide +kernel
theorem dX11_arc_30 : decode cX11_arc 30 = .ok (.iadd, 1) := by decide +kernel
theorem dX11_arc_31 : decode cX11_arc 31 = .ok (.iaload, 1) := by decide +kernel
theorem dX11_arc_32 : decode cX11_arc 32 = .ok (.ireturn, 1) := by decide +kernel
theorem dX11_least_0 : decode cX11_least 0 = .ok (.iconst 0, 1) := by decide +kernel
theorem dX11_least_1 : decode cX11_least 1 = .ok (.istore_n 1, 1) := by decide +kernel
theorem dX11_least_2 : decode cX11_least 2 = .ok (.iload_n 1, 1) := by decide +kernel
theorem dX11_least_3 : decode cX11_least 3 = .ok (.aload_n 0, 1) := by decide +kernel
theorem dX11_least_4 : decode cX11_least 4 = .ok (.getfield 196, 3) := by decide +kernel
theorem dX11_least_7 : decode cX11_least 7 = .ok (.if_icmp .ge 299, 3) := by decide +kernel
theorem dX11_least_10 : decode cX11_least 10 = .ok (.iconst 0, 1) := by decide +kernel
theorem dX11_least_11 : decode cX11_least 11 = .ok (.istore_n 2, 1) := by decide +kernel
theorem dX11_least_12 : decode cX11_least 12 = .ok (.iload_n 2, 1) := by decide +kernel
theorem dX11_least_13 : decode cX11_least 13 = .ok (.iload_n 1, 1) := by decide +kernel
theorem dX11_least_14 : decode cX11_least 14 = .ok (.iadd, 1) := by decide +kernel
theorem dX11_least_15 : decode cX11_least 15 = .ok (.aload_n 0, 1) := by decide +kernel
theorem dX11_least_16 : decode cX11_least 16 = .ok (.getfield 196, 3) := by decide +kernel
theorem dX11_least_19 : decode cX11_least 19 = .ok (.if_icmp .ge 138, 3) := by decide +kernel
theorem dX11_least_22 : decode cX11_least 22 = .ok (.iload_n 2, 1) := by decide +kernel
theorem dX11_least_23 : decode cX11_least 23 = .ok (.iload_n 1, 1) := by decide +kernel
theorem dX11_least_24 : decode cX11_least 24 = .ok (.iadd, 1) := by decide +kernel
theorem dX11_least_25 : decode cX11_least 25 = .ok (.istore_n 3, 1) := by decide +kernel
theorem dX11_least_26 : decode cX11_least 26 = .ok (.iload_n 1, 1) := by decide +kernel
theorem dX11_least_27 : decode cX11_least 27 = .ok (.ifCond .ne 7, 3) := by decide +kernel
theorem dX11_least_30 : decode cX11_least 30 = .ok (.iconst 0, 1) := by decide +kernel
theorem dX11_least_31 : decode cX11_least 31 = .ok (.goto 5, 3) := by decide +kernel
theorem dX11_least_34 : decode cX11_least 34 = .ok (.ldc 218, 2) := by decide +kernel
theorem dX11_least_36 : decode cX11_least 36 = .ok (.istore 4, 2) := by decide +kernel
theorem dX11_least_38 : decode cX11_least 38 = .ok (.iload_n 2, 1) := by decide +kernel
theorem dX11_least_39 : decode cX11_least 39 = .ok (.iconst 1, 1) := by decide +kernel
theorem dX11_least_40 : decode cX11_least 40 = .ok (.iadd, 1) := by decide +kernel
theorem dX11_least_41 : decode cX11_least 41 = .ok (.istore 5, 2) := by decide +kernel
theorem dX11_least_43 : decode cX11_least 43 = .ok (.iload 5, 2) := by decide +kernel
theorem dX11_least_45 : decode cX11_least 45 = .ok (.iload_n 3, 1) := by decide +kernel
theorem dX11_least_46 : decode cX11_least 46 = .ok (.if_icmp .gt 92, 3) := by decide +kernel
theorem dX11_least_49 : decode cX11_least 49 = .ok (.iload 5, 2) := by decide +kernel
theorem dX11_least_51 : decode cX11_least 51 = .ok (.istore 6, 2) := by decide +kernel
theorem dX11_least_53 : decode cX11_least 53 = .ok (.iload 6, 2) := by decide +kernel
theorem dX11_least_55 : decode cX11_least 55 = .ok (.iload_n 3, 1) := by decide +kernel
theorem dX11_least_56 : decode cX11_least 56 = .ok (.if_icmp .gt 76, 3) := by decide +kernel
theorem dX11_least_59 : decode cX11_least 59 = .ok (.aload_n 0, 1) := by decide +kernel
theorem dX11_least_60 : decode cX11_least 60 = .ok (.getfield 97, 3) := by decide +kernel
theorem dX11_least_63 : decode cX11_least 63 = .ok (.bipush 24, 2) := by decide +kernel
theorem dX11_least_65 : decode cX11_least 65 = .ok (.iload_n 2, 1) := by decide +kernel
theorem dX11_least_66 : decode cX11_least 66 = .ok (.imul, 1) := by decide +kernel
theorem dX11_least_67 : decode cX11_least 67 = .ok (.iload 5, 2) := by decide +kernel
theorem dX11_least_69 : decode cX11_least 69 = .ok (.iadd, 1) := by decide +kernel
theorem dX11_least_70 : decode cX11_least 70 = .ok (.iconst 1, 1) := by decide +kernel
theorem dX11_least_71 : decode cX11_least 71 = .ok (.isub, 1) := by decide +kernel
theorem dX11_least_72 : decode cX11_least 72 = .ok (.iaload, 1) := by decide +kernel
theorem dX11_least_73 : decode cX11_least 73 = .ok (.aload_n 0, 1) := by decide +kernel
theorem dX11_least_74 : decode cX11_least 74 = .ok (.iload_n 2, 1) := by decide +kernel
theorem dX11_least_75 : decode cX11_least 75 = .ok (.iload 6, 2) := by decide +kernel
theorem dX11_least_77 : decode cX11_least 77 = .ok (.invokevirtual 219, 3) := by decide +kernel
theorem dX11_least_80 : decode cX11_least 80 = .ok (.iadd, 1) := by decide +kernel
theorem dX11_least_81 : decode cX11_least 81 = .ok (.aload_n 0, 1) := by decide +kernel
theorem dX11_least_82 : decode cX11_least 82 = .ok (.getfield 94, 3) := by decide +kernel
theorem dX11_least_85 : decode cX11_least 85 = .ok (.bipush 24, 2) := by decide +kernel
theorem dX11_least_87 : decode cX11_least 87 = .ok (.iload 6, 2) := by decide +kernel
theorem dX11_least_89 : decode cX11_least 89 = .ok (.imul, 1) := by decide +kernel
theorem dX11_least_90 : decode cX11_least 90 = .ok (.iload 5, 2) := by decide +kernel
theorem dX11_least_92 : decode cX11_least 92 = .ok (.iadd, 1) := by decide +kernel
theorem dX11_least_93 : decode cX11_least 93 = .ok (.iaload, 1) := by decide +kernel
theorem dX11_least_94 : decode cX11_least 94 = .ok (.iadd, 1) := by decide +kernel
theorem dX11_least_95 : decode cX11_least 95 = .ok (.aload_n 0, 1) := by decide +kernel
theorem dX11_least_96 : decode cX11_least 96 = .ok (.getfield 97, 3) := by decide +kernel
theorem dX11_least_99 : decode cX11_least 99 = .ok (.bipush 24, 2) := by decide +kernel
theorem dX11_least_101 : decode cX11_least 101 = .ok (.iload 6, 2) := by decide +kernel
theorem dX11_least_103 : decode cX11_least 103 = .ok (.imul, 1) := by decide +kernel
theorem dX11_least_104 : decode cX11_least 104 = .ok (.iload_n 3, 1) := by decide +kernel
theorem dX11_least_105 : decode cX11_least 105 = .ok (.iadd, 1) := by decide +kernel
theorem dX11_least_106 : decode cX11_least 106 = .ok (.iaload, 1) := by decide +kernel
theorem dX11_least_107 : decode cX11_least 107 = .ok (.iadd, 1) := by decide +kernel
theorem dX11_least_108 : decode cX11_least 108 = .ok (.istore 7, 2) := by decide +kernel
theorem dX11_least_110 : decode cX11_least 110 = .ok (.iload 7, 2) := by decide +kernel
theorem dX11_least_112 : decode cX11_least 112 = .ok (.iload 4, 2) := by decide +kernel
theorem dX11_least_114 : decode cX11_least 114 = .ok (.if_icmp .ge 8, 3) := by decide +kernel
theorem dX11_least_117 : decode cX11_least 117 = .ok (.iload 7, 2) := by decide +kernel
theorem dX11_least_119 : decode cX11_least 119 = .ok (.goto 5, 3) := by decide +kernel
theorem dX11_least_122 : decode cX11_least 122 = .ok (.iload 4, 2) := by decide +kernel
theorem dX11_least_124 : decode cX11_least 124 = .ok (.istore 4, 2) := by decide +kernel
theorem dX11_least_126 : decode cX11_least 126 = .ok (.iinc 6 1, 3) := by decide +kernel
theorem dX11_least_129 : decode cX11_least 129 = .ok (.goto (-76), 3) := by decide +kernel
theorem dX11_least_132 : decode cX11_least 132 = .ok (.iinc 5 1, 3) := by decide +kernel
theorem dX11_least_135 : decode cX11_least 135 = .ok (.goto (-92), 3) := by decide +kernel
theorem dX11_least_138 : decode cX11_least 138 = .ok (.aload_n 0, 1) := by decide +kernel
theorem dX11_least_139 : decode cX11_least 139 = .ok (.getfield 97, 3) := by decide +kernel
theorem dX11_least_142 : decode cX11_least 142 = .ok (.bipush 24, 2) := by decide +kernel
theorem dX11_least_144 : decode cX11_least 144 = .ok (.iload_n 2, 1) := by decide +kernel
theorem dX11_least_145 : decode cX11_least 145 = .ok (.imul, 1) := by decide +kernel
theorem dX11_least_146 : decode cX11_least 146 = .ok (.iload_n 3, 1) := by decide +kernel
theorem dX11_least_147 : decode cX11_least 147 = .ok (.iadd, 1) := by decide +kernel
theorem dX11_least_148 : decode cX11_least 148 = .ok (.iload 4, 2) := by decide +kernel
theorem dX11_least_150 : decode cX11_least 150 = .ok (.iastore, 1) := by decide +kernel
theorem dX11_least_151 : decode cX11_least 151 = .ok (.iinc 2 1, 3) := by decide +kernel
theorem dX11_least_154 : decode cX11_least 154 = .ok (.goto (-142), 3) := by decide +kernel
theorem dX11_least_157 : decode cX11_least 157 = .ok (.iload_n 1, 1) := by decide +kernel
theorem dX11_least_158 : decode cX11_least 158 = .ok (.istore_n 2, 1) := by decide +kernel
theorem dX11_least_159 : decode cX11_least 159 = .ok (.iload_n 2, 1) := by decide +kernel
theorem dX11_least_160 : decode cX11_least 160 = .ok (.aload_n 0, 1) := by decide +kernel
theorem dX11_least_161 : decode cX11_least 161 = .ok (.getfield 196, 3) := by decide +kernel
theorem dX11_least_164 : decode cX11_least 164 = .ok (.if_icmp .ge 136, 3) := by decide +kernel
theorem dX11_least_167 : decode cX11_least 167 = .ok (.iload_n 2, 1) := by decide +kernel
theorem dX11_least_168 : decode cX11_least 168 = .ok (.iload_n 1, 1) := by decide +kernel
theorem dX11_least_169 : decode cX11_least 169 = .ok (.isub, 1) := by decide +kernel
theorem dX11_least_170 : decode cX11_least 170 = .ok (.istore_n 3, 1) := by decide +kernel
theorem dX11_least_171 : decode cX11_least 171 = .ok (.iload_n 1, 1) := by decide +kernel
theorem dX11_least_172 : decode cX11_least 172 = .ok (.ifCond .ne 7, 3) := by decide +kernel
theorem dX11_least_175 : decode cX11_least 175 = .ok (.iconst 0, 1) := by decide +kernel
theorem dX11_least_176 : decode cX11_least 176 = .ok (.goto 5, 3) := by decide +kernel
theorem dX11_least_179 : decode cX11_least 179 = .ok (.ldc 218, 2) := by decide +kernel
theorem dX11_least_181 : decode cX11_least 181 = .ok (.istore 4, 2) := by decide +kernel
theorem dX11_least_183 : decode cX11_least 183 = .ok (.iload_n 3, 1) := by decide +kernel
theorem dX11_least_184 : decode cX11_least 184 = .ok (.istore 5, 2) := by decide +kernel
theorem dX11_least_186 : decode cX11_least 186 = .ok (.iload 5, 2) := by decide +kernel
theorem dX11_least_188 : decode cX11_least 188 = .ok (.iload_n 2, 1) := by decide +kernel
theorem dX11_least_189 : decode cX11_least 189 = .ok (.if_icmp .ge 92, 3) := by decide +kernel
theorem dX11_least_192 : decode cX11_least 192 = .ok (.iload_n 3, 1) := by decide +kernel
theorem dX11_least_193 : decode cX11_least 193 = .ok (.istore 6, 2) := by decide +kernel
theorem dX11_least_195 : decode cX11_least 195 = .ok (.iload 6, 2) := by decide +kernel
theorem dX11_least_197 : decode cX11_least 197 = .ok (.iload 5, 2) := by decide +kernel
theorem dX11_least_199 : decode cX11_least 199 = .ok (.if_icmp .gt 76, 3) := by decide +kernel
theorem dX11_least_202 : decode cX11_least 202 = .ok (.aload_n 0, 1) := by decide +kernel
theorem dX11_least_203 : decode cX11_least 203 = .ok (.getfield 94, 3) := by decide +kernel
theorem dX11_least_206 : decode cX11_least 206 = .ok (.bipush 24, 2) := by decide +kernel
theorem dX11_least_208 : decode cX11_least 208 = .ok (.iload_n 2, 1) := by decide +kernel
theorem dX11_least_209 : decode cX11_least 209 = .ok (.imul, 1) := by decide +kernel
theorem dX11_least_210 : decode cX11_least 210 = .ok (.iload 5, 2) := by decide +kernel
theorem dX11_least_212 : decode cX11_least 212 = .ok (.iadd, 1) := by decide +kernel
theorem dX11_least_213 : decode cX11_least 213 = .ok (.iconst 1, 1) := by decide +kernel
theorem dX11_least_214 : decode cX11_least 214 = .ok (.iadd, 1) := by decide +kernel
theorem dX11_least_215 : decode cX11_least 215 = .ok (.iaload, 1) := by decide +kernel
theorem dX11_least_216 : decode cX11_least 216 = .ok (.aload_n 0, 1) := by decide +kernel
theorem dX11_least_217 : decode cX11_least 217 = .ok (.iload_n 2, 1) := by decide +kernel
theorem dX11_least_218 : decode cX11_least 218 = .ok (.iload 6, 2) := by decide +kernel
theorem dX11_least_220 : decode cX11_least 220 = .ok (.invokevirtual 219, 3) := by decide +kernel
theorem dX11_least_223 : decode cX11_least 223 = .ok (.iadd, 1) := by decide +kernel
theorem dX11_least_224 : decode cX11_least 224 = .ok (.aload_n 0, 1) := by decide +kernel
theorem dX11_least_225 : decode cX11_least 225 = .ok (.getfield 94, 3) := by decide +kernel
theorem dX11_least_228 : decode cX11_least 228 = .ok (.bipush 24, 2) := by decide +kernel
theorem dX11_least_230 : decode cX11_least 230 = .ok (.iload 6, 2) := by decide +kernel
theorem dX11_least_232 : decode cX11_least 232 = .ok (.imul, 1) := by decide +kernel
theorem dX11_least_233 : decode cX11_least 233 = .ok (.iload_n 3, 1) := by decide +kernel
theorem dX11_least_234 : decode cX11_least 234 = .ok (.iadd, 1) := by decide +kernel
theorem dX11_least_235 : decode cX11_least 235 = .ok (.iaload, 1) := by decide +kernel
theorem dX11_least_236 : decode cX11_least 236 = .ok (.iadd, 1) := by decide +kernel
theorem dX11_least_237 : decode cX11_least 237 = .ok (.aload_n 0, 1) := by decide +kernel
theorem dX11_least_238 : decode cX11_least 238 = .ok (.getfield 97, 3) := by decide +kernel
theorem dX11_least_241 : decode cX11_least 241 = .ok (.bipush 24, 2) := by decide +kernel
theorem dX11_least_243 : decode cX11_least 243 = .ok (.iload 6, 2) := by decide +kernel
theorem dX11_least_245 : decode cX11_least 245 = .ok (.imul, 1) := by decide +kernel
theorem dX11_least_246 : decode cX11_least 246 = .ok (.iload 5, 2) := by decide +kernel
theorem dX11_least_248 : decode cX11_least 248 = .ok (.iadd, 1) := by decide +kernel
theorem dX11_least_249 : decode cX11_least 249 = .ok (.iaload, 1) := by decide +kernel
theorem dX11_least_250 : decode cX11_least 250 = .ok (.iadd, 1) := by decide +kernel
theorem dX11_least_251 : decode cX11_least 251 = .ok (.istore 7, 2) := by decide +kernel
theorem dX11_least_253 : decode cX11_least 253 = .ok (.iload 7, 2) := by decide +kernel
theorem dX11_least_255 : decode cX11_least 255 = .ok (.iload 4, 2) := by decide +kernel
theorem dX11_least_257 : decode cX11_least 257 = .ok (.if_icmp .ge 8, 3) := by decide +kernel
theorem dX11_least_260 : decode cX11_least 260 = .ok (.iload 7, 2) := by decide +kernel
theorem dX11_least_262 : decode cX11_least 262 = .ok (.goto 5, 3) := by decide +kernel
theorem dX11_least_265 : decode cX11_least 265 = .ok (.iload 4, 2) := by decide +kernel
theorem dX11_least_267 : decode cX11_least 267 = .ok (.istore 4, 2) := by decide +kernel
theorem dX11_least_269 : decode cX11_least 269 = .ok (.iinc 6 1, 3) := by decide +kernel
theorem dX11_least_272 : decode cX11_least 272 = .ok (.goto (-77), 3) := by decide +kernel
theorem dX11_least_275 : decode cX11_least 275 = .ok (.iinc 5 1, 3) := by decide +kernel
theorem dX11_least_278 : decode cX11_least 278 = .ok (.goto (-92), 3) := by decide +kernel
theorem dX11_least_281 : decode cX11_least 281 = .ok (.aload_n 0, 1) := by decide +kernel
theorem dX11_least_282 : decode cX11_least 282 = .ok (.getfield 94, 3) := by decide +kernel
theorem dX11_least_285 : decode cX11_least 285 = .ok (.bipush 24, 2) := by decide +kernel
theorem dX11_least_287 : decode cX11_least 287 = .ok (.iload_n 2, 1) := by decide +kernel
theorem dX11_least_288 : decode cX11_least 288 = .ok (.imul, 1) := by decide +kernel
theorem dX11_least_289 : decode cX11_least 289 = .ok (.iload_n 3, 1) := by decide +kernel
theorem dX11_least_290 : decode cX11_least 290 = .ok (.iadd, 1) := by decide +kernel
theorem dX11_least_291 : decode cX11_least 291 = .ok (.iload 4, 2) := by decide +kernel
theorem dX11_least_293 : decode cX11_least 293 = .ok (.iastore, 1) := by decide +kernel
theorem dX11_least_294 : decode cX11_least 294 = .ok (.iinc 2 1, 3) := by decide +kernel
theorem dX11_least_297 : decode cX11_least 297 = .ok (.goto (-138), 3) := by decide +kernel
theorem dX11_least_300 : decode cX11_least 300 = .ok (.iinc 1 1, 3) := by decide +kernel
theorem dX11_least_303 : decode cX11_least 303 = .ok (.goto (-301), 3) := by decide +kernel
theorem dX11_least_306 : decode cX11_least 306 = .ok (.ldc 218, 2) := by decide +kernel
theorem dX11_least_308 : decode cX11_least 308 = .ok (.istore_n 1, 1) := by decide +kernel
theorem dX11_least_309 : decode cX11_least 309 = .ok (.iconst 0, 1) := by decide +kernel
theorem dX11_least_310 : decode cX11_least 310 = .ok (.istore_n 2, 1) := by decide +kernel
theorem dX11_least_311 : decode cX11_least 311 = .ok (.iload_n 2, 1) := by decide +kernel
theorem dX11_least_312 : decode cX11_least 312 = .ok (.aload_n 0, 1) := by decide +kernel
theorem dX11_least_313 : decode cX11_least 313 = .ok (.getfield 196, 3) := by decide +kernel
theorem dX11_least_316 : decode cX11_least 316 = .ok (.if_icmp .ge 71, 3) := by decide +kernel
theorem dX11_least_319 : decode cX11_least 319 = .ok (.aload_n 0, 1) := by decide +kernel
theorem dX11_least_320 : decode cX11_least 320 = .ok (.getfield 90, 3) := by decide +kernel
theorem dX11_least_323 : decode cX11_least 323 = .ok (.bipush 25, 2) := by decide +kernel
theorem dX11_least_325 : decode cX11_least 325 = .ok (.iload_n 2, 1) := by decide +kernel
theorem dX11_least_326 : decode cX11_least 326 = .ok (.imul, 1) := by decide +kernel
theorem dX11_least_327 : decode cX11_least 327 = .ok (.baload, 1) := by decide +kernel
theorem dX11_least_328 : decode cX11_least 328 = .ok (.ifCond .eq 8, 3) := by decide +kernel
theorem dX11_least_331 : decode cX11_least 331 = .ok (.ldc 218, 2) := by decide +kernel
theorem dX11_least_333 : decode cX11_least 333 = .ok (.goto 36, 3) := by decide +kernel
theorem dX11_least_336 : decode cX11_least 336 = .ok (.aload_n 0, 1) := by decide +kernel
theorem dX11_least_337 : decode cX11_least 337 = .ok (.getfield 87, 3) := by decide +kernel
theorem dX11_least_340 : decode cX11_least 340 = .ok (.iload_n 2, 1) := by decide +kernel
theorem dX11_least_341 : decode cX11_least 341 = .ok (.iaload, 1) := by decide +kernel
theorem dX11_least_342 : decode cX11_least 342 = .ok (.aload_n 0, 1) := by decide +kernel
theorem dX11_least_343 : decode cX11_least 343 = .ok (.getfield 94, 3) := by decide +kernel
theorem dX11_least_346 : decode cX11_least 346 = .ok (.bipush 24, 2) := by decide +kernel
theorem dX11_least_348 : decode cX11_least 348 = .ok (.iload_n 2, 1) := by decide +kernel
theorem dX11_least_349 : decode cX11_least 349 = .ok (.imul, 1) := by decide +kernel
theorem dX11_least_350 : decode cX11_least 350 = .ok (.iaload, 1) := by decide +kernel
theorem dX11_least_351 : decode cX11_least 351 = .ok (.iadd, 1) := by decide +kernel
theorem dX11_least_352 : decode cX11_least 352 = .ok (.aload_n 0, 1) := by decide +kernel
theorem dX11_least_353 : decode cX11_least 353 = .ok (.getfield 97, 3) := by decide +kernel
theorem dX11_least_356 : decode cX11_least 356 = .ok (.bipush 24, 2) := by decide +kernel
theorem dX11_least_358 : decode cX11_least 358 = .ok (.iload_n 2, 1) := by decide +kernel
theorem dX11_least_359 : decode cX11_least 359 = .ok (.imul, 1) := by decide +kernel
theorem dX11_least_360 : decode cX11_least 360 = .ok (.aload_n 0, 1) := by decide +kernel
theorem dX11_least_361 : decode cX11_least 361 = .ok (.getfield 196, 3) := by decide +kernel
theorem dX11_least_364 : decode cX11_least 364 = .ok (.iadd, 1) := by decide +kernel
theorem dX11_least_365 : decode cX11_least 365 = .ok (.iconst 1, 1) := by decide +kernel
theorem dX11_least_366 : decode cX11_least 366 = .ok (.isub, 1) := by decide +kernel
theorem dX11_least_367 : decode cX11_least 367 = .ok (.iaload, 1) := by decide +kernel
theorem dX11_least_368 : decode cX11_least 368 = .ok (.iadd, 1) := by decide +kernel
theorem dX11_least_369 : decode cX11_least 369 = .ok (.istore_n 3, 1) := by decide +kernel
theorem dX11_least_370 : decode cX11_least 370 = .ok (.iload_n 3, 1) := by decide +kernel
theorem dX11_least_371 : decode cX11_least 371 = .ok (.iload_n 1, 1) := by decide +kernel
theorem dX11_least_372 : decode cX11_least 372 = .ok (.if_icmp .ge 7, 3) := by decide +kernel
theorem dX11_least_375 : decode cX11_least 375 = .ok (.iload_n 3, 1) := by decide +kernel
theorem dX11_least_376 : decode cX11_least 376 = .ok (.goto 4, 3) := by decide +kernel
theorem dX11_least_379 : decode cX11_least 379 = .ok (.iload_n 1, 1) := by decide +kernel
theorem dX11_least_380 : decode cX11_least 380 = .ok (.istore_n 1, 1) := by decide +kernel
theorem dX11_least_381 : decode cX11_least 381 = .ok (.iinc 2 1, 3) := by decide +kernel
theorem dX11_least_384 : decode cX11_least 384 = .ok (.goto (-73), 3) := by decide +kernel
theorem dX11_least_387 : decode cX11_least 387 = .ok (.iload_n 1, 1) := by decide +kernel
theorem dX11_least_388 : decode cX11_least 388 = .ok (.ireturn, 1) := by decide +kernel
theorem dX11_allMay_0 : decode cX11_allMay 0 = .ok (.iconst 0, 1) := by decide +kernel
theorem dX11_allMay_1 : decode cX11_allMay 1 = .ok (.istore_n 1, 1) := by decide +kernel
theorem dX11_allMay_2 : decode cX11_allMay 2 = .ok (.iload_n 1, 1) := by decide +kernel
theorem dX11_allMay_3 : decode cX11_allMay 3 = .ok (.sipush 600, 3) := by decide +kernel
theorem dX11_allMay_6 : decode cX11_allMay 6 = .ok (.if_icmp .ge 16, 3) := by decide +kernel
theorem dX11_allMay_9 : decode cX11_allMay 9 = .ok (.aload_n 0, 1) := by decide +kernel
theorem dX11_allMay_10 : decode cX11_allMay 10 = .ok (.getfield 90, 3) := by decide +kernel
theorem dX11_allMay_13 : decode cX11_allMay 13 = .ok (.iload_n 1, 1) := by decide +kernel
theorem dX11_allMay_14 : decode cX11_allMay 14 = .ok (.iconst 0, 1) := by decide +kernel
theorem dX11_allMay_15 : decode cX11_allMay 15 = .ok (.bastore, 1) := by decide +kernel
theorem dX11_allMay_16 : decode cX11_allMay 16 = .ok (.iinc 1 1, 3) := by decide +kernel
theorem dX11_allMay_19 : decode cX11_allMay 19 = .ok (.goto (-17), 3) := by decide +kernel
theorem dX11_allMay_22 : decode cX11_allMay 22 = .ok (.return_, 1) := by decide +kernel
theorem dX11_fix_0 : decode cX11_fix 0 = .ok (.iconst 0, 1) := by decide +kernel
theorem dX11_fix_1 : decode cX11_fix 1 = .ok (.istore_n 3, 1) := by decide +kernel
theorem dX11_fix_2 : decode cX11_fix 2 = .ok (.iload_n 3, 1) := by decide +kernel
theorem dX11_fix_3 : decode cX11_fix 3 = .ok (.aload_n 0, 1) := by decide +kernel
theorem dX11_fix_4 : decode cX11_fix 4 = .ok (.getfield 196, 3) := by decide +kernel
theorem dX11_fix_7 : decode cX11_fix 7 = .ok (.if_icmp .gt 32, 3) := by decide +kernel
theorem dX11_fix_10 : decode cX11_fix 10 = .ok (.aload_n 0, 1) := by decide +kernel
theorem dX11_fix_11 : decode cX11_fix 11 = .ok (.getfield 90, 3) := by decide +kernel
theorem dX11_fix_14 : decode cX11_fix 14 = .ok (.bipush 25, 2) := by decide +kernel
theorem dX11_fix_16 : decode cX11_fix 16 = .ok (.iload_n 1, 1) := by decide +kernel
theorem dX11_fix_17 : decode cX11_fix 17 = .ok (.imul, 1) := by decide +kernel
theorem dX11_fix_18 : decode cX11_fix 18 = .ok (.iload_n 3, 1) := by decide +kernel
theorem dX11_fix_19 : decode cX11_fix 19 = .ok (.iadd, 1) := by decide +kernel
theorem dX11_fix_20 : decode cX11_fix 20 = .ok (.iload_n 3, 1) := by decide +kernel
theorem dX11_fix_21 : decode cX11_fix 21 = .ok (.iload_n 2, 1) := by decide +kernel
theorem dX11_fix_22 : decode cX11_fix 22 = .ok (.iconst 1, 1) := by decide +kernel
theorem dX11_fix_23 : decode cX11_fix 23 = .ok (.iadd, 1) := by decide +kernel
theorem dX11_fix_24 : decode cX11_fix 24 = .ok (.if_icmp .eq 7, 3) := by decide +kernel
theorem dX11_fix_27 : decode cX11_fix 27 = .ok (.iconst 1, 1) := by decide +kernel
theorem dX11_fix_28 : decode cX11_fix 28 = .ok (.goto 4, 3) := by decide +kernel
theorem dX11_fix_31 : decode cX11_fix 31 = .ok (.iconst 0, 1) := by decide +kernel
theorem dX11_fix_32 : decode cX11_fix 32 = .ok (.bastore, 1) := by decide +kernel
theorem dX11_fix_33 : decode cX11_fix 33 = .ok (.iinc 3 1, 3) := by decide +kernel
theorem dX11_fix_36 : decode cX11_fix 36 = .ok (.goto (-34), 3) := by decide +kernel
theorem dX11_fix_39 : decode cX11_fix 39 = .ok (.return_, 1) := by decide +kernel
theorem dX11_makeTree_0 : decode cX11_makeTree 0 = .ok (.aload_n 0, 1) := by decide +kernel
theorem dX11_makeTree_1 : decode cX11_makeTree 1 = .ok (.getfield 176, 3) := by decide +kernel
theorem dX11_makeTree_4 : decode cX11_makeTree 4 = .ok (.ifCond .eq 4, 3) := by decide +kernel
theorem dX11_makeTree_7 : decode cX11_makeTree 7 = .ok (.return_, 1) := by decide +kernel
theorem dX11_makeTree_8 : decode cX11_makeTree 8 = .ok (.aload_n 0, 1) := by decide +kernel
theorem dX11_makeTree_9 : decode cX11_makeTree 9 = .ok (.iconst 1, 1) := by decide +kernel
theorem dX11_makeTree_10 : decode cX11_makeTree 10 = .ok (.putfield 176, 3) := by decide +kernel
theorem dX11_makeTree_13 : decode cX11_makeTree 13 = .ok (.iconst 0, 1) := by decide +kernel
theorem dX11_makeTree_14 : decode cX11_makeTree 14 = .ok (.istore_n 1, 1) := by decide +kernel
theorem dX11_makeTree_15 : decode cX11_makeTree 15 = .ok (.iload_n 1, 1) := by decide +kernel
theorem dX11_makeTree_16 : decode cX11_makeTree 16 = .ok (.aload_n 0, 1) := by decide +kernel
theorem dX11_makeTree_17 : decode cX11_makeTree 17 = .ok (.getfield 196, 3) := by decide +kernel
theorem dX11_makeTree_20 : decode cX11_makeTree 20 = .ok (.if_icmp .ge 14, 3) := by decide +kernel
theorem dX11_makeTree_23 : decode cX11_makeTree 23 = .ok (.aload_n 0, 1) := by decide +kernel
theorem dX11_makeTree_24 : decode cX11_makeTree 24 = .ok (.iload_n 1, 1) := by decide +kernel
theorem dX11_makeTree_25 : decode cX11_makeTree 25 = .ok (.invokevirtual 222, 3) := by decide +kernel
theorem dX11_makeTree_28 : decode cX11_makeTree 28 = .ok (.iinc 1 1, 3) := by decide +kernel
theorem dX11_makeTree_31 : decode cX11_makeTree 31 = .ok (.goto (-16), 3) := by decide +kernel
theorem dX11_makeTree_34 : decode cX11_makeTree 34 = .ok (.iconst 0, 1) := by decide +kernel
theorem dX11_makeTree_35 : decode cX11_makeTree 35 = .ok (.istore_n 1, 1) := by decide +kernel
theorem dX11_makeTree_36 : decode cX11_makeTree 36 = .ok (.iload_n 1, 1) := by decide +kernel
theorem dX11_makeTree_37 : decode cX11_makeTree 37 = .ok (.aload_n 0, 1) := by decide +kernel
theorem dX11_makeTree_38 : decode cX11_makeTree 38 = .ok (.getfield 196, 3) := by decide +kernel
theorem dX11_makeTree_41 : decode cX11_makeTree 41 = .ok (.if_icmp .ge 82, 3) := by decide +kernel
theorem dX11_makeTree_44 : decode cX11_makeTree 44 = .ok (.aload_n 0, 1) := by decide +kernel
theorem dX11_makeTree_45 : decode cX11_makeTree 45 = .ok (.getfield 87, 3) := by decide +kernel
theorem dX11_makeTree_48 : decode cX11_makeTree 48 = .ok (.iload_n 1, 1) := by decide +kernel
theorem dX11_makeTree_49 : decode cX11_makeTree 49 = .ok (.aload_n 0, 1) := by decide +kernel
theorem dX11_makeTree_50 : decode cX11_makeTree 50 = .ok (.getfield 81, 3) := by decide +kernel
theorem dX11_makeTree_53 : decode cX11_makeTree 53 = .ok (.iload_n 1, 1) := by decide +kernel
theorem dX11_makeTree_54 : decode cX11_makeTree 54 = .ok (.iaload, 1) := by decide +kernel
theorem dX11_makeTree_55 : decode cX11_makeTree 55 = .ok (.iconst 1, 1) := by decide +kernel
theorem dX11_makeTree_56 : decode cX11_makeTree 56 = .ok (.iconst 3, 1) := by decide +kernel
theorem dX11_makeTree_57 : decode cX11_makeTree 57 = .ok (.invokestatic 139, 3) := by decide +kernel
theorem dX11_makeTree_60 : decode cX11_makeTree 60 = .ok (.ifCond .eq 12, 3) := by decide +kernel
theorem dX11_makeTree_63 : decode cX11_makeTree 63 = .ok (.aload_n 0, 1) := by decide +kernel
theorem dX11_makeTree_64 : decode cX11_makeTree 64 = .ok (.getfield 38, 3) := by decide +kernel
theorem dX11_makeTree_67 : decode cX11_makeTree 67 = .ok (.iconst 2, 1) := by decide +kernel
theorem dX11_makeTree_68 : decode cX11_makeTree 68 = .ok (.iaload, 1) := by decide +kernel
theorem dX11_makeTree_69 : decode cX11_makeTree 69 = .ok (.goto 4, 3) := by decide +kernel
theorem dX11_makeTree_72 : decode cX11_makeTree 72 = .ok (.iconst 0, 1) := by decide +kernel
theorem dX11_makeTree_73 : decode cX11_makeTree 73 = .ok (.iastore, 1) := by decide +kernel
theorem dX11_makeTree_74 : decode cX11_makeTree 74 = .ok (.iconst 0, 1) := by decide +kernel
theorem dX11_makeTree_75 : decode cX11_makeTree 75 = .ok (.istore_n 2, 1) := by decide +kernel
theorem dX11_makeTree_76 : decode cX11_makeTree 76 = .ok (.iload_n 2, 1) := by decide +kernel
theorem dX11_makeTree_77 : decode cX11_makeTree 77 = .ok (.aload_n 0, 1) := by decide +kernel
theorem dX11_makeTree_78 : decode cX11_makeTree 78 = .ok (.getfield 196, 3) := by decide +kernel
theorem dX11_makeTree_81 : decode cX11_makeTree 81 = .ok (.if_icmp .ge 36, 3) := by decide +kernel
theorem dX11_makeTree_84 : decode cX11_makeTree 84 = .ok (.aload_n 0, 1) := by decide +kernel
theorem dX11_makeTree_85 : decode cX11_makeTree 85 = .ok (.getfield 84, 3) := by decide +kernel
theorem dX11_makeTree_88 : decode cX11_makeTree 88 = .ok (.bipush 24, 2) := by decide +kernel
theorem dX11_makeTree_90 : decode cX11_makeTree 90 = .ok (.iload_n 1, 1) := by decide +kernel
theorem dX11_makeTree_91 : decode cX11_makeTree 91 = .ok (.imul, 1) := by decide +kernel
theorem dX11_makeTree_92 : decode cX11_makeTree 92 = .ok (.iload_n 2, 1) := by decide +kernel
theorem dX11_makeTree_93 : decode cX11_makeTree 93 = .ok (.iadd, 1) := by decide +kernel
theorem dX11_makeTree_94 : decode cX11_makeTree 94 = .ok (.iload_n 1, 1) := by decide +kernel
theorem dX11_makeTree_95 : decode cX11_makeTree 95 = .ok (.iload_n 2, 1) := by decide +kernel
theorem dX11_makeTree_96 : decode cX11_makeTree 96 = .ok (.if_icmp .ne 8, 3) := by decide +kernel
theorem dX11_makeTree_99 : decode cX11_makeTree 99 = .ok (.ldc 218, 2) := by decide +kernel
theorem dX11_makeTree_101 : decode cX11_makeTree 101 = .ok (.goto 9, 3) := by decide +kernel
theorem dX11_makeTree_104 : decode cX11_makeTree 104 = .ok (.aload_n 0, 1) := by decide +kernel
theorem dX11_makeTree_105 : decode cX11_makeTree 105 = .ok (.iload_n 1, 1) := by decide +kernel
theorem dX11_makeTree_106 : decode cX11_makeTree 106 = .ok (.iload_n 2, 1) := by decide +kernel
theorem dX11_makeTree_107 : decode cX11_makeTree 107 = .ok (.invokevirtual 226, 3) := by decide +kernel
