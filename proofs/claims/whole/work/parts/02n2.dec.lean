theorem dX6_startWord_75 : decode cX6_startWord 75 = .ok (.iconst 1, 1) := by decide +kernel
theorem dX6_startWord_76 : decode cX6_startWord 76 = .ok (.iadd, 1) := by decide +kernel
theorem dX6_startWord_77 : decode cX6_startWord 77 = .ok (.putfield 75, 3) := by decide +kernel
theorem dX6_startWord_80 : decode cX6_startWord 80 = .ok (.aload_n 1, 1) := by decide +kernel
theorem dX6_startWord_81 : decode cX6_startWord 81 = .ok (.getfield 87, 3) := by decide +kernel
theorem dX6_startWord_84 : decode cX6_startWord 84 = .ok (.aload_n 1, 1) := by decide +kernel
theorem dX6_startWord_85 : decode cX6_startWord 85 = .ok (.getfield 59, 3) := by decide +kernel
theorem dX6_startWord_88 : decode cX6_startWord 88 = .ok (.iconst 1, 1) := by decide +kernel
theorem dX6_startWord_89 : decode cX6_startWord 89 = .ok (.isub, 1) := by decide +kernel
theorem dX6_startWord_90 : decode cX6_startWord 90 = .ok (.dup2, 1) := by decide +kernel
theorem dX6_startWord_91 : decode cX6_startWord 91 = .ok (.iaload, 1) := by decide +kernel
theorem dX6_startWord_92 : decode cX6_startWord 92 = .ok (.iconst 1, 1) := by decide +kernel
theorem dX6_startWord_93 : decode cX6_startWord 93 = .ok (.iadd, 1) := by decide +kernel
theorem dX6_startWord_94 : decode cX6_startWord 94 = .ok (.iastore, 1) := by decide +kernel
theorem dX6_startWord_95 : decode cX6_startWord 95 = .ok (.return_, 1) := by decide +kernel
theorem dX6_startSentence_0 : decode cX6_startSentence 0 = .ok (.aload_n 1, 1) := by decide +kernel
theorem dX6_startSentence_1 : decode cX6_startSentence 1 = .ok (.getfield 59, 3) := by decide +kernel
theorem dX6_startSentence_4 : decode cX6_startSentence 4 = .ok (.bipush 24, 2) := by decide +kernel
theorem dX6_startSentence_6 : decode cX6_startSentence 6 = .ok (.if_icmp .lt 10, 3) := by decide +kernel
theorem dX6_startSentence_9 : decode cX6_startSentence 9 = .ok (.aload_n 0, 1) := by decide +kernel
theorem dX6_startSentence_10 : decode cX6_startSentence 10 = .ok (.iconst 4, 1) := by decide +kernel
theorem dX6_startSentence_11 : decode cX6_startSentence 11 = .ok (.iload_n 2, 1) := by decide +kernel
theorem dX6_startSentence_12 : decode cX6_startSentence 12 = .ok (.invokevirtual 62, 3) := by decide +kernel
theorem dX6_startSentence_15 : decode cX6_startSentence 15 = .ok (.return_, 1) := by decide +kernel
theorem dX6_startSentence_16 : decode cX6_startSentence 16 = .ok (.aload_n 0, 1) := by decide +kernel
theorem dX6_startSentence_17 : decode cX6_startSentence 17 = .ok (.getfield 69, 3) := by decide +kernel
theorem dX6_startSentence_20 : decode cX6_startSentence 20 = .ok (.ifCond .eq 13, 3) := by decide +kernel
theorem dX6_startSentence_23 : decode cX6_startSentence 23 = .ok (.aload_n 0, 1) := by decide +kernel
theorem dX6_startSentence_24 : decode cX6_startSentence 24 = .ok (.dup, 1) := by decide +kernel
theorem dX6_startSentence_25 : decode cX6_startSentence 25 = .ok (.getfield 72, 3) := by decide +kernel
theorem dX6_startSentence_28 : decode cX6_startSentence 28 = .ok (.iconst 1, 1) := by decide +kernel
theorem dX6_startSentence_29 : decode cX6_startSentence 29 = .ok (.iadd, 1) := by decide +kernel
theorem dX6_startSentence_30 : decode cX6_startSentence 30 = .ok (.putfield 72, 3) := by decide +kernel
theorem dX6_startSentence_33 : decode cX6_startSentence 33 = .ok (.aload_n 0, 1) := by decide +kernel
theorem dX6_startSentence_34 : decode cX6_startSentence 34 = .ok (.iconst 0, 1) := by decide +kernel
theorem dX6_startSentence_35 : decode cX6_startSentence 35 = .ok (.putfield 69, 3) := by decide +kernel
theorem dX6_startSentence_38 : decode cX6_startSentence 38 = .ok (.aload_n 0, 1) := by decide +kernel
theorem dX6_startSentence_39 : decode cX6_startSentence 39 = .ok (.iconst 0, 1) := by decide +kernel
theorem dX6_startSentence_40 : decode cX6_startSentence 40 = .ok (.putfield 66, 3) := by decide +kernel
theorem dX6_startSentence_43 : decode cX6_startSentence 43 = .ok (.aload_n 0, 1) := by decide +kernel
theorem dX6_startSentence_44 : decode cX6_startSentence 44 = .ok (.iconst 1, 1) := by decide +kernel
theorem dX6_startSentence_45 : decode cX6_startSentence 45 = .ok (.putfield 56, 3) := by decide +kernel
theorem dX6_startSentence_48 : decode cX6_startSentence 48 = .ok (.aload_n 1, 1) := by decide +kernel
theorem dX6_startSentence_49 : decode cX6_startSentence 49 = .ok (.getfield 93, 3) := by decide +kernel
theorem dX6_startSentence_52 : decode cX6_startSentence 52 = .ok (.aload_n 1, 1) := by decide +kernel
theorem dX6_startSentence_53 : decode cX6_startSentence 53 = .ok (.getfield 59, 3) := by decide +kernel
theorem dX6_startSentence_56 : decode cX6_startSentence 56 = .ok (.aload_n 1, 1) := by decide +kernel
theorem dX6_startSentence_57 : decode cX6_startSentence 57 = .ok (.getfield 75, 3) := by decide +kernel
theorem dX6_startSentence_60 : decode cX6_startSentence 60 = .ok (.iastore, 1) := by decide +kernel
theorem dX6_startSentence_61 : decode cX6_startSentence 61 = .ok (.aload_n 1, 1) := by decide +kernel
theorem dX6_startSentence_62 : decode cX6_startSentence 62 = .ok (.getfield 87, 3) := by decide +kernel
theorem dX6_startSentence_65 : decode cX6_startSentence 65 = .ok (.aload_n 1, 1) := by decide +kernel
theorem dX6_startSentence_66 : decode cX6_startSentence 66 = .ok (.getfield 59, 3) := by decide +kernel
theorem dX6_startSentence_69 : decode cX6_startSentence 69 = .ok (.iconst 0, 1) := by decide +kernel
theorem dX6_startSentence_70 : decode cX6_startSentence 70 = .ok (.iastore, 1) := by decide +kernel
theorem dX6_startSentence_71 : decode cX6_startSentence 71 = .ok (.aload_n 1, 1) := by decide +kernel
theorem dX6_startSentence_72 : decode cX6_startSentence 72 = .ok (.getfield 96, 3) := by decide +kernel
theorem dX6_startSentence_75 : decode cX6_startSentence 75 = .ok (.aload_n 1, 1) := by decide +kernel
theorem dX6_startSentence_76 : decode cX6_startSentence 76 = .ok (.getfield 59, 3) := by decide +kernel
theorem dX6_startSentence_79 : decode cX6_startSentence 79 = .ok (.aload_n 0, 1) := by decide +kernel
theorem dX6_startSentence_80 : decode cX6_startSentence 80 = .ok (.getfield 72, 3) := by decide +kernel
theorem dX6_startSentence_83 : decode cX6_startSentence 83 = .ok (.iastore, 1) := by decide +kernel
theorem dX6_startSentence_84 : decode cX6_startSentence 84 = .ok (.aload_n 1, 1) := by decide +kernel
theorem dX6_startSentence_85 : decode cX6_startSentence 85 = .ok (.dup, 1) := by decide +kernel
theorem dX6_startSentence_86 : decode cX6_startSentence 86 = .ok (.getfield 59, 3) := by decide +kernel
theorem dX6_startSentence_89 : decode cX6_startSentence 89 = .ok (.iconst 1, 1) := by decide +kernel
theorem dX6_startSentence_90 : decode cX6_startSentence 90 = .ok (.iadd, 1) := by decide +kernel
theorem dX6_startSentence_91 : decode cX6_startSentence 91 = .ok (.putfield 59, 3) := by decide +kernel
theorem dX6_startSentence_94 : decode cX6_startSentence 94 = .ok (.return_, 1) := by decide +kernel
theorem dX6_takeMark_0 : decode cX6_takeMark 0 = .ok (.iload_n 3, 1) := by decide +kernel
theorem dX6_takeMark_1 : decode cX6_takeMark 1 = .ok (.lookupswitch 102 #[(10, 78), (32, 75), (33, 94), (44, 86), (46, 94), (58, 86), (59, 86), (63, 94)], 75) := by decide +kernel
theorem dX6_takeMark_76 : decode cX6_takeMark 76 = .ok (.goto 33, 3) := by decide +kernel
theorem dX6_takeMark_79 : decode cX6_takeMark 79 = .ok (.aload_n 0, 1) := by decide +kernel
theorem dX6_takeMark_80 : decode cX6_takeMark 80 = .ok (.aload_n 1, 1) := by decide +kernel
theorem dX6_takeMark_81 : decode cX6_takeMark 81 = .ok (.invokevirtual 98, 3) := by decide +kernel
theorem dX6_takeMark_84 : decode cX6_takeMark 84 = .ok (.goto 25, 3) := by decide +kernel
theorem dX6_takeMark_87 : decode cX6_takeMark 87 = .ok (.aload_n 0, 1) := by decide +kernel
theorem dX6_takeMark_88 : decode cX6_takeMark 88 = .ok (.iconst 0, 1) := by decide +kernel
theorem dX6_takeMark_89 : decode cX6_takeMark 89 = .ok (.putfield 66, 3) := by decide +kernel
theorem dX6_takeMark_92 : decode cX6_takeMark 92 = .ok (.goto 17, 3) := by decide +kernel
theorem dX6_takeMark_95 : decode cX6_takeMark 95 = .ok (.aload_n 0, 1) := by decide +kernel
theorem dX6_takeMark_96 : decode cX6_takeMark 96 = .ok (.iload_n 2, 1) := by decide +kernel
theorem dX6_takeMark_97 : decode cX6_takeMark 97 = .ok (.invokevirtual 101, 3) := by decide +kernel
theorem dX6_takeMark_100 : decode cX6_takeMark 100 = .ok (.goto 9, 3) := by decide +kernel
theorem dX6_takeMark_103 : decode cX6_takeMark 103 = .ok (.aload_n 0, 1) := by decide +kernel
theorem dX6_takeMark_104 : decode cX6_takeMark 104 = .ok (.iconst 1, 1) := by decide +kernel
theorem dX6_takeMark_105 : decode cX6_takeMark 105 = .ok (.iload_n 2, 1) := by decide +kernel
theorem dX6_takeMark_106 : decode cX6_takeMark 106 = .ok (.invokevirtual 62, 3) := by decide +kernel
theorem dX6_takeMark_109 : decode cX6_takeMark 109 = .ok (.return_, 1) := by decide +kernel
theorem dX6_takeLineEnd_0 : decode cX6_takeLineEnd 0 = .ok (.aload_n 0, 1) := by decide +kernel
theorem dX6_takeLineEnd_1 : decode cX6_takeLineEnd 1 = .ok (.getfield 56, 3) := by decide +kernel
theorem dX6_takeLineEnd_4 : decode cX6_takeLineEnd 4 = .ok (.ifCond .ne 38, 3) := by decide +kernel
theorem dX6_takeLineEnd_7 : decode cX6_takeLineEnd 7 = .ok (.aload_n 1, 1) := by decide +kernel
theorem dX6_takeLineEnd_8 : decode cX6_takeLineEnd 8 = .ok (.getfield 59, 3) := by decide +kernel
theorem dX6_takeLineEnd_11 : decode cX6_takeLineEnd 11 = .ok (.ifCond .le 31, 3) := by decide +kernel
theorem dX6_takeLineEnd_14 : decode cX6_takeLineEnd 14 = .ok (.aload_n 0, 1) := by decide +kernel
theorem dX6_takeLineEnd_15 : decode cX6_takeLineEnd 15 = .ok (.aload_n 0, 1) := by decide +kernel
theorem dX6_takeLineEnd_16 : decode cX6_takeLineEnd 16 = .ok (.getfield 69, 3) := by decide +kernel
theorem dX6_takeLineEnd_19 : decode cX6_takeLineEnd 19 = .ok (.ifCond .ne 10, 3) := by decide +kernel
theorem dX6_takeLineEnd_22 : decode cX6_takeLineEnd 22 = .ok (.aload_n 0, 1) := by decide +kernel
theorem dX6_takeLineEnd_23 : decode cX6_takeLineEnd 23 = .ok (.getfield 66, 3) := by decide +kernel
theorem dX6_takeLineEnd_26 : decode cX6_takeLineEnd 26 = .ok (.ifCond .eq 7, 3) := by decide +kernel
theorem dX6_takeLineEnd_29 : decode cX6_takeLineEnd 29 = .ok (.iconst 1, 1) := by decide +kernel
theorem dX6_takeLineEnd_30 : decode cX6_takeLineEnd 30 = .ok (.goto 4, 3) := by decide +kernel
theorem dX6_takeLineEnd_33 : decode cX6_takeLineEnd 33 = .ok (.iconst 0, 1) := by decide +kernel
theorem dX6_takeLineEnd_34 : decode cX6_takeLineEnd 34 = .ok (.putfield 69, 3) := by decide +kernel
theorem dX6_takeLineEnd_37 : decode cX6_takeLineEnd 37 = .ok (.aload_n 0, 1) := by decide +kernel
theorem dX6_takeLineEnd_38 : decode cX6_takeLineEnd 38 = .ok (.iconst 1, 1) := by decide +kernel
theorem dX6_takeLineEnd_39 : decode cX6_takeLineEnd 39 = .ok (.putfield 66, 3) := by decide +kernel
theorem dX6_takeLineEnd_42 : decode cX6_takeLineEnd 42 = .ok (.return_, 1) := by decide +kernel
theorem dX6_takeSentenceEnd_0 : decode cX6_takeSentenceEnd 0 = .ok (.aload_n 0, 1) := by decide +kernel
theorem dX6_takeSentenceEnd_1 : decode cX6_takeSentenceEnd 1 = .ok (.getfield 56, 3) := by decide +kernel
theorem dX6_takeSentenceEnd_4 : decode cX6_takeSentenceEnd 4 = .ok (.ifCond .ne 9, 3) := by decide +kernel
theorem dX6_takeSentenceEnd_7 : decode cX6_takeSentenceEnd 7 = .ok (.aload_n 0, 1) := by decide +kernel
theorem dX6_takeSentenceEnd_8 : decode cX6_takeSentenceEnd 8 = .ok (.iconst 5, 1) := by decide +kernel
theorem dX6_takeSentenceEnd_9 : decode cX6_takeSentenceEnd 9 = .ok (.iload_n 1, 1) := by decide +kernel
theorem dX6_takeSentenceEnd_10 : decode cX6_takeSentenceEnd 10 = .ok (.invokevirtual 62, 3) := by decide +kernel
theorem dX6_takeSentenceEnd_13 : decode cX6_takeSentenceEnd 13 = .ok (.aload_n 0, 1) := by decide +kernel
theorem dX6_takeSentenceEnd_14 : decode cX6_takeSentenceEnd 14 = .ok (.iconst 0, 1) := by decide +kernel
theorem dX6_takeSentenceEnd_15 : decode cX6_takeSentenceEnd 15 = .ok (.putfield 56, 3) := by decide +kernel
theorem dX6_takeSentenceEnd_18 : decode cX6_takeSentenceEnd 18 = .ok (.return_, 1) := by decide +kernel
theorem dX7_init_0 : decode cX7_init 0 = .ok (.aload_n 0, 1) := by decide +kernel
theorem dX7_init_1 : decode cX7_init 1 = .ok (.invokespecial 3, 3) := by decide +kernel
theorem dX7_init_4 : decode cX7_init 4 = .ok (.aload_n 0, 1) := by decide +kernel
theorem dX7_init_5 : decode cX7_init 5 = .ok (.sipush 3000, 3) := by decide +kernel
theorem dX7_init_8 : decode cX7_init 8 = .ok (.newarray .int, 2) := by decide +kernel
theorem dX7_init_10 : decode cX7_init 10 = .ok (.putfield 9, 3) := by decide +kernel
theorem dX7_init_13 : decode cX7_init 13 = .ok (.return_, 1) := by decide +kernel
theorem dX7_append_0 : decode cX7_append 0 = .ok (.bipush 24, 2) := by decide +kernel
theorem dX7_append_2 : decode cX7_append 2 = .ok (.istore_n 2, 1) := by decide +kernel
theorem dX7_append_3 : decode cX7_append 3 = .ok (.iload_n 2, 1) := by decide +kernel
theorem dX7_append_4 : decode cX7_append 4 = .ok (.ifCond .lt 45, 3) := by decide +kernel
theorem dX7_append_7 : decode cX7_append 7 = .ok (.aload_n 0, 1) := by decide +kernel
theorem dX7_append_8 : decode cX7_append 8 = .ok (.getfield 15, 3) := by decide +kernel
theorem dX7_append_11 : decode cX7_append 11 = .ok (.sipush 3000, 3) := by decide +kernel
theorem dX7_append_14 : decode cX7_append 14 = .ok (.if_icmp .ge 29, 3) := by decide +kernel
theorem dX7_append_17 : decode cX7_append 17 = .ok (.aload_n 0, 1) := by decide +kernel
theorem dX7_append_18 : decode cX7_append 18 = .ok (.getfield 9, 3) := by decide +kernel
theorem dX7_append_21 : decode cX7_append 21 = .ok (.aload_n 0, 1) := by decide +kernel
theorem dX7_append_22 : decode cX7_append 22 = .ok (.getfield 15, 3) := by decide +kernel
theorem dX7_append_25 : decode cX7_append 25 = .ok (.iload_n 1, 1) := by decide +kernel
theorem dX7_append_26 : decode cX7_append 26 = .ok (.iload_n 2, 1) := by decide +kernel
theorem dX7_append_27 : decode cX7_append 27 = .ok (.iushr, 1) := by decide +kernel
theorem dX7_append_28 : decode cX7_append 28 = .ok (.sipush 255, 3) := by decide +kernel
theorem dX7_append_31 : decode cX7_append 31 = .ok (.iand, 1) := by decide +kernel
theorem dX7_append_32 : decode cX7_append 32 = .ok (.iastore, 1) := by decide +kernel
theorem dX7_append_33 : decode cX7_append 33 = .ok (.aload_n 0, 1) := by decide +kernel
theorem dX7_append_34 : decode cX7_append 34 = .ok (.dup, 1) := by decide +kernel
theorem dX7_append_35 : decode cX7_append 35 = .ok (.getfield 15, 3) := by decide +kernel
theorem dX7_append_38 : decode cX7_append 38 = .ok (.iconst 1, 1) := by decide +kernel
theorem dX7_append_39 : decode cX7_append 39 = .ok (.iadd, 1) := by decide +kernel
theorem dX7_append_40 : decode cX7_append 40 = .ok (.putfield 15, 3) := by decide +kernel
theorem dX7_append_43 : decode cX7_append 43 = .ok (.iinc 2 (-8), 3) := by decide +kernel
theorem dX7_append_46 : decode cX7_append 46 = .ok (.goto (-43), 3) := by decide +kernel
theorem dX7_append_49 : decode cX7_append 49 = .ok (.return_, 1) := by decide +kernel
theorem dX7_takeWord_0 : decode cX7_takeWord 0 = .ok (.aload_n 0, 1) := by decide +kernel
theorem dX7_takeWord_1 : decode cX7_takeWord 1 = .ok (.getfield 15, 3) := by decide +kernel
theorem dX7_takeWord_4 : decode cX7_takeWord 4 = .ok (.istore_n 2, 1) := by decide +kernel
theorem dX7_takeWord_5 : decode cX7_takeWord 5 = .ok (.aload_n 0, 1) := by decide +kernel
theorem dX7_takeWord_6 : decode cX7_takeWord 6 = .ok (.iconst 0, 1) := by decide +kernel
theorem dX7_takeWord_7 : decode cX7_takeWord 7 = .ok (.putfield 15, 3) := by decide +kernel
theorem dX7_takeWord_10 : decode cX7_takeWord 10 = .ok (.iload_n 2, 1) := by decide +kernel
theorem dX7_takeWord_11 : decode cX7_takeWord 11 = .ok (.iload_n 1, 1) := by decide +kernel
theorem dX7_takeWord_12 : decode cX7_takeWord 12 = .ok (.if_icmp .gt 10, 3) := by decide +kernel
theorem dX7_takeWord_15 : decode cX7_takeWord 15 = .ok (.iload_n 2, 1) := by decide +kernel
theorem dX7_takeWord_16 : decode cX7_takeWord 16 = .ok (.sipush 3000, 3) := by decide +kernel
theorem dX7_takeWord_19 : decode cX7_takeWord 19 = .ok (.if_icmp .le 5, 3) := by decide +kernel
theorem dX7_takeWord_22 : decode cX7_takeWord 22 = .ok (.iconst 0, 1) := by decide +kernel
theorem dX7_takeWord_23 : decode cX7_takeWord 23 = .ok (.ireturn, 1) := by decide +kernel
theorem dX7_takeWord_24 : decode cX7_takeWord 24 = .ok (.iconst 0, 1) := by decide +kernel
theorem dX7_takeWord_25 : decode cX7_takeWord 25 = .ok (.istore_n 3, 1) := by decide +kernel
theorem dX7_takeWord_26 : decode cX7_takeWord 26 = .ok (.iload_n 3, 1) := by decide +kernel
theorem dX7_takeWord_27 : decode cX7_takeWord 27 = .ok (.iload_n 2, 1) := by decide +kernel
theorem dX7_takeWord_28 : decode cX7_takeWord 28 = .ok (.if_icmp .ge 38, 3) := by decide +kernel
theorem dX7_takeWord_31 : decode cX7_takeWord 31 = .ok (.aload_n 0, 1) := by decide +kernel
theorem dX7_takeWord_32 : decode cX7_takeWord 32 = .ok (.getfield 9, 3) := by decide +kernel
theorem dX7_takeWord_35 : decode cX7_takeWord 35 = .ok (.iload_n 3, 1) := by decide +kernel
theorem dX7_takeWord_36 : decode cX7_takeWord 36 = .ok (.aload_n 0, 1) := by decide +kernel
theorem dX7_takeWord_37 : decode cX7_takeWord 37 = .ok (.getfield 9, 3) := by decide +kernel
theorem dX7_takeWord_40 : decode cX7_takeWord 40 = .ok (.iload_n 3, 1) := by decide +kernel
theorem dX7_takeWord_41 : decode cX7_takeWord 41 = .ok (.iaload, 1) := by decide +kernel
theorem dX7_takeWord_42 : decode cX7_takeWord 42 = .ok (.invokestatic 19, 3) := by decide +kernel
theorem dX7_takeWord_45 : decode cX7_takeWord 45 = .ok (.iastore, 1) := by decide +kernel
theorem dX7_takeWord_46 : decode cX7_takeWord 46 = .ok (.aload_n 0, 1) := by decide +kernel
theorem dX7_takeWord_47 : decode cX7_takeWord 47 = .ok (.getfield 9, 3) := by decide +kernel
theorem dX7_takeWord_50 : decode cX7_takeWord 50 = .ok (.iload_n 3, 1) := by decide +kernel
theorem dX7_takeWord_51 : decode cX7_takeWord 51 = .ok (.iaload, 1) := by decide +kernel
theorem dX7_takeWord_52 : decode cX7_takeWord 52 = .ok (.invokestatic 23, 3) := by decide +kernel
theorem dX7_takeWord_55 : decode cX7_takeWord 55 = .ok (.ifCond .ne 5, 3) := by decide +kernel
theorem dX7_takeWord_58 : decode cX7_takeWord 58 = .ok (.iconst 0, 1) := by decide +kernel
theorem dX7_takeWord_59 : decode cX7_takeWord 59 = .ok (.ireturn, 1) := by decide +kernel
theorem dX7_takeWord_60 : decode cX7_takeWord 60 = .ok (.iinc 3 1, 3) := by decide +kernel
theorem dX7_takeWord_63 : decode cX7_takeWord 63 = .ok (.goto (-37), 3) := by decide +kernel
theorem dX7_takeWord_66 : decode cX7_takeWord 66 = .ok (.iload_n 2, 1) := by decide +kernel
theorem dX7_takeWord_67 : decode cX7_takeWord 67 = .ok (.ireturn, 1) := by decide +kernel
theorem dX8_init_0 : decode cX8_init 0 = .ok (.aload_n 0, 1) := by decide +kernel
theorem dX8_init_1 : decode cX8_init 1 = .ok (.invokespecial 3, 3) := by decide +kernel
theorem dX8_init_4 : decode cX8_init 4 = .ok (.aload_n 0, 1) := by decide +kernel
theorem dX8_init_5 : decode cX8_init 5 = .ok (.sipush 3000, 3) := by decide +kernel
theorem dX8_init_8 : decode cX8_init 8 = .ok (.newarray .int, 2) := by decide +kernel
theorem dX8_init_10 : decode cX8_init 10 = .ok (.putfield 9, 3) := by decide +kernel
theorem dX8_init_13 : decode cX8_init 13 = .ok (.aload_n 0, 1) := by decide +kernel
theorem dX8_init_14 : decode cX8_init 14 = .ok (.sipush 960, 3) := by decide +kernel
theorem dX8_init_17 : decode cX8_init 17 = .ok (.newarray .int, 2) := by decide +kernel
theorem dX8_init_19 : decode cX8_init 19 = .ok (.putfield 15, 3) := by decide +kernel
theorem dX8_init_22 : decode cX8_init 22 = .ok (.aload_n 0, 1) := by decide +kernel
theorem dX8_init_23 : decode cX8_init 23 = .ok (.sipush 960, 3) := by decide +kernel
theorem dX8_init_26 : decode cX8_init 26 = .ok (.newarray .int, 2) := by decide +kernel
theorem dX8_init_28 : decode cX8_init 28 = .ok (.putfield 18, 3) := by decide +kernel
theorem dX8_init_31 : decode cX8_init 31 = .ok (.aload_n 0, 1) := by decide +kernel
theorem dX8_init_32 : decode cX8_init 32 = .ok (.bipush 24, 2) := by decide +kernel
theorem dX8_init_34 : decode cX8_init 34 = .ok (.newarray .int, 2) := by decide +kernel
theorem dX8_init_36 : decode cX8_init 36 = .ok (.putfield 21, 3) := by decide +kernel
theorem dX8_init_39 : decode cX8_init 39 = .ok (.aload_n 0, 1) := by decide +kernel
theorem dX8_init_40 : decode cX8_init 40 = .ok (.bipush 24, 2) := by decide +kernel
theorem dX8_init_42 : decode cX8_init 42 = .ok (.newarray .int, 2) := by decide +kernel
theorem dX8_init_44 : decode cX8_init 44 = .ok (.putfield 24, 3) := by decide +kernel
theorem dX8_init_47 : decode cX8_init 47 = .ok (.aload_n 0, 1) := by decide +kernel
theorem dX8_init_48 : decode cX8_init 48 = .ok (.bipush 24, 2) := by decide +kernel
theorem dX8_init_50 : decode cX8_init 50 = .ok (.newarray .int, 2) := by decide +kernel
theorem dX8_init_52 : decode cX8_init 52 = .ok (.putfield 27, 3) := by decide +kernel
theorem dX8_init_55 : decode cX8_init 55 = .ok (.return_, 1) := by decide +kernel
theorem dX8_paragraphs_0 : decode cX8_paragraphs 0 = .ok (.aload_n 0, 1) := by decide +kernel
theorem dX8_paragraphs_1 : decode cX8_paragraphs 1 = .ok (.getfield 30, 3) := by decide +kernel
theorem dX8_paragraphs_4 : decode cX8_paragraphs 4 = .ok (.ifCond .ne 7, 3) := by decide +kernel
theorem dX8_paragraphs_7 : decode cX8_paragraphs 7 = .ok (.iconst 0, 1) := by decide +kernel
theorem dX8_paragraphs_8 : decode cX8_paragraphs 8 = .ok (.goto 16, 3) := by decide +kernel
theorem dX8_paragraphs_11 : decode cX8_paragraphs 11 = .ok (.aload_n 0, 1) := by decide +kernel
theorem dX8_paragraphs_12 : decode cX8_paragraphs 12 = .ok (.getfield 27, 3) := by decide +kernel
theorem dX8_paragraphs_15 : decode cX8_paragraphs 15 = .ok (.aload_n 0, 1) := by decide +kernel
theorem dX8_paragraphs_16 : decode cX8_paragraphs 16 = .ok (.getfield 30, 3) := by decide +kernel
theorem dX8_paragraphs_19 : decode cX8_paragraphs 19 = .ok (.iconst 1, 1) := by decide +kernel
theorem dX8_paragraphs_20 : decode cX8_paragraphs 20 = .ok (.isub, 1) := by decide +kernel
theorem dX8_paragraphs_21 : decode cX8_paragraphs 21 = .ok (.iaload, 1) := by decide +kernel
theorem dX8_paragraphs_22 : decode cX8_paragraphs 22 = .ok (.iconst 1, 1) := by decide +kernel
theorem dX8_paragraphs_23 : decode cX8_paragraphs 23 = .ok (.iadd, 1) := by decide +kernel
theorem dX8_paragraphs_24 : decode cX8_paragraphs 24 = .ok (.ireturn, 1) := by decide +kernel
theorem dX9_init_0 : decode cX9_init 0 = .ok (.aload_n 0, 1) := by decide +kernel
theorem dX9_init_1 : decode cX9_init 1 = .ok (.invokespecial 3, 3) := by decide +kernel
theorem dX9_init_4 : decode cX9_init 4 = .ok (.aload_n 0, 1) := by decide +kernel
theorem dX9_init_5 : decode cX9_init 5 = .ok (.iload_n 1, 1) := by decide +kernel
theorem dX9_init_6 : decode cX9_init 6 = .ok (.putfield 9, 3) := by decide +kernel
theorem dX9_init_9 : decode cX9_init 9 = .ok (.aload_n 0, 1) := by decide +kernel
theorem dX9_init_10 : decode cX9_init 10 = .ok (.iload_n 2, 1) := by decide +kernel
theorem dX9_init_11 : decode cX9_init 11 = .ok (.putfield 15, 3) := by decide +kernel
theorem dX9_init_14 : decode cX9_init 14 = .ok (.aload_n 0, 1) := by decide +kernel
theorem dX9_init_15 : decode cX9_init 15 = .ok (.iload_n 1, 1) := by decide +kernel
theorem dX9_init_16 : decode cX9_init 16 = .ok (.iload_n 2, 1) := by decide +kernel
theorem dX9_init_17 : decode cX9_init 17 = .ok (.imul, 1) := by decide +kernel
theorem dX9_init_18 : decode cX9_init 18 = .ok (.newarray .int, 2) := by decide +kernel
theorem dX9_init_20 : decode cX9_init 20 = .ok (.putfield 18, 3) := by decide +kernel
theorem dX9_init_23 : decode cX9_init 23 = .ok (.aload_n 0, 1) := by decide +kernel
theorem dX9_init_24 : decode cX9_init 24 = .ok (.iload_n 1, 1) := by decide +kernel
theorem dX9_init_25 : decode cX9_init 25 = .ok (.newarray .int, 2) := by decide +kernel
theorem dX9_init_27 : decode cX9_init 27 = .ok (.putfield 22, 3) := by decide +kernel
theorem dX9_init_30 : decode cX9_init 30 = .ok (.aload_n 0, 1) := by decide +kernel
theorem dX9_init_31 : decode cX9_init 31 = .ok (.iload_n 1, 1) := by decide +kernel
theorem dX9_init_32 : decode cX9_init 32 = .ok (.newarray .int, 2) := by decide +kernel
theorem dX9_init_34 : decode cX9_init 34 = .ok (.putfield 25, 3) := by decide +kernel
theorem dX9_init_37 : decode cX9_init 37 = .ok (.return_, 1) := by decide +kernel
theorem dX9_isFull_0 : decode cX9_isFull 0 = .ok (.aload_n 0, 1) := by decide +kernel
theorem dX9_isFull_1 : decode cX9_isFull 1 = .ok (.getfield 28, 3) := by decide +kernel
theorem dX9_isFull_4 : decode cX9_isFull 4 = .ok (.aload_n 0, 1) := by decide +kernel
theorem dX9_isFull_5 : decode cX9_isFull 5 = .ok (.getfield 9, 3) := by decide +kernel
theorem dX9_isFull_8 : decode cX9_isFull 8 = .ok (.if_icmp .lt 7, 3) := by decide +kernel
theorem dX9_isFull_11 : decode cX9_isFull 11 = .ok (.iconst 1, 1) := by decide +kernel
theorem dX9_isFull_12 : decode cX9_isFull 12 = .ok (.goto 4, 3) := by decide +kernel
theorem dX9_isFull_15 : decode cX9_isFull 15 = .ok (.iconst 0, 1) := by decide +kernel
theorem dX9_isFull_16 : decode cX9_isFull 16 = .ok (.ireturn, 1) := by decide +kernel
theorem dX9_find_0 : decode cX9_find 0 = .ok (.iconst 0, 1) := by decide +kernel
theorem dX9_find_1 : decode cX9_find 1 = .ok (.istore 4, 2) := by decide +kernel
theorem dX9_find_3 : decode cX9_find 3 = .ok (.iload 4, 2) := by decide +kernel
theorem dX9_find_5 : decode cX9_find 5 = .ok (.aload_n 0, 1) := by decide +kernel
theorem dX9_find_6 : decode cX9_find 6 = .ok (.getfield 28, 3) := by decide +kernel
theorem dX9_find_9 : decode cX9_find 9 = .ok (.if_icmp .ge 34, 3) := by decide +kernel
theorem dX9_find_12 : decode cX9_find 12 = .ok (.aload_n 0, 1) := by decide +kernel
theorem dX9_find_13 : decode cX9_find 13 = .ok (.getfield 22, 3) := by decide +kernel
theorem dX9_find_16 : decode cX9_find 16 = .ok (.iload 4, 2) := by decide +kernel
theorem dX9_find_18 : decode cX9_find 18 = .ok (.iaload, 1) := by decide +kernel
theorem dX9_find_19 : decode cX9_find 19 = .ok (.iload_n 3, 1) := by decide +kernel
theorem dX9_find_20 : decode cX9_find 20 = .ok (.if_icmp .ne 17, 3) := by decide +kernel
theorem dX9_find_23 : decode cX9_find 23 = .ok (.aload_n 0, 1) := by decide +kernel
theorem dX9_find_24 : decode cX9_find 24 = .ok (.iload 4, 2) := by decide +kernel
theorem dX9_find_26 : decode cX9_find 26 = .ok (.aload_n 1, 1) := by decide +kernel
theorem dX9_find_27 : decode cX9_find 27 = .ok (.iload_n 2, 1) := by decide +kernel
theorem dX9_find_28 : decode cX9_find 28 = .ok (.invokevirtual 31, 3) := by decide +kernel
theorem dX9_find_31 : decode cX9_find 31 = .ok (.ifCond .eq 6, 3) := by decide +kernel
theorem dX9_find_34 : decode cX9_find 34 = .ok (.iload 4, 2) := by decide +kernel
theorem dX9_find_36 : decode cX9_find 36 = .ok (.ireturn, 1) := by decide +kernel
theorem dX9_find_37 : decode cX9_find 37 = .ok (.iinc 4 1, 3) := by decide +kernel
theorem dX9_find_40 : decode cX9_find 40 = .ok (.goto (-37), 3) := by decide +kernel
theorem dX9_find_43 : decode cX9_find 43 = .ok (.iconst (-1), 1) := by decide +kernel
theorem dX9_find_44 : decode cX9_find 44 = .ok (.ireturn, 1) := by decide +kernel
theorem dX9_isAt_0 : decode cX9_isAt 0 = .ok (.iload_n 1, 1) := by decide +kernel
theorem dX9_isAt_1 : decode cX9_isAt 1 = .ok (.aload_n 0, 1) := by decide +kernel
theorem dX9_isAt_2 : decode cX9_isAt 2 = .ok (.getfield 15, 3) := by decide +kernel
theorem dX9_isAt_5 : decode cX9_isAt 5 = .ok (.imul, 1) := by decide +kernel
theorem dX9_isAt_6 : decode cX9_isAt 6 = .ok (.istore 4, 2) := by decide +kernel
theorem dX9_isAt_8 : decode cX9_isAt 8 = .ok (.iconst 0, 1) := by decide +kernel
theorem dX9_isAt_9 : decode cX9_isAt 9 = .ok (.istore 5, 2) := by decide +kernel
theorem dX9_isAt_11 : decode cX9_isAt 11 = .ok (.iload 5, 2) := by decide +kernel
theorem dX9_isAt_13 : decode cX9_isAt 13 = .ok (.aload_n 0, 1) := by decide +kernel
theorem dX9_isAt_14 : decode cX9_isAt 14 = .ok (.getfield 22, 3) := by decide +kernel
theorem dX9_isAt_17 : decode cX9_isAt 17 = .ok (.iload_n 1, 1) := by decide +kernel
theorem dX9_isAt_18 : decode cX9_isAt 18 = .ok (.iaload, 1) := by decide +kernel
theorem dX9_isAt_19 : decode cX9_isAt 19 = .ok (.if_icmp .ge 30, 3) := by decide +kernel
theorem dX9_isAt_22 : decode cX9_isAt 22 = .ok (.aload_n 0, 1) := by decide +kernel
theorem dX9_isAt_23 : decode cX9_isAt 23 = .ok (.getfield 18, 3) := by decide +kernel
theorem dX9_isAt_26 : decode cX9_isAt 26 = .ok (.iload 4, 2) := by decide +kernel
theorem dX9_isAt_28 : decode cX9_isAt 28 = .ok (.iload 5, 2) := by decide +kernel
theorem dX9_isAt_30 : decode cX9_isAt 30 = .ok (.iadd, 1) := by decide +kernel
theorem dX9_isAt_31 : decode cX9_isAt 31 = .ok (.iaload, 1) := by decide +kernel
theorem dX9_isAt_32 : decode cX9_isAt 32 = .ok (.aload_n 2, 1) := by decide +kernel
theorem dX9_isAt_33 : decode cX9_isAt 33 = .ok (.iload_n 3, 1) := by decide +kernel
theorem dX9_isAt_34 : decode cX9_isAt 34 = .ok (.iload 5, 2) := by decide +kernel
theorem dX9_isAt_36 : decode cX9_isAt 36 = .ok (.iadd, 1) := by decide +kernel
theorem dX9_isAt_37 : decode cX9_isAt 37 = .ok (.iaload, 1) := by decide +kernel
theorem dX9_isAt_38 : decode cX9_isAt 38 = .ok (.if_icmp .eq 5, 3) := by decide +kernel
theorem dX9_isAt_41 : decode cX9_isAt 41 = .ok (.iconst 0, 1) := by decide +kernel
theorem dX9_isAt_42 : decode cX9_isAt 42 = .ok (.ireturn, 1) := by decide +kernel
theorem dX9_isAt_43 : decode cX9_isAt 43 = .ok (.iinc 5 1, 3) := by decide +kernel
theorem dX9_isAt_46 : decode cX9_isAt 46 = .ok (.goto (-35), 3) := by decide +kernel
theorem dX9_isAt_49 : decode cX9_isAt 49 = .ok (.iconst 1, 1) := by decide +kernel
theorem dX9_isAt_50 : decode cX9_isAt 50 = .ok (.ireturn, 1) := by decide +kernel
theorem dX9_add_0 : decode cX9_add 0 = .ok (.aload_n 0, 1) := by decide +kernel
theorem dX9_add_1 : decode cX9_add 1 = .ok (.getfield 28, 3) := by decide +kernel
theorem dX9_add_4 : decode cX9_add 4 = .ok (.aload_n 0, 1) := by decide +kernel
theorem dX9_add_5 : decode cX9_add 5 = .ok (.getfield 9, 3) := by decide +kernel
theorem dX9_add_8 : decode cX9_add 8 = .ok (.if_icmp .ge 60, 3) := by decide +kernel
theorem dX9_add_11 : decode cX9_add 11 = .ok (.iload_n 2, 1) := by decide +kernel
theorem dX9_add_12 : decode cX9_add 12 = .ok (.aload_n 0, 1) := by decide +kernel
theorem dX9_add_13 : decode cX9_add 13 = .ok (.getfield 15, 3) := by decide +kernel
theorem dX9_add_16 : decode cX9_add 16 = .ok (.if_icmp .gt 52, 3) := by decide +kernel
theorem dX9_add_19 : decode cX9_add 19 = .ok (.aload_n 1, 1) := by decide +kernel
theorem dX9_add_20 : decode cX9_add 20 = .ok (.iconst 0, 1) := by decide +kernel
theorem dX9_add_21 : decode cX9_add 21 = .ok (.aload_n 0, 1) := by decide +kernel
theorem dX9_add_22 : decode cX9_add 22 = .ok (.getfield 18, 3) := by decide +kernel
theorem dX9_add_25 : decode cX9_add 25 = .ok (.aload_n 0, 1) := by decide +kernel
theorem dX9_add_26 : decode cX9_add 26 = .ok (.getfield 28, 3) := by decide +kernel
theorem dX9_add_29 : decode cX9_add 29 = .ok (.aload_n 0, 1) := by decide +kernel
theorem dX9_add_30 : decode cX9_add 30 = .ok (.getfield 15, 3) := by decide +kernel
theorem dX9_add_33 : decode cX9_add 33 = .ok (.imul, 1) := by decide +kernel
theorem dX9_add_34 : decode cX9_add 34 = .ok (.iload_n 2, 1) := by decide +kernel
theorem dX9_add_35 : decode cX9_add 35 = .ok (.invokestatic 35, 3) := by decide +kernel
theorem dX9_add_38 : decode cX9_add 38 = .ok (.aload_n 0, 1) := by decide +kernel
theorem dX9_add_39 : decode cX9_add 39 = .ok (.getfield 22, 3) := by decide +kernel
theorem dX9_add_42 : decode cX9_add 42 = .ok (.aload_n 0, 1) := by decide +kernel
theorem dX9_add_43 : decode cX9_add 43 = .ok (.getfield 28, 3) := by decide +kernel
theorem dX9_add_46 : decode cX9_add 46 = .ok (.iload_n 2, 1) := by decide +kernel
theorem dX9_add_47 : decode cX9_add 47 = .ok (.iastore, 1) := by decide +kernel
theorem dX9_add_48 : decode cX9_add 48 = .ok (.aload_n 0, 1) := by decide +kernel
theorem dX9_add_49 : decode cX9_add 49 = .ok (.getfield 25, 3) := by decide +kernel
theorem dX9_add_52 : decode cX9_add 52 = .ok (.aload_n 0, 1) := by decide +kernel
theorem dX9_add_53 : decode cX9_add 53 = .ok (.getfield 28, 3) := by decide +kernel
theorem dX9_add_56 : decode cX9_add 56 = .ok (.iload_n 3, 1) := by decide +kernel
theorem dX9_add_57 : decode cX9_add 57 = .ok (.iastore, 1) := by decide +kernel
theorem dX9_add_58 : decode cX9_add 58 = .ok (.aload_n 0, 1) := by decide +kernel
theorem dX9_add_59 : decode cX9_add 59 = .ok (.dup, 1) := by decide +kernel
theorem dX9_add_60 : decode cX9_add 60 = .ok (.getfield 28, 3) := by decide +kernel
theorem dX9_add_63 : decode cX9_add 63 = .ok (.iconst 1, 1) := by decide +kernel
theorem dX9_add_64 : decode cX9_add 64 = .ok (.iadd, 1) := by decide +kernel
theorem dX9_add_65 : decode cX9_add 65 = .ok (.putfield 28, 3) := by decide +kernel
theorem dX9_add_68 : decode cX9_add 68 = .ok (.return_, 1) := by decide +kernel
theorem dX9_drop_0 : decode cX9_drop 0 = .ok (.iload_n 1, 1) := by decide +kernel
theorem dX9_drop_1 : decode cX9_drop 1 = .ok (.ifCond .lt 81, 3) := by decide +kernel
theorem dX9_drop_4 : decode cX9_drop 4 = .ok (.iload_n 1, 1) := by decide +kernel
theorem dX9_drop_5 : decode cX9_drop 5 = .ok (.aload_n 0, 1) := by decide +kernel
theorem dX9_drop_6 : decode cX9_drop 6 = .ok (.getfield 28, 3) := by decide +kernel
theorem dX9_drop_9 : decode cX9_drop 9 = .ok (.if_icmp .ge 73, 3) := by decide +kernel
theorem dX9_drop_12 : decode cX9_drop 12 = .ok (.aload_n 0, 1) := by decide +kernel
theorem dX9_drop_13 : decode cX9_drop 13 = .ok (.dup, 1) := by decide +kernel
theorem dX9_drop_14 : decode cX9_drop 14 = .ok (.getfield 28, 3) := by decide +kernel
theorem dX9_drop_17 : decode cX9_drop 17 = .ok (.iconst 1, 1) := by decide +kernel
theorem dX9_drop_18 : decode cX9_drop 18 = .ok (.isub, 1) := by decide +kernel
theorem dX9_drop_19 : decode cX9_drop 19 = .ok (.putfield 28, 3) := by decide +kernel
theorem dX9_drop_22 : decode cX9_drop 22 = .ok (.aload_n 0, 1) := by decide +kernel
theorem dX9_drop_23 : decode cX9_drop 23 = .ok (.getfield 18, 3) := by decide +kernel
theorem dX9_drop_26 : decode cX9_drop 26 = .ok (.aload_n 0, 1) := by decide +kernel
theorem dX9_drop_27 : decode cX9_drop 27 = .ok (.getfield 28, 3) := by decide +kernel
theorem dX9_drop_30 : decode cX9_drop 30 = .ok (.aload_n 0, 1) := by decide +kernel
theorem dX9_drop_31 : decode cX9_drop 31 = .ok (.getfield 15, 3) := by decide +kernel
theorem dX9_drop_34 : decode cX9_drop 34 = .ok (.imul, 1) := by decide +kernel
theorem dX9_drop_35 : decode cX9_drop 35 = .ok (.aload_n 0, 1) := by decide +kernel
theorem dX9_drop_36 : decode cX9_drop 36 = .ok (.getfield 18, 3) := by decide +kernel
theorem dX9_drop_39 : decode cX9_drop 39 = .ok (.iload_n 1, 1) := by decide +kernel
theorem dX9_drop_40 : decode cX9_drop 40 = .ok (.aload_n 0, 1) := by decide +kernel
theorem dX9_drop_41 : decode cX9_drop 41 = .ok (.getfield 15, 3) := by decide +kernel
theorem dX9_drop_44 : decode cX9_drop 44 = .ok (.imul, 1) := by decide +kernel
theorem dX9_drop_45 : decode cX9_drop 45 = .ok (.aload_n 0, 1) := by decide +kernel
theorem dX9_drop_46 : decode cX9_drop 46 = .ok (.getfield 15, 3) := by decide +kernel
theorem dX9_drop_49 : decode cX9_drop 49 = .ok (.invokestatic 35, 3) := by decide +kernel
theorem dX9_drop_52 : decode cX9_drop 52 = .ok (.aload_n 0, 1) := by decide +kernel
theorem dX9_drop_53 : decode cX9_drop 53 = .ok (.getfield 22, 3) := by decide +kernel
theorem dX9_drop_56 : decode cX9_drop 56 = .ok (.iload_n 1, 1) := by decide +kernel
theorem dX9_drop_57 : decode cX9_drop 57 = .ok (.aload_n 0, 1) := by decide +kernel
theorem dX9_drop_58 : decode cX9_drop 58 = .ok (.getfield 22, 3) := by decide +kernel
theorem dX9_drop_61 : decode cX9_drop 61 = .ok (.aload_n 0, 1) := by decide +kernel
theorem dX9_drop_62 : decode cX9_drop 62 = .ok (.getfield 28, 3) := by decide +kernel
theorem dX9_drop_65 : decode cX9_drop 65 = .ok (.iaload, 1) := by decide +kernel
theorem dX9_drop_66 : decode cX9_drop 66 = .ok (.iastore, 1) := by decide +kernel
theorem dX9_drop_67 : decode cX9_drop 67 = .ok (.aload_n 0, 1) := by decide +kernel
theorem dX9_drop_68 : decode cX9_drop 68 = .ok (.getfield 25, 3) := by decide +kernel
theorem dX9_drop_71 : decode cX9_drop 71 = .ok (.iload_n 1, 1) := by decide +kernel
theorem dX9_drop_72 : decode cX9_drop 72 = .ok (.aload_n 0, 1) := by decide +kernel
theorem dX9_drop_73 : decode cX9_drop 73 = .ok (.getfield 25, 3) := by decide +kernel
theorem dX9_drop_76 : decode cX9_drop 76 = .ok (.aload_n 0, 1) := by decide +kernel
theorem dX9_drop_77 : decode cX9_drop 77 = .ok (.getfield 28, 3) := by decide +kernel
theorem dX9_drop_80 : decode cX9_drop 80 = .ok (.iaload, 1) := by decide +kernel
theorem dX9_drop_81 : decode cX9_drop 81 = .ok (.iastore, 1) := by decide +kernel
theorem dX9_drop_82 : decode cX9_drop 82 = .ok (.return_, 1) := by decide +kernel
theorem dX9_lengthWithout_0 : decode cX9_lengthWithout 0 = .ok (.iconst 0, 1) := by decide +kernel
theorem dX9_lengthWithout_1 : decode cX9_lengthWithout 1 = .ok (.istore 4, 2) := by decide +kernel
theorem dX9_lengthWithout_3 : decode cX9_lengthWithout 3 = .ok (.iconst 0, 1) := by decide +kernel
theorem dX9_lengthWithout_4 : decode cX9_lengthWithout 4 = .ok (.istore 5, 2) := by decide +kernel
theorem dX9_lengthWithout_6 : decode cX9_lengthWithout 6 = .ok (.iload 5, 2) := by decide +kernel
theorem dX9_lengthWithout_8 : decode cX9_lengthWithout 8 = .ok (.aload_n 0, 1) := by decide +kernel
theorem dX9_lengthWithout_9 : decode cX9_lengthWithout 9 = .ok (.getfield 28, 3) := by decide +kernel
theorem dX9_lengthWithout_12 : decode cX9_lengthWithout 12 = .ok (.if_icmp .ge 61, 3) := by decide +kernel
theorem dX9_lengthWithout_15 : decode cX9_lengthWithout 15 = .ok (.iload_n 3, 1) := by decide +kernel
theorem dX9_lengthWithout_16 : decode cX9_lengthWithout 16 = .ok (.aload_n 0, 1) := by decide +kernel
theorem dX9_lengthWithout_17 : decode cX9_lengthWithout 17 = .ok (.getfield 22, 3) := by decide +kernel
theorem dX9_lengthWithout_20 : decode cX9_lengthWithout 20 = .ok (.iload 5, 2) := by decide +kernel
theorem dX9_lengthWithout_22 : decode cX9_lengthWithout 22 = .ok (.iaload, 1) := by decide +kernel
theorem dX9_lengthWithout_23 : decode cX9_lengthWithout 23 = .ok (.isub, 1) := by decide +kernel
theorem dX9_lengthWithout_24 : decode cX9_lengthWithout 24 = .ok (.istore 6, 2) := by decide +kernel
theorem dX9_lengthWithout_26 : decode cX9_lengthWithout 26 = .ok (.aload_n 0, 1) := by decide +kernel
theorem dX9_lengthWithout_27 : decode cX9_lengthWithout 27 = .ok (.getfield 22, 3) := by decide +kernel
theorem dX9_lengthWithout_30 : decode cX9_lengthWithout 30 = .ok (.iload 5, 2) := by decide +kernel
theorem dX9_lengthWithout_32 : decode cX9_lengthWithout 32 = .ok (.iaload, 1) := by decide +kernel
theorem dX9_lengthWithout_33 : decode cX9_lengthWithout 33 = .ok (.iload 4, 2) := by decide +kernel
theorem dX9_lengthWithout_35 : decode cX9_lengthWithout 35 = .ok (.if_icmp .le 32, 3) := by decide +kernel
theorem dX9_lengthWithout_38 : decode cX9_lengthWithout 38 = .ok (.iload 6, 2) := by decide +kernel
theorem dX9_lengthWithout_40 : decode cX9_lengthWithout 40 = .ok (.iconst 3, 1) := by decide +kernel
theorem dX9_lengthWithout_41 : decode cX9_lengthWithout 41 = .ok (.if_icmp .lt 26, 3) := by decide +kernel
theorem dX9_lengthWithout_44 : decode cX9_lengthWithout 44 = .ok (.aload_n 0, 1) := by decide +kernel
theorem dX9_lengthWithout_45 : decode cX9_lengthWithout 45 = .ok (.iload 5, 2) := by decide +kernel
theorem dX9_lengthWithout_47 : decode cX9_lengthWithout 47 = .ok (.aload_n 1, 1) := by decide +kernel
theorem dX9_lengthWithout_48 : decode cX9_lengthWithout 48 = .ok (.iload_n 2, 1) := by decide +kernel
theorem dX9_lengthWithout_49 : decode cX9_lengthWithout 49 = .ok (.iload 6, 2) := by decide +kernel
theorem dX9_lengthWithout_51 : decode cX9_lengthWithout 51 = .ok (.iadd, 1) := by decide +kernel
theorem dX9_lengthWithout_52 : decode cX9_lengthWithout 52 = .ok (.invokevirtual 31, 3) := by decide +kernel
theorem dX9_lengthWithout_55 : decode cX9_lengthWithout 55 = .ok (.ifCond .eq 12, 3) := by decide +kernel
theorem dX9_lengthWithout_58 : decode cX9_lengthWithout 58 = .ok (.aload_n 0, 1) := by decide +kernel
theorem dX9_lengthWithout_59 : decode cX9_lengthWithout 59 = .ok (.getfield 22, 3) := by decide +kernel
theorem dX9_lengthWithout_62 : decode cX9_lengthWithout 62 = .ok (.iload 5, 2) := by decide +kernel
theorem dX9_lengthWithout_64 : decode cX9_lengthWithout 64 = .ok (.iaload, 1) := by decide +kernel
theorem dX9_lengthWithout_65 : decode cX9_lengthWithout 65 = .ok (.istore 4, 2) := by decide +kernel
theorem dX9_lengthWithout_67 : decode cX9_lengthWithout 67 = .ok (.iinc 5 1, 3) := by decide +kernel
theorem dX9_lengthWithout_70 : decode cX9_lengthWithout 70 = .ok (.goto (-64), 3) := by decide +kernel
theorem dX9_lengthWithout_73 : decode cX9_lengthWithout 73 = .ok (.iload_n 3, 1) := by decide +kernel
theorem dX9_lengthWithout_74 : decode cX9_lengthWithout 74 = .ok (.iload 4, 2) := by decide +kernel
theorem dX9_lengthWithout_76 : decode cX9_lengthWithout 76 = .ok (.isub, 1) := by decide +kernel
theorem dX9_lengthWithout_77 : decode cX9_lengthWithout 77 = .ok (.ireturn, 1) := by decide +kernel
