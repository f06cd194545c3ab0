set_option maxRecDepth 100000 in
theorem lk_X10_253 : Lk RX10 253 yX0_measure := Or.inr ⟨_, nw_of (w := .methodLinkNest RX10 253 yX0_measure "EssayBones") 620 rfl rfl⟩
set_option maxRecDepth 100000 in
theorem lk_X0_28 : Lk RX0 28 yX0_countUpwards := Or.inl (bg_of 722 rfl rfl)
set_option maxRecDepth 100000 in
theorem lk_X0_32 : Lk RX0 32 yJ9_min_7cf53 := Or.inl (bg_of 726 rfl rfl)
set_option maxRecDepth 100000 in
theorem lk_L_53 : Lk RL 53 yX10_word := Or.inl (bg_of 727 rfl rfl)
set_option maxRecDepth 100000 in
theorem lk_L_58 : Lk RL 58 yX10_shared := Or.inl (bg_of 731 rfl rfl)
set_option maxRecDepth 100000 in
theorem lk_L_62 : Lk RL 62 yX10_cost := Or.inl (bg_of 735 rfl rfl)
set_option maxRecDepth 100000 in
theorem lk_L_66 : Lk RL 66 yX10_tree := Or.inl (bg_of 739 rfl rfl)
set_option maxRecDepth 100000 in
theorem lk_X10_219 : Lk RX10 219 yX1_leastCost := Or.inr ⟨_, nw_of (w := .methodLinkNest RX10 219 yX1_leastCost "EssayBones") 645 rfl rfl⟩
set_option maxRecDepth 100000 in
theorem lk_L_70 : Lk RL 70 yX10_next := Or.inl (bg_of 747 rfl rfl)
set_option maxRecDepth 100000 in
theorem lk_X10_223 : Lk RX10 223 yX1_secondCost := Or.inr ⟨_, nw_of (w := .methodLinkNest RX10 223 yX1_secondCost "EssayBones") 653 rfl rfl⟩
set_option maxRecDepth 100000 in
theorem kc_X10_226 : Cond.constant RX10 226 (Int32.ofInt (268435456)) ∈ BG := bg_of 755 (by decide +kernel) (by decide +kernel)
set_option maxRecDepth 100000 in
theorem lk_L_74 : Lk RL 74 yX10_finding := Or.inl (bg_of 756 rfl rfl)
set_option maxRecDepth 100000 in
theorem lk_X10_227 : Lk RX10 227 yX10_findings := Or.inl (bg_of 760 rfl rfl)
set_option maxRecDepth 100000 in
theorem lk_X10_268 : Lk RX10 268 yX10_hasSupport := Or.inl (bg_of 764 rfl rfl)
set_option maxRecDepth 100000 in
theorem lk_X10_271 : Lk RX10 271 yX10_isToldTwice := Or.inl (bg_of 768 rfl rfl)
set_option maxRecDepth 100000 in
theorem lk_X10_274 : Lk RX10 274 yX2_isStale := Or.inr ⟨_, nw_of (w := .methodLinkNest RX10 274 yX2_isStale "EssayBones") 674 rfl rfl⟩
set_option maxRecDepth 100000 in
theorem kc_X2_111 : Cond.constantLong RX2 111 (Int64.ofInt (-1)) ∈ BG := bg_of 776 (by decide +kernel) (by decide +kernel)
set_option maxRecDepth 100000 in
theorem lk_L_78 : Lk RL 78 yX10_marks := Or.inl (bg_of 777 rfl rfl)
set_option maxRecDepth 100000 in
theorem lk_X10_230 : Lk RX10 230 yX10_isNoPoint := Or.inl (bg_of 781 rfl rfl)
set_option maxRecDepth 100000 in
theorem lk_L_82 : Lk RL 82 yX10_pair := Or.inl (bg_of 784 rfl rfl)
set_option maxRecDepth 100000 in
theorem lk_X10_278 : Lk RX10 278 yX4_mustBeAhead := Or.inr ⟨_, nw_of (w := .methodLinkNest RX10 278 yX4_mustBeAhead "EssayBones") 690 rfl rfl⟩
set_option maxRecDepth 100000 in
theorem lk_X10_281 : Lk RX10 281 yX4_has := Or.inr ⟨_, nw_of (w := .methodLinkNest RX10 281 yX4_has "EssayBones") 694 rfl rfl⟩
set_option maxRecDepth 100000 in
theorem lk_X10_284 : Lk RX10 284 yX4_add := Or.inr ⟨_, nw_of (w := .methodLinkNest RX10 284 yX4_add "EssayBones") 698 rfl rfl⟩
set_option maxRecDepth 100000 in
theorem lk_L_86 : Lk RL 86 yX10_order := Or.inl (bg_of 800 rfl rfl)
set_option maxRecDepth 100000 in
theorem lk_X10_286 : Lk RX10 286 yX10_findOrder := Or.inl (bg_of 804 rfl rfl)
set_option maxRecDepth 100000 in
theorem lk_X10_330 : Lk RX10 330 yX3_clear := Or.inr ⟨_, nw_of (w := .methodLinkNest RX10 330 yX3_clear "EssayBones") 710 rfl rfl⟩
set_option maxRecDepth 100000 in
theorem lk_X10_333 : Lk RX10 333 yX3_addHead := Or.inr ⟨_, nw_of (w := .methodLinkNest RX10 333 yX3_addHead "EssayBones") 714 rfl rfl⟩
set_option maxRecDepth 100000 in
theorem lk_X3_40 : Lk RX3 40 yX3_addPart := Or.inl (bg_of 816 rfl rfl)
set_option maxRecDepth 100000 in
theorem lk_X10_336 : Lk RX10 336 yX3_addPart := Or.inr ⟨_, nw_of (w := .methodLinkNest RX10 336 yX3_addPart "EssayBones") 722 rfl rfl⟩
set_option maxRecDepth 100000 in
theorem lk_X10_340 : Lk RX10 340 yX10_bindUnits := Or.inl (bg_of 821 rfl rfl)
set_option maxRecDepth 100000 in
theorem lk_X10_350 : Lk RX10 350 yX3_bind := Or.inr ⟨_, nw_of (w := .methodLinkNest RX10 350 yX3_bind "EssayBones") 727 rfl rfl⟩
set_option maxRecDepth 100000 in
theorem lk_X3_44 : Lk RX3 44 yX3_unitOf := Or.inl (bg_of 829 rfl rfl)
set_option maxRecDepth 100000 in
theorem lk_X10_354 : Lk RX10 354 yX5_placeOf := Or.inr ⟨_, nw_of (w := .methodLinkNest RX10 354 yX5_placeOf "EssayBones") 735 rfl rfl⟩
set_option maxRecDepth 100000 in
theorem lk_X10_343 : Lk RX10 343 yX3_solve := Or.inr ⟨_, nw_of (w := .methodLinkNest RX10 343 yX3_solve "EssayBones") 739 rfl rfl⟩
set_option maxRecDepth 100000 in
theorem kc_X3_48 : Cond.constant RX3 48 (Int32.ofInt (268435456)) ∈ BG := bg_of 841 (by decide +kernel) (by decide +kernel)
set_option maxRecDepth 100000 in
theorem lk_X3_49 : Lk RX3 49 yX3_mayCome := Or.inl (bg_of 842 rfl rfl)
set_option maxRecDepth 100000 in
theorem lk_X3_53 : Lk RX3 53 yX3_costWith := Or.inl (bg_of 846 rfl rfl)
set_option maxRecDepth 100000 in
theorem lk_X3_65 : Lk RX3 65 yX3_stepCost := Or.inl (bg_of 850 rfl rfl)
set_option maxRecDepth 100000 in
theorem lk_X3_68 : Lk RX3 68 yJ6_bitCount_0f7a4 := Or.inl (bg_of 854 rfl rfl)
set_option maxRecDepth 100000 in
theorem kc_J6_265 : Cond.constant RJ6 265 (Int32.ofInt (1431655765)) ∈ BG := bg_of 857 (by decide +kernel) (by decide +kernel)
set_option maxRecDepth 100000 in
theorem kc_J6_266 : Cond.constant RJ6 266 (Int32.ofInt (858993459)) ∈ BG := bg_of 858 (by decide +kernel) (by decide +kernel)
set_option maxRecDepth 100000 in
theorem kc_J6_267 : Cond.constant RJ6 267 (Int32.ofInt (252645135)) ∈ BG := bg_of 859 (by decide +kernel) (by decide +kernel)
set_option maxRecDepth 100000 in
theorem lk_X3_57 : Lk RX3 57 yJ9_min_7cf53 := Or.inl (bg_of 860 rfl rfl)
set_option maxRecDepth 100000 in
theorem lk_X3_62 : Lk RX3 62 yX3_chooseRow := Or.inl (bg_of 861 rfl rfl)
set_option maxRecDepth 100000 in
theorem lk_X10_346 : Lk RX10 346 yX3_leastCost := Or.inr ⟨_, nw_of (w := .methodLinkNest RX10 346 yX3_leastCost "EssayBones") 767 rfl rfl⟩
set_option maxRecDepth 100000 in
theorem lk_X10_289 : Lk RX10 289 yX3_keepRow := Or.inr ⟨_, nw_of (w := .methodLinkNest RX10 289 yX3_keepRow "EssayBones") 771 rfl rfl⟩
set_option maxRecDepth 100000 in
theorem lk_L_90 : Lk RL 90 yX10_ordered := Or.inl (bg_of 873 rfl rfl)
set_option maxRecDepth 100000 in
theorem lk_L_94 : Lk RL 94 yX10_stands := Or.inl (bg_of 877 rfl rfl)
set_option maxRecDepth 100000 in
theorem lk_L_98 : Lk RL 98 yX10_arrange := Or.inl (bg_of 881 rfl rfl)
set_option maxRecDepth 100000 in
theorem lk_X10_301 : Lk RX10 301 yX5_start := Or.inr ⟨_, nw_of (w := .methodLinkNest RX10 301 yX5_start "EssayBones") 787 rfl rfl⟩
set_option maxRecDepth 100000 in
theorem lk_X10_315 : Lk RX10 315 yX5_put := Or.inr ⟨_, nw_of (w := .methodLinkNest RX10 315 yX5_put "EssayBones") 792 rfl rfl⟩
set_option maxRecDepth 100000 in
theorem lk_X10_318 : Lk RX10 318 yX5_take := Or.inr ⟨_, nw_of (w := .methodLinkNest RX10 318 yX5_take "EssayBones") 796 rfl rfl⟩
set_option maxRecDepth 100000 in
theorem lk_L_102 : Lk RL 102 yX10_move := Or.inl (bg_of 898 rfl rfl)
set_option maxRecDepth 100000 in
theorem lk_L_106 : Lk RL 106 yX10_count := Or.inl (bg_of 902 rfl rfl)
set_option maxRecDepth 100000 in
theorem lk_X10_321 : Lk RX10 321 yX8_paragraphs := Or.inr ⟨_, nw_of (w := .methodLinkNest RX10 321 yX8_paragraphs "EssayBones") 808 rfl rfl⟩
set_option maxRecDepth 100000 in
theorem lk_X10_324 : Lk RX10 324 yX10_rootPlace := Or.inl (bg_of 910 rfl rfl)
set_option maxRecDepth 100000 in
theorem lk_L_12 : Lk RL 12 yX11_init := Or.inl (bg_of 916 rfl rfl)
set_option maxRecDepth 100000 in
theorem fl_X11_7 : Fl RX11 7 11 0 := ⟨RX11, TX11, tyX11, cl_X11, by decide, rfl, Or.inl (bg_of 920 rfl rfl)⟩
set_option maxRecDepth 100000 in
theorem fl_X11_136 : Fl RX11 136 11 1 := ⟨RX11, TX11, tyX11, cl_X11, by decide, rfl, Or.inl (bg_of 921 rfl rfl)⟩
set_option maxRecDepth 100000 in
theorem fp_X11_136 : Fp RX11 136 11 1 .int := ⟨RX11, TX11, tyX11, cl_X11, by decide, rfl, Or.inl (bg_of 921 rfl rfl), rfl, (by decide +kernel)⟩
set_option maxRecDepth 100000 in
theorem fl_X11_13 : Fl RX11 13 11 2 := ⟨RX11, TX11, tyX11, cl_X11, by decide, rfl, Or.inl (bg_of 922 rfl rfl)⟩
set_option maxRecDepth 100000 in
theorem fl_X11_151 : Fl RX11 151 11 3 := ⟨RX11, TX11, tyX11, cl_X11, by decide, rfl, Or.inl (bg_of 923 rfl rfl)⟩
set_option maxRecDepth 100000 in
theorem fp_X11_151 : Fp RX11 151 11 3 .int := ⟨RX11, TX11, tyX11, cl_X11, by decide, rfl, Or.inl (bg_of 923 rfl rfl), rfl, (by decide +kernel)⟩
set_option maxRecDepth 100000 in
theorem fl_X11_16 : Fl RX11 16 11 4 := ⟨RX11, TX11, tyX11, cl_X11, by decide, rfl, Or.inl (bg_of 924 rfl rfl)⟩
set_option maxRecDepth 100000 in
theorem fl_X11_19 : Fl RX11 19 11 5 := ⟨RX11, TX11, tyX11, cl_X11, by decide, rfl, Or.inl (bg_of 925 rfl rfl)⟩
set_option maxRecDepth 100000 in
theorem fl_X11_161 : Fl RX11 161 11 6 := ⟨RX11, TX11, tyX11, cl_X11, by decide, rfl, Or.inl (bg_of 926 rfl rfl)⟩
set_option maxRecDepth 100000 in
theorem fp_X11_161 : Fp RX11 161 11 6 .int := ⟨RX11, TX11, tyX11, cl_X11, by decide, rfl, Or.inl (bg_of 926 rfl rfl), rfl, (by decide +kernel)⟩
set_option maxRecDepth 100000 in
theorem fl_X11_23 : Fl RX11 23 11 7 := ⟨RX11, TX11, tyX11, cl_X11, by decide, rfl, Or.inl (bg_of 927 rfl rfl)⟩
set_option maxRecDepth 100000 in
theorem fl_X11_26 : Fl RX11 26 11 8 := ⟨RX11, TX11, tyX11, cl_X11, by decide, rfl, Or.inl (bg_of 928 rfl rfl)⟩
set_option maxRecDepth 100000 in
theorem fl_X11_29 : Fl RX11 29 11 9 := ⟨RX11, TX11, tyX11, cl_X11, by decide, rfl, Or.inl (bg_of 929 rfl rfl)⟩
set_option maxRecDepth 100000 in
theorem fl_X11_180 : Fl RX11 180 11 10 := ⟨RX11, TX11, tyX11, cl_X11, by decide, rfl, Or.inl (bg_of 930 rfl rfl)⟩
set_option maxRecDepth 100000 in
theorem fp_X11_180 : Fp RX11 180 11 10 .int := ⟨RX11, TX11, tyX11, cl_X11, by decide, rfl, Or.inl (bg_of 930 rfl rfl), rfl, (by decide +kernel)⟩
set_option maxRecDepth 100000 in
theorem fl_X11_32 : Fl RX11 32 11 11 := ⟨RX11, TX11, tyX11, cl_X11, by decide, rfl, Or.inl (bg_of 931 rfl rfl)⟩
set_option maxRecDepth 100000 in
theorem fl_X11_35 : Fl RX11 35 11 12 := ⟨RX11, TX11, tyX11, cl_X11, by decide, rfl, Or.inl (bg_of 932 rfl rfl)⟩
set_option maxRecDepth 100000 in
theorem fl_X11_183 : Fl RX11 183 11 13 := ⟨RX11, TX11, tyX11, cl_X11, by decide, rfl, Or.inl (bg_of 933 rfl rfl)⟩
set_option maxRecDepth 100000 in
theorem fp_X11_183 : Fp RX11 183 11 13 .int := ⟨RX11, TX11, tyX11, cl_X11, by decide, rfl, Or.inl (bg_of 933 rfl rfl), rfl, (by decide +kernel)⟩
set_option maxRecDepth 100000 in
theorem fl_X11_38 : Fl RX11 38 11 14 := ⟨RX11, TX11, tyX11, cl_X11, by decide, rfl, Or.inl (bg_of 934 rfl rfl)⟩
set_option maxRecDepth 100000 in
theorem fl_X11_41 : Fl RX11 41 11 15 := ⟨RX11, TX11, tyX11, cl_X11, by decide, rfl, Or.inl (bg_of 935 rfl rfl)⟩
set_option maxRecDepth 100000 in
theorem fl_X11_44 : Fl RX11 44 11 16 := ⟨RX11, TX11, tyX11, cl_X11, by decide, rfl, Or.inl (bg_of 936 rfl rfl)⟩
set_option maxRecDepth 100000 in
theorem fl_X11_47 : Fl RX11 47 11 17 := ⟨RX11, TX11, tyX11, cl_X11, by decide, rfl, Or.inl (bg_of 937 rfl rfl)⟩
set_option maxRecDepth 100000 in
theorem fl_X11_50 : Fl RX11 50 11 18 := ⟨RX11, TX11, tyX11, cl_X11, by decide, rfl, Or.inl (bg_of 938 rfl rfl)⟩
set_option maxRecDepth 100000 in
theorem fl_X11_53 : Fl RX11 53 11 19 := ⟨RX11, TX11, tyX11, cl_X11, by decide, rfl, Or.inl (bg_of 939 rfl rfl)⟩
set_option maxRecDepth 100000 in
theorem fl_X11_56 : Fl RX11 56 11 20 := ⟨RX11, TX11, tyX11, cl_X11, by decide, rfl, Or.inl (bg_of 940 rfl rfl)⟩
set_option maxRecDepth 100000 in
theorem fl_X11_59 : Fl RX11 59 11 21 := ⟨RX11, TX11, tyX11, cl_X11, by decide, rfl, Or.inl (bg_of 941 rfl rfl)⟩
set_option maxRecDepth 100000 in
theorem fl_X11_62 : Fl RX11 62 11 22 := ⟨RX11, TX11, tyX11, cl_X11, by decide, rfl, Or.inl (bg_of 942 rfl rfl)⟩
set_option maxRecDepth 100000 in
theorem fl_X11_65 : Fl RX11 65 11 23 := ⟨RX11, TX11, tyX11, cl_X11, by decide, rfl, Or.inl (bg_of 943 rfl rfl)⟩
set_option maxRecDepth 100000 in
theorem fl_X11_196 : Fl RX11 196 11 24 := ⟨RX11, TX11, tyX11, cl_X11, by decide, rfl, Or.inl (bg_of 944 rfl rfl)⟩
set_option maxRecDepth 100000 in
theorem fp_X11_196 : Fp RX11 196 11 24 .int := ⟨RX11, TX11, tyX11, cl_X11, by decide, rfl, Or.inl (bg_of 944 rfl rfl), rfl, (by decide +kernel)⟩
set_option maxRecDepth 100000 in
theorem fl_X11_202 : Fl RX11 202 11 25 := ⟨RX11, TX11, tyX11, cl_X11, by decide, rfl, Or.inl (bg_of 945 rfl rfl)⟩
set_option maxRecDepth 100000 in
theorem fp_X11_202 : Fp RX11 202 11 25 .int := ⟨RX11, TX11, tyX11, cl_X11, by decide, rfl, Or.inl (bg_of 945 rfl rfl), rfl, (by decide +kernel)⟩
set_option maxRecDepth 100000 in
theorem fl_X11_186 : Fl RX11 186 11 26 := ⟨RX11, TX11, tyX11, cl_X11, by decide, rfl, Or.inl (bg_of 946 rfl rfl)⟩
set_option maxRecDepth 100000 in
theorem fp_X11_186 : Fp RX11 186 11 26 .int := ⟨RX11, TX11, tyX11, cl_X11, by decide, rfl, Or.inl (bg_of 946 rfl rfl), rfl, (by decide +kernel)⟩
set_option maxRecDepth 100000 in
theorem fl_X11_68 : Fl RX11 68 11 27 := ⟨RX11, TX11, tyX11, cl_X11, by decide, rfl, Or.inl (bg_of 947 rfl rfl)⟩
set_option maxRecDepth 100000 in
theorem fp_X11_68 : Fp RX11 68 11 27 .int := ⟨RX11, TX11, tyX11, cl_X11, by decide, rfl, Or.inl (bg_of 947 rfl rfl), rfl, (by decide +kernel)⟩
set_option maxRecDepth 100000 in
theorem fl_X11_72 : Fl RX11 72 11 28 := ⟨RX11, TX11, tyX11, cl_X11, by decide, rfl, Or.inl (bg_of 948 rfl rfl)⟩
set_option maxRecDepth 100000 in
theorem fl_X11_75 : Fl RX11 75 11 29 := ⟨RX11, TX11, tyX11, cl_X11, by decide, rfl, Or.inl (bg_of 949 rfl rfl)⟩
set_option maxRecDepth 100000 in
theorem fl_X11_78 : Fl RX11 78 11 30 := ⟨RX11, TX11, tyX11, cl_X11, by decide, rfl, Or.inl (bg_of 950 rfl rfl)⟩
set_option maxRecDepth 100000 in
theorem fl_X11_81 : Fl RX11 81 11 31 := ⟨RX11, TX11, tyX11, cl_X11, by decide, rfl, Or.inl (bg_of 951 rfl rfl)⟩
set_option maxRecDepth 100000 in
theorem fl_X11_176 : Fl RX11 176 11 32 := ⟨RX11, TX11, tyX11, cl_X11, by decide, rfl, Or.inl (bg_of 952 rfl rfl)⟩
set_option maxRecDepth 100000 in
theorem fp_X11_176 : Fp RX11 176 11 32 .boolean := ⟨RX11, TX11, tyX11, cl_X11, by decide, rfl, Or.inl (bg_of 952 rfl rfl), rfl, (by decide +kernel)⟩
set_option maxRecDepth 100000 in
theorem fl_X11_84 : Fl RX11 84 11 33 := ⟨RX11, TX11, tyX11, cl_X11, by decide, rfl, Or.inl (bg_of 953 rfl rfl)⟩
set_option maxRecDepth 100000 in
theorem fl_X11_87 : Fl RX11 87 11 34 := ⟨RX11, TX11, tyX11, cl_X11, by decide, rfl, Or.inl (bg_of 954 rfl rfl)⟩
set_option maxRecDepth 100000 in
theorem fl_X11_90 : Fl RX11 90 11 35 := ⟨RX11, TX11, tyX11, cl_X11, by decide, rfl, Or.inl (bg_of 955 rfl rfl)⟩
set_option maxRecDepth 100000 in
theorem fl_X11_94 : Fl RX11 94 11 36 := ⟨RX11, TX11, tyX11, cl_X11, by decide, rfl, Or.inl (bg_of 956 rfl rfl)⟩
set_option maxRecDepth 100000 in
theorem fl_X11_97 : Fl RX11 97 11 37 := ⟨RX11, TX11, tyX11, cl_X11, by decide, rfl, Or.inl (bg_of 957 rfl rfl)⟩
set_option maxRecDepth 100000 in
theorem fl_X11_100 : Fl RX11 100 11 38 := ⟨RX11, TX11, tyX11, cl_X11, by decide, rfl, Or.inl (bg_of 958 rfl rfl)⟩
set_option maxRecDepth 100000 in
theorem fl_X11_236 : Fl RX11 236 11 39 := ⟨RX11, TX11, tyX11, cl_X11, by decide, rfl, Or.inl (bg_of 959 rfl rfl)⟩
set_option maxRecDepth 100000 in
theorem fp_X11_236 : Fp RX11 236 11 39 .int := ⟨RX11, TX11, tyX11, cl_X11, by decide, rfl, Or.inl (bg_of 959 rfl rfl), rfl, (by decide +kernel)⟩
set_option maxRecDepth 100000 in
theorem fl_X11_243 : Fl RX11 243 11 40 := ⟨RX11, TX11, tyX11, cl_X11, by decide, rfl, Or.inl (bg_of 960 rfl rfl)⟩
set_option maxRecDepth 100000 in
theorem fp_X11_243 : Fp RX11 243 11 40 .int := ⟨RX11, TX11, tyX11, cl_X11, by decide, rfl, Or.inl (bg_of 960 rfl rfl), rfl, (by decide +kernel)⟩
set_option maxRecDepth 100000 in
theorem fl_X11_199 : Fl RX11 199 11 41 := ⟨RX11, TX11, tyX11, cl_X11, by decide, rfl, Or.inl (bg_of 961 rfl rfl)⟩
set_option maxRecDepth 100000 in
theorem fp_X11_199 : Fp RX11 199 11 41 .int := ⟨RX11, TX11, tyX11, cl_X11, by decide, rfl, Or.inl (bg_of 961 rfl rfl), rfl, (by decide +kernel)⟩
set_option maxRecDepth 100000 in
theorem fl_X11_103 : Fl RX11 103 11 42 := ⟨RX11, TX11, tyX11, cl_X11, by decide, rfl, Or.inl (bg_of 962 rfl rfl)⟩
set_option maxRecDepth 100000 in
theorem fl_X11_106 : Fl RX11 106 11 43 := ⟨RX11, TX11, tyX11, cl_X11, by decide, rfl, Or.inl (bg_of 963 rfl rfl)⟩
set_option maxRecDepth 100000 in
theorem fl_X11_109 : Fl RX11 109 11 44 := ⟨RX11, TX11, tyX11, cl_X11, by decide, rfl, Or.inl (bg_of 964 rfl rfl)⟩
set_option maxRecDepth 100000 in
theorem fl_X11_112 : Fl RX11 112 11 45 := ⟨RX11, TX11, tyX11, cl_X11, by decide, rfl, Or.inl (bg_of 965 rfl rfl)⟩
set_option maxRecDepth 100000 in
theorem fl_X11_115 : Fl RX11 115 11 46 := ⟨RX11, TX11, tyX11, cl_X11, by decide, rfl, Or.inl (bg_of 966 rfl rfl)⟩
set_option maxRecDepth 100000 in
theorem fl_X11_271 : Fl RX11 271 11 47 := ⟨RX11, TX11, tyX11, cl_X11, by decide, rfl, Or.inl (bg_of 967 rfl rfl)⟩
set_option maxRecDepth 100000 in
theorem fp_X11_271 : Fp RX11 271 11 47 .int := ⟨RX11, TX11, tyX11, cl_X11, by decide, rfl, Or.inl (bg_of 967 rfl rfl), rfl, (by decide +kernel)⟩
set_option maxRecDepth 100000 in
theorem fl_X11_118 : Fl RX11 118 11 48 := ⟨RX11, TX11, tyX11, cl_X11, by decide, rfl, Or.inl (bg_of 968 rfl rfl)⟩
set_option maxRecDepth 100000 in
theorem fl_X11_121 : Fl RX11 121 11 49 := ⟨RX11, TX11, tyX11, cl_X11, by decide, rfl, Or.inl (bg_of 969 rfl rfl)⟩
set_option maxRecDepth 100000 in
theorem fl_X11_124 : Fl RX11 124 11 50 := ⟨RX11, TX11, tyX11, cl_X11, by decide, rfl, Or.inl (bg_of 970 rfl rfl)⟩
set_option maxRecDepth 100000 in
theorem fl_X11_127 : Fl RX11 127 11 51 := ⟨RX11, TX11, tyX11, cl_X11, by decide, rfl, Or.inl (bg_of 971 rfl rfl)⟩
set_option maxRecDepth 100000 in
theorem fl_X11_289 : Fl RX11 289 11 52 := ⟨RX11, TX11, tyX11, cl_X11, by decide, rfl, Or.inl (bg_of 972 rfl rfl)⟩
set_option maxRecDepth 100000 in
theorem fp_X11_289 : Fp RX11 289 11 52 .int := ⟨RX11, TX11, tyX11, cl_X11, by decide, rfl, Or.inl (bg_of 972 rfl rfl), rfl, (by decide +kernel)⟩
set_option maxRecDepth 100000 in
theorem fl_X11_130 : Fl RX11 130 11 53 := ⟨RX11, TX11, tyX11, cl_X11, by decide, rfl, Or.inl (bg_of 973 rfl rfl)⟩
set_option maxRecDepth 100000 in
theorem fl_X11_133 : Fl RX11 133 11 54 := ⟨RX11, TX11, tyX11, cl_X11, by decide, rfl, Or.inl (bg_of 974 rfl rfl)⟩
set_option maxRecDepth 100000 in
theorem lk_L_17 : Lk RL 17 yX11_feed := Or.inl (bg_of 1088 rfl rfl)
set_option maxRecDepth 100000 in
theorem lk_L_22 : Lk RL 22 yX11_end := Or.inl (bg_of 1092 rfl rfl)
set_option maxRecDepth 100000 in
theorem lk_L_27 : Lk RL 27 yX11_stop := Or.inl (bg_of 1096 rfl rfl)
set_option maxRecDepth 100000 in
theorem lk_X11_158 : Lk RX11 158 yX11_takeWord := Or.inl (bg_of 1100 rfl rfl)
set_option maxRecDepth 100000 in
theorem lk_X11_139 : Lk RX11 139 yX11_in := Or.inl (bg_of 1104 rfl rfl)
set_option maxRecDepth 100000 in
theorem lk_X11_143 : Lk RX11 143 yX11_isOfWord := Or.inl (bg_of 1107 rfl rfl)
set_option maxRecDepth 100000 in
theorem lk_X11_147 : Lk RX11 147 yX11_small := Or.inl (bg_of 1110 rfl rfl)
set_option maxRecDepth 100000 in
theorem lk_X11_164 : Lk RX11 164 yX11_find := Or.inl (bg_of 1113 rfl rfl)
set_option maxRecDepth 100000 in
theorem lk_X11_154 : Lk RX11 154 yX11_isLike := Or.inl (bg_of 1116 rfl rfl)
set_option maxRecDepth 100000 in
theorem lk_X11_168 : Lk RX11 168 yX11_put := Or.inl (bg_of 1119 rfl rfl)
set_option maxRecDepth 100000 in
theorem lk_X11_172 : Lk RX11 172 yX11_takeAway := Or.inl (bg_of 1123 rfl rfl)
set_option maxRecDepth 100000 in
theorem lk_L_31 : Lk RL 31 yX11_sign := Or.inl (bg_of 1126 rfl rfl)
set_option maxRecDepth 100000 in
theorem lk_L_35 : Lk RL 35 yX11_ending := Or.inl (bg_of 1130 rfl rfl)
set_option maxRecDepth 100000 in
theorem lk_L_40 : Lk RL 40 yX11_weight := Or.inl (bg_of 1134 rfl rfl)
set_option maxRecDepth 100000 in
theorem lk_L_44 : Lk RL 44 yX11_read := Or.inl (bg_of 1138 rfl rfl)
set_option maxRecDepth 100000 in
theorem lk_X11_193 : Lk RX11 193 yX11_reads := Or.inl (bg_of 1142 rfl rfl)
set_option maxRecDepth 100000 in
theorem lk_X11_189 : Lk RX11 189 yX11_wrong := Or.inl (bg_of 1146 rfl rfl)
set_option maxRecDepth 100000 in
theorem lk_L_48 : Lk RL 48 yX11_fault := Or.inl (bg_of 1150 rfl rfl)
set_option maxRecDepth 100000 in
theorem lk_L_52 : Lk RL 52 yX11_sentence := Or.inl (bg_of 1154 rfl rfl)
set_option maxRecDepth 100000 in
theorem lk_X11_250 : Lk RX11 250 yX11_isHere := Or.inl (bg_of 1158 rfl rfl)
set_option maxRecDepth 100000 in
theorem lk_X11_253 : Lk RX11 253 yX11_makeTree := Or.inl (bg_of 1162 rfl rfl)
set_option maxRecDepth 100000 in
theorem lk_X11_222 : Lk RX11 222 yX11_makeKeys := Or.inl (bg_of 1166 rfl rfl)
set_option maxRecDepth 100000 in
theorem lk_X11_205 : Lk RX11 205 yX11_folded := Or.inl (bg_of 1170 rfl rfl)
set_option maxRecDepth 100000 in
theorem lk_X11_208 : Lk RX11 208 yX11_sameKey := Or.inl (bg_of 1174 rfl rfl)
set_option maxRecDepth 100000 in
theorem kc_X11_218 : Cond.constant RX11 218 (Int32.ofInt (1000000)) ∈ BG := bg_of 1178 (by decide +kernel) (by decide +kernel)
set_option maxRecDepth 100000 in
theorem lk_X11_226 : Lk RX11 226 yX11_priceOf := Or.inl (bg_of 1179 rfl rfl)
set_option maxRecDepth 100000 in
theorem lk_X11_215 : Lk RX11 215 yX11_sharedBy := Or.inl (bg_of 1183 rfl rfl)
set_option maxRecDepth 100000 in
theorem lk_X11_212 : Lk RX11 212 yX11_hasKey := Or.inl (bg_of 1187 rfl rfl)
set_option maxRecDepth 100000 in
theorem lk_X11_229 : Lk RX11 229 yX11_allMay := Or.inl (bg_of 1191 rfl rfl)
set_option maxRecDepth 100000 in
theorem lk_X11_232 : Lk RX11 232 yX11_least := Or.inl (bg_of 1195 rfl rfl)
set_option maxRecDepth 100000 in
theorem lk_X11_219 : Lk RX11 219 yX11_arc := Or.inl (bg_of 1199 rfl rfl)
set_option maxRecDepth 100000 in
theorem lk_X11_239 : Lk RX11 239 yX11_fix := Or.inl (bg_of 1203 rfl rfl)
set_option maxRecDepth 100000 in
theorem lk_X11_256 : Lk RX11 256 yX11_hanging := Or.inl (bg_of 1207 rfl rfl)
set_option maxRecDepth 100000 in
theorem lk_X11_259 : Lk RX11 259 yX11_partSize := Or.inl (bg_of 1211 rfl rfl)
set_option maxRecDepth 100000 in
theorem lk_X11_246 : Lk RX11 246 yX11_isOf := Or.inl (bg_of 1215 rfl rfl)
set_option maxRecDepth 100000 in
theorem lk_L_57 : Lk RL 57 yX11_word := Or.inl (bg_of 1219 rfl rfl)
set_option maxRecDepth 100000 in
theorem lk_L_61 : Lk RL 61 yX11_shared := Or.inl (bg_of 1223 rfl rfl)
set_option maxRecDepth 100000 in
theorem lk_L_65 : Lk RL 65 yX11_cost := Or.inl (bg_of 1227 rfl rfl)
set_option maxRecDepth 100000 in
theorem lk_L_69 : Lk RL 69 yX11_tree := Or.inl (bg_of 1231 rfl rfl)
set_option maxRecDepth 100000 in
theorem lk_L_73 : Lk RL 73 yX11_next := Or.inl (bg_of 1235 rfl rfl)
set_option maxRecDepth 100000 in
theorem lk_L_77 : Lk RL 77 yX11_finding := Or.inl (bg_of 1239 rfl rfl)
set_option maxRecDepth 100000 in
theorem lk_X11_262 : Lk RX11 262 yX11_findingOf := Or.inl (bg_of 1243 rfl rfl)
set_option maxRecDepth 100000 in
theorem lk_L_81 : Lk RL 81 yX11_marks := Or.inl (bg_of 1247 rfl rfl)
set_option maxRecDepth 100000 in
theorem lk_X11_265 : Lk RX11 265 yX11_isPoint := Or.inl (bg_of 1251 rfl rfl)
set_option maxRecDepth 100000 in
theorem lk_L_85 : Lk RL 85 yX11_pair := Or.inl (bg_of 1254 rfl rfl)
set_option maxRecDepth 100000 in
theorem lk_X11_268 : Lk RX11 268 yX11_isAhead := Or.inl (bg_of 1258 rfl rfl)
set_option maxRecDepth 100000 in
theorem lk_L_89 : Lk RL 89 yX11_order := Or.inl (bg_of 1262 rfl rfl)
set_option maxRecDepth 100000 in
theorem lk_X11_283 : Lk RX11 283 yX11_takeItems := Or.inl (bg_of 1266 rfl rfl)
set_option maxRecDepth 100000 in
theorem lk_X11_274 : Lk RX11 274 yX11_partBegin := Or.inl (bg_of 1270 rfl rfl)
set_option maxRecDepth 100000 in
theorem lk_X11_277 : Lk RX11 277 yX11_itemOf := Or.inl (bg_of 1274 rfl rfl)
set_option maxRecDepth 100000 in
theorem lk_X11_286 : Lk RX11 286 yX11_reckon := Or.inl (bg_of 1278 rfl rfl)
set_option maxRecDepth 100000 in
theorem lk_X11_280 : Lk RX11 280 yX11_placing := Or.inl (bg_of 1282 rfl rfl)
set_option maxRecDepth 100000 in
theorem lk_L_93 : Lk RL 93 yX11_ordered := Or.inl (bg_of 1286 rfl rfl)
set_option maxRecDepth 100000 in
theorem lk_L_97 : Lk RL 97 yX11_stands := Or.inl (bg_of 1290 rfl rfl)
set_option maxRecDepth 100000 in
theorem lk_L_101 : Lk RL 101 yX11_arrange := Or.inl (bg_of 1294 rfl rfl)
set_option maxRecDepth 100000 in
theorem lk_X11_292 : Lk RX11 292 yX11_setAll := Or.inl (bg_of 1298 rfl rfl)
set_option maxRecDepth 100000 in
theorem lk_L_105 : Lk RL 105 yX11_move := Or.inl (bg_of 1302 rfl rfl)
set_option maxRecDepth 100000 in
theorem lk_L_109 : Lk RL 109 yX11_count := Or.inl (bg_of 1306 rfl rfl)
set_option maxRecDepth 100000 in
theorem cy_X0_measure : Cy yX0_measure cX0_measure 4 none 1 := ⟨bg_of 721 rfl rfl, bg_of 107 rfl rfl, (by decide +kernel), by decide⟩
set_option maxRecDepth 100000 in
theorem cv_X0_measure : Cv yX0_measure := ⟨bg_of 720 rfl rfl, bg_of 40 rfl rfl⟩
set_option maxRecDepth 100000 in
theorem cy_X0_countUpwards : Cy yX0_countUpwards cX0_countUpwards 5 none 2 := ⟨bg_of 725 rfl rfl, bg_of 107 rfl rfl, (by decide +kernel), by decide⟩
set_option maxRecDepth 100000 in
theorem cv_X0_countUpwards : Cv yX0_countUpwards := ⟨bg_of 724 rfl rfl, bg_of 41 rfl rfl⟩
set_option maxRecDepth 100000 in
theorem cy_X1_grow : Cy yX1_grow cX1_grow 4 none 1 := ⟨bg_of 684 rfl rfl, bg_of 106 rfl rfl, (by decide +kernel), by decide⟩
set_option maxRecDepth 100000 in
theorem cv_X1_grow : Cv yX1_grow := ⟨bg_of 683 rfl rfl, bg_of 33 rfl rfl⟩
set_option maxRecDepth 100000 in
theorem cy_X1_fillSpan : Cy yX1_fillSpan cX1_fillSpan 8 none 2 := ⟨bg_of 700 rfl rfl, bg_of 106 rfl rfl, (by decide +kernel), by decide⟩
set_option maxRecDepth 100000 in
theorem cv_X1_fillSpan : Cv yX1_fillSpan := ⟨bg_of 699 rfl rfl, bg_of 36 rfl rfl⟩
set_option maxRecDepth 100000 in
theorem cy_X1_side : Cy yX1_side cX1_side 2 (some .int) 2 := ⟨bg_of 687 rfl rfl, bg_of 106 rfl rfl, (by decide +kernel), by decide⟩
set_option maxRecDepth 100000 in
theorem cs_X1_side : Cs yX1_side := bg_of 686 rfl rfl
set_option maxRecDepth 100000 in
theorem cy_X1_gap : Cy yX1_gap cX1_gap 2 (some .int) 2 := ⟨bg_of 703 rfl rfl, bg_of 106 rfl rfl, (by decide +kernel), by decide⟩
set_option maxRecDepth 100000 in
theorem cs_X1_gap : Cs yX1_gap := bg_of 702 rfl rfl
set_option maxRecDepth 100000 in
theorem cy_X1_setAlone : Cy yX1_setAlone cX1_setAlone 2 none 1 := ⟨bg_of 691 rfl rfl, bg_of 106 rfl rfl, (by decide +kernel), by decide⟩
set_option maxRecDepth 100000 in
theorem cv_X1_setAlone : Cv yX1_setAlone := ⟨bg_of 690 rfl rfl, bg_of 34 rfl rfl⟩
set_option maxRecDepth 100000 in
theorem cy_X1_setEmpty : Cy yX1_setEmpty cX1_setEmpty 2 none 1 := ⟨bg_of 695 rfl rfl, bg_of 106 rfl rfl, (by decide +kernel), by decide⟩
set_option maxRecDepth 100000 in
theorem cv_X1_setEmpty : Cv yX1_setEmpty := ⟨bg_of 694 rfl rfl, bg_of 35 rfl rfl⟩
set_option maxRecDepth 100000 in
theorem cy_X1_offer : Cy yX1_offer cX1_offer 13 none 6 := ⟨bg_of 707 rfl rfl, bg_of 106 rfl rfl, (by decide +kernel), by decide⟩
set_option maxRecDepth 100000 in
theorem cv_X1_offer : Cv yX1_offer := ⟨bg_of 706 rfl rfl, bg_of 37 rfl rfl⟩
set_option maxRecDepth 100000 in
theorem cy_X1_comesFirst : Cy yX1_comesFirst cX1_comesFirst 7 (some .boolean) 4 := ⟨bg_of 711 rfl rfl, bg_of 106 rfl rfl, (by decide +kernel), by decide⟩
set_option maxRecDepth 100000 in
theorem cv_X1_comesFirst : Cv yX1_comesFirst := ⟨bg_of 710 rfl rfl, bg_of 38 rfl rfl⟩
set_option maxRecDepth 100000 in
theorem cy_X1_leastCost : Cy yX1_leastCost cX1_leastCost 1 (some .int) 0 := ⟨bg_of 746 rfl rfl, bg_of 106 rfl rfl, (by decide +kernel), by decide⟩
set_option maxRecDepth 100000 in
theorem cv_X1_leastCost : Cv yX1_leastCost := ⟨bg_of 745 rfl rfl, bg_of 42 rfl rfl⟩
set_option maxRecDepth 100000 in
theorem cy_X1_secondCost : Cy yX1_secondCost cX1_secondCost 1 (some .int) 0 := ⟨bg_of 754 rfl rfl, bg_of 106 rfl rfl, (by decide +kernel), by decide⟩
set_option maxRecDepth 100000 in
theorem cv_X1_secondCost : Cv yX1_secondCost := ⟨bg_of 753 rfl rfl, bg_of 43 rfl rfl⟩
set_option maxRecDepth 100000 in
theorem cy_X1_headOf : Cy yX1_headOf cX1_headOf 4 (some .int) 1 := ⟨bg_of 716 rfl rfl, bg_of 106 rfl rfl, (by decide +kernel), by decide⟩
set_option maxRecDepth 100000 in
theorem cv_X1_headOf : Cv yX1_headOf := ⟨bg_of 715 rfl rfl, bg_of 39 rfl rfl⟩
set_option maxRecDepth 100000 in
theorem cy_X2_gather : Cy yX2_gather cX2_gather 9 none 4 := ⟨bg_of 613 rfl rfl, bg_of 104 rfl rfl, (by decide +kernel), by decide⟩
set_option maxRecDepth 100000 in
theorem cv_X2_gather : Cv yX2_gather := ⟨bg_of 612 rfl rfl, bg_of 21 rfl rfl⟩
set_option maxRecDepth 100000 in
theorem cy_X2_takeWord : Cy yX2_takeWord cX2_takeWord 10 none 5 := ⟨bg_of 624 rfl rfl, bg_of 104 rfl rfl, (by decide +kernel), by decide⟩
set_option maxRecDepth 100000 in
theorem cv_X2_takeWord : Cv yX2_takeWord := ⟨bg_of 623 rfl rfl, bg_of 22 rfl rfl⟩
set_option maxRecDepth 100000 in
theorem cy_X2_keyOf : Cy yX2_keyOf cX2_keyOf 8 (some .int) 3 := ⟨bg_of 632 rfl rfl, bg_of 104 rfl rfl, (by decide +kernel), by decide⟩
set_option maxRecDepth 100000 in
theorem cv_X2_keyOf : Cv yX2_keyOf := ⟨bg_of 631 rfl rfl, bg_of 24 rfl rfl⟩
set_option maxRecDepth 100000 in
theorem cy_X2_addKey : Cy yX2_addKey cX2_addKey 4 (some .int) 3 := ⟨bg_of 639 rfl rfl, bg_of 104 rfl rfl, (by decide +kernel), by decide⟩
set_option maxRecDepth 100000 in
theorem cv_X2_addKey : Cv yX2_addKey := ⟨bg_of 638 rfl rfl, bg_of 25 rfl rfl⟩
set_option maxRecDepth 100000 in
theorem cy_X2_isSame : Cy yX2_isSame cX2_isSame 5 (some .boolean) 4 := ⟨bg_of 635 rfl rfl, bg_of 104 rfl rfl, (by decide +kernel), by decide⟩
set_option maxRecDepth 100000 in
theorem cs_X2_isSame : Cs yX2_isSame := bg_of 634 rfl rfl
set_option maxRecDepth 100000 in
theorem cy_X2_longsUsed : Cy yX2_longsUsed cX2_longsUsed 1 (some .int) 0 := ⟨bg_of 647 rfl rfl, bg_of 104 rfl rfl, (by decide +kernel), by decide⟩
set_option maxRecDepth 100000 in
theorem cv_X2_longsUsed : Cv yX2_longsUsed := ⟨bg_of 646 rfl rfl, bg_of 27 rfl rfl⟩
set_option maxRecDepth 100000 in
theorem cy_X2_compare : Cy yX2_compare cX2_compare 7 none 1 := ⟨bg_of 643 rfl rfl, bg_of 104 rfl rfl, (by decide +kernel), by decide⟩
set_option maxRecDepth 100000 in
theorem cv_X2_compare : Cv yX2_compare := ⟨bg_of 642 rfl rfl, bg_of 26 rfl rfl⟩
set_option maxRecDepth 100000 in
theorem cy_X2_isStale : Cy yX2_isStale cX2_isStale 9 (some .boolean) 2 := ⟨bg_of 775 rfl rfl, bg_of 104 rfl rfl, (by decide +kernel), by decide⟩
set_option maxRecDepth 100000 in
theorem cv_X2_isStale : Cv yX2_isStale := ⟨bg_of 774 rfl rfl, bg_of 47 rfl rfl⟩
set_option maxRecDepth 100000 in
theorem cy_X3_clear : Cy yX3_clear cX3_clear 1 none 0 := ⟨bg_of 811 rfl rfl, bg_of 109 rfl rfl, (by decide +kernel), by decide⟩
set_option maxRecDepth 100000 in
theorem cv_X3_clear : Cv yX3_clear := ⟨bg_of 810 rfl rfl, bg_of 52 rfl rfl⟩
set_option maxRecDepth 100000 in
theorem cy_X3_addHead : Cy yX3_addHead cX3_addHead 2 none 1 := ⟨bg_of 815 rfl rfl, bg_of 109 rfl rfl, (by decide +kernel), by decide⟩
set_option maxRecDepth 100000 in
theorem cv_X3_addHead : Cv yX3_addHead := ⟨bg_of 814 rfl rfl, bg_of 53 rfl rfl⟩
set_option maxRecDepth 100000 in
theorem cy_X3_addPart : Cy yX3_addPart cX3_addPart 4 none 3 := ⟨bg_of 819 rfl rfl, bg_of 109 rfl rfl, (by decide +kernel), by decide⟩
set_option maxRecDepth 100000 in
theorem cv_X3_addPart : Cv yX3_addPart := ⟨bg_of 818 rfl rfl, bg_of 54 rfl rfl⟩
set_option maxRecDepth 100000 in
theorem cy_X3_bind : Cy yX3_bind cX3_bind 5 none 2 := ⟨bg_of 828 rfl rfl, bg_of 109 rfl rfl, (by decide +kernel), by decide⟩
set_option maxRecDepth 100000 in
theorem cv_X3_bind : Cv yX3_bind := ⟨bg_of 827 rfl rfl, bg_of 56 rfl rfl⟩
set_option maxRecDepth 100000 in
theorem cy_X3_unitOf : Cy yX3_unitOf cX3_unitOf 3 (some .int) 1 := ⟨bg_of 832 rfl rfl, bg_of 109 rfl rfl, (by decide +kernel), by decide⟩
set_option maxRecDepth 100000 in
theorem cv_X3_unitOf : Cv yX3_unitOf := ⟨bg_of 831 rfl rfl, bg_of 57 rfl rfl⟩
set_option maxRecDepth 100000 in
theorem cy_X3_solve : Cy yX3_solve cX3_solve 4 (some .boolean) 0 := ⟨bg_of 840 rfl rfl, bg_of 109 rfl rfl, (by decide +kernel), by decide⟩
set_option maxRecDepth 100000 in
theorem cv_X3_solve : Cv yX3_solve := ⟨bg_of 839 rfl rfl, bg_of 59 rfl rfl⟩
set_option maxRecDepth 100000 in
theorem cy_X3_chooseRow : Cy yX3_chooseRow cX3_chooseRow 4 none 0 := ⟨bg_of 864 rfl rfl, bg_of 109 rfl rfl, (by decide +kernel), by decide⟩
set_option maxRecDepth 100000 in
theorem cv_X3_chooseRow : Cv yX3_chooseRow := ⟨bg_of 863 rfl rfl, bg_of 63 rfl rfl⟩
set_option maxRecDepth 100000 in
theorem cy_X3_mayCome : Cy yX3_mayCome cX3_mayCome 3 (some .boolean) 2 := ⟨bg_of 845 rfl rfl, bg_of 109 rfl rfl, (by decide +kernel), by decide⟩
set_option maxRecDepth 100000 in
theorem cv_X3_mayCome : Cv yX3_mayCome := ⟨bg_of 844 rfl rfl, bg_of 60 rfl rfl⟩
set_option maxRecDepth 100000 in
theorem cy_X3_costWith : Cy yX3_costWith cX3_costWith 3 (some .int) 2 := ⟨bg_of 849 rfl rfl, bg_of 109 rfl rfl, (by decide +kernel), by decide⟩
set_option maxRecDepth 100000 in
theorem cv_X3_costWith : Cv yX3_costWith := ⟨bg_of 848 rfl rfl, bg_of 61 rfl rfl⟩
set_option maxRecDepth 100000 in
theorem cy_X3_stepCost : Cy yX3_stepCost cX3_stepCost 5 (some .int) 2 := ⟨bg_of 853 rfl rfl, bg_of 109 rfl rfl, (by decide +kernel), by decide⟩
set_option maxRecDepth 100000 in
theorem cv_X3_stepCost : Cv yX3_stepCost := ⟨bg_of 852 rfl rfl, bg_of 62 rfl rfl⟩
set_option maxRecDepth 100000 in
theorem cy_X3_leastCost : Cy yX3_leastCost cX3_leastCost 1 (some .int) 0 := ⟨bg_of 868 rfl rfl, bg_of 109 rfl rfl, (by decide +kernel), by decide⟩
set_option maxRecDepth 100000 in
theorem cv_X3_leastCost : Cv yX3_leastCost := ⟨bg_of 867 rfl rfl, bg_of 64 rfl rfl⟩
set_option maxRecDepth 100000 in
theorem cy_X3_keepRow : Cy yX3_keepRow cX3_keepRow 2 none 0 := ⟨bg_of 872 rfl rfl, bg_of 109 rfl rfl, (by decide +kernel), by decide⟩
set_option maxRecDepth 100000 in
theorem cv_X3_keepRow : Cv yX3_keepRow := ⟨bg_of 871 rfl rfl, bg_of 65 rfl rfl⟩
set_option maxRecDepth 100000 in
theorem cy_X4_has : Cy yX4_has cX4_has 4 (some .boolean) 2 := ⟨bg_of 795 rfl rfl, bg_of 108 rfl rfl, (by decide +kernel), by decide⟩
set_option maxRecDepth 100000 in
theorem cv_X4_has : Cv yX4_has := ⟨bg_of 794 rfl rfl, bg_of 49 rfl rfl⟩
set_option maxRecDepth 100000 in
theorem cy_X4_add : Cy yX4_add cX4_add 3 none 2 := ⟨bg_of 799 rfl rfl, bg_of 108 rfl rfl, (by decide +kernel), by decide⟩
set_option maxRecDepth 100000 in
theorem cv_X4_add : Cv yX4_add := ⟨bg_of 798 rfl rfl, bg_of 50 rfl rfl⟩
set_option maxRecDepth 100000 in
theorem cy_X4_mustBeAhead : Cy yX4_mustBeAhead cX4_mustBeAhead 6 (some .boolean) 2 := ⟨bg_of 791 rfl rfl, bg_of 108 rfl rfl, (by decide +kernel), by decide⟩
