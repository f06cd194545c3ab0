set_option maxRecDepth 100000 in
theorem bg_ws (ws : List Cond) (ps : List Nat) (hp : ws = ps.filterMap (fun i => lw_tbl[i]?)) (h : ws.all goodWord = true) : ∀ w ∈ ws, w ∈ BG := by
  intro w hw
  have hg := List.all_eq_true.mp h w hw
  rw [hp] at hw
  obtain ⟨i, -, hi⟩ := List.mem_filterMap.mp hw
  exact bg_of i hi hg
set_option maxRecDepth 100000 in
theorem cl_X0 : Cl 0 RX0 TX0 tyX0 := ⟨rfl, by decide, bg_ws _ [353, 355, 357, 359, 361] (by decide +kernel) (by decide +kernel), tyX0_ok, nmX0⟩
set_option maxRecDepth 100000 in
theorem cl_X1 : Cl 1 RX1 TX1 tyX1 := ⟨rfl, by decide, bg_ws _ [324, 326, 328, 330, 332, 334] (by decide +kernel) (by decide +kernel), tyX1_ok, nmX1⟩
set_option maxRecDepth 100000 in
theorem cl_X2 : Cl 2 RX2 TX2 tyX2 := ⟨rfl, by decide, bg_ws _ [270, 272, 274, 276, 278, 280, 282, 284, 286] (by decide +kernel) (by decide +kernel), tyX2_ok, nmX2⟩
set_option maxRecDepth 100000 in
theorem cl_X3 : Cl 3 RX3 TX3 tyX3 := ⟨rfl, by decide, bg_ws _ [406, 408, 410, 412, 414, 416, 418, 420, 422, 424] (by decide +kernel) (by decide +kernel), tyX3_ok, nmX3⟩
set_option maxRecDepth 100000 in
theorem cl_X4 : Cl 4 RX4 TX4 tyX4 := ⟨rfl, by decide, bg_ws _ [376, 378, 380] (by decide +kernel) (by decide +kernel), tyX4_ok, nmX4⟩
set_option maxRecDepth 100000 in
theorem cl_X5 : Cl 5 RX5 TX5 tyX5 := ⟨rfl, by decide, bg_ws _ [301, 303, 305, 307] (by decide +kernel) (by decide +kernel), tyX5_ok, nmX5⟩
set_option maxRecDepth 100000 in
theorem cl_X6 : Cl 6 RX6 TX6 tyX6 := ⟨rfl, by decide, bg_ws _ [186, 188, 190, 192, 194, 196, 198] (by decide +kernel) (by decide +kernel), tyX6_ok, nmX6⟩
set_option maxRecDepth 100000 in
theorem cl_X7 : Cl 7 RX7 TX7 tyX7 := ⟨rfl, by decide, bg_ws _ [136, 138] (by decide +kernel) (by decide +kernel), tyX7_ok, nmX7⟩
set_option maxRecDepth 100000 in
theorem cl_X8 : Cl 8 RX8 TX8 tyX8 := ⟨rfl, by decide, bg_ws _ [235, 237, 239, 241, 243, 245, 247, 249] (by decide +kernel) (by decide +kernel), tyX8_ok, nmX8⟩
set_option maxRecDepth 100000 in
theorem cl_X9 : Cl 9 RX9 TX9 tyX9 := ⟨rfl, by decide, bg_ws _ [158, 160, 162, 164, 166, 168] (by decide +kernel) (by decide +kernel), tyX9_ok, nmX9⟩
set_option maxRecDepth 100000 in
theorem cl_X10 : Cl 10 RX10 TX10 tyX10 := ⟨rfl, by decide, bg_ws _ [443, 445, 447, 449, 451, 453, 455, 457, 459, 461, 463, 465, 467, 469, 471, 473] (by decide +kernel) (by decide +kernel), tyX10_ok, nmX10⟩
set_option maxRecDepth 100000 in
theorem cl_X11 : Cl 11 RX11 TX11 tyX11 := ⟨rfl, by decide, bg_ws _ [975, 977, 979, 981, 983, 985, 987, 989, 991, 993, 995, 997, 999, 1001, 1003, 1005, 1007, 1009, 1011, 1013, 1015, 1017, 1019, 1021, 1023, 1025, 1027, 1029, 1031, 1033, 1035, 1037, 1039, 1041, 1043, 1045, 1047, 1049, 1051, 1053, 1055, 1057, 1059, 1061, 1063, 1065, 1067, 1069, 1071, 1073, 1075, 1077, 1079, 1081, 1083] (by decide +kernel) (by decide +kernel), tyX11_ok, nmX11⟩
set_option maxRecDepth 100000 in
theorem lk_L_9 : Lk RL 9 yX10_init := Or.inl (bg_of 118 rfl rfl)
set_option maxRecDepth 100000 in
theorem lk_X10_11 : Lk RX10 11 yX7_init := Or.inr ⟨_, nw_of (w := .methodLinkNest RX10 11 yX7_init "EssayBones") 28 rfl rfl⟩
set_option maxRecDepth 100000 in
theorem fl_X7_9 : Fl RX7 9 7 0 := ⟨RX7, TX7, tyX7, cl_X7, by decide, rfl, Or.inl (bg_of 130 rfl rfl)⟩
set_option maxRecDepth 100000 in
theorem fl_X6_27 : Fl RX6 27 7 0 := ⟨RX7, TX7, tyX7, cl_X7, by decide, rfl, Or.inr ⟨_, nw_of (w := .fieldLinkNest RX6 27 RX7 (TX7 0).2.1 (TX7 0).2.2.1 "EssayBones") 33 rfl rfl⟩⟩
set_option maxRecDepth 100000 in
theorem fl_X10_110 : Fl RX10 110 7 0 := ⟨RX7, TX7, tyX7, cl_X7, by decide, rfl, Or.inr ⟨_, nw_of (w := .fieldLinkNest RX10 110 RX7 (TX7 0).2.1 (TX7 0).2.2.1 "EssayBones") 34 rfl rfl⟩⟩
set_option maxRecDepth 100000 in
theorem fl_X10_94 : Fl RX10 94 7 1 := ⟨RX7, TX7, tyX7, cl_X7, by decide, rfl, Or.inr ⟨_, nw_of (w := .fieldLinkNest RX10 94 RX7 (TX7 1).2.1 (TX7 1).2.2.1 "EssayBones") 35 rfl rfl⟩⟩
set_option maxRecDepth 100000 in
theorem fp_X10_94 : Fp RX10 94 7 1 .int := ⟨RX7, TX7, tyX7, cl_X7, by decide, rfl, Or.inr ⟨_, nw_of (w := .fieldLinkNest RX10 94 RX7 (TX7 1).2.1 (TX7 1).2.2.1 "EssayBones") 35 rfl rfl⟩, rfl, (by decide +kernel)⟩
set_option maxRecDepth 100000 in
theorem fl_X7_15 : Fl RX7 15 7 1 := ⟨RX7, TX7, tyX7, cl_X7, by decide, rfl, Or.inl (bg_of 134 rfl rfl)⟩
set_option maxRecDepth 100000 in
theorem fp_X7_15 : Fp RX7 15 7 1 .int := ⟨RX7, TX7, tyX7, cl_X7, by decide, rfl, Or.inl (bg_of 134 rfl rfl), rfl, (by decide +kernel)⟩
set_option maxRecDepth 100000 in
theorem fl_X6_19 : Fl RX6 19 7 1 := ⟨RX7, TX7, tyX7, cl_X7, by decide, rfl, Or.inr ⟨_, nw_of (w := .fieldLinkNest RX6 19 RX7 (TX7 1).2.1 (TX7 1).2.2.1 "EssayBones") 37 rfl rfl⟩⟩
set_option maxRecDepth 100000 in
theorem fp_X6_19 : Fp RX6 19 7 1 .int := ⟨RX7, TX7, tyX7, cl_X7, by decide, rfl, Or.inr ⟨_, nw_of (w := .fieldLinkNest RX6 19 RX7 (TX7 1).2.1 (TX7 1).2.2.1 "EssayBones") 37 rfl rfl⟩, rfl, (by decide +kernel)⟩
set_option maxRecDepth 100000 in
theorem lk_X10_18 : Lk RX10 18 yX9_init := Or.inr ⟨_, nw_of (w := .methodLinkNest RX10 18 yX9_init "EssayBones") 46 rfl rfl⟩
set_option maxRecDepth 100000 in
theorem fl_X9_9 : Fl RX9 9 9 0 := ⟨RX9, TX9, tyX9, cl_X9, by decide, rfl, Or.inl (bg_of 148 rfl rfl)⟩
set_option maxRecDepth 100000 in
theorem fl_X9_15 : Fl RX9 15 9 1 := ⟨RX9, TX9, tyX9, cl_X9, by decide, rfl, Or.inl (bg_of 149 rfl rfl)⟩
set_option maxRecDepth 100000 in
theorem fl_X10_139 : Fl RX10 139 9 1 := ⟨RX9, TX9, tyX9, cl_X9, by decide, rfl, Or.inr ⟨_, nw_of (w := .fieldLinkNest RX10 139 RX9 (TX9 1).2.1 (TX9 1).2.2.1 "EssayBones") 52 rfl rfl⟩⟩
set_option maxRecDepth 100000 in
theorem fl_X9_18 : Fl RX9 18 9 2 := ⟨RX9, TX9, tyX9, cl_X9, by decide, rfl, Or.inl (bg_of 151 rfl rfl)⟩
set_option maxRecDepth 100000 in
theorem fl_X9_22 : Fl RX9 22 9 3 := ⟨RX9, TX9, tyX9, cl_X9, by decide, rfl, Or.inl (bg_of 152 rfl rfl)⟩
set_option maxRecDepth 100000 in
theorem fl_X9_25 : Fl RX9 25 9 4 := ⟨RX9, TX9, tyX9, cl_X9, by decide, rfl, Or.inl (bg_of 153 rfl rfl)⟩
set_option maxRecDepth 100000 in
theorem fl_X2_73 : Fl RX2 73 9 4 := ⟨RX9, TX9, tyX9, cl_X9, by decide, rfl, Or.inr ⟨_, nw_of (w := .fieldLinkNest RX2 73 RX9 (TX9 4).2.1 (TX9 4).2.2.1 "EssayBones") 56 rfl rfl⟩⟩
set_option maxRecDepth 100000 in
theorem fl_X10_120 : Fl RX10 120 9 4 := ⟨RX9, TX9, tyX9, cl_X9, by decide, rfl, Or.inr ⟨_, nw_of (w := .fieldLinkNest RX10 120 RX9 (TX9 4).2.1 (TX9 4).2.2.1 "EssayBones") 57 rfl rfl⟩⟩
set_option maxRecDepth 100000 in
theorem fl_X9_28 : Fl RX9 28 9 5 := ⟨RX9, TX9, tyX9, cl_X9, by decide, rfl, Or.inl (bg_of 156 rfl rfl)⟩
set_option maxRecDepth 100000 in
theorem fp_X9_28 : Fp RX9 28 9 5 .int := ⟨RX9, TX9, tyX9, cl_X9, by decide, rfl, Or.inl (bg_of 156 rfl rfl), rfl, (by decide +kernel)⟩
set_option maxRecDepth 100000 in
theorem fl_X10_135 : Fl RX10 135 9 5 := ⟨RX9, TX9, tyX9, cl_X9, by decide, rfl, Or.inr ⟨_, nw_of (w := .fieldLinkNest RX10 135 RX9 (TX9 5).2.1 (TX9 5).2.2.1 "EssayBones") 59 rfl rfl⟩⟩
set_option maxRecDepth 100000 in
theorem fp_X10_135 : Fp RX10 135 9 5 .int := ⟨RX9, TX9, tyX9, cl_X9, by decide, rfl, Or.inr ⟨_, nw_of (w := .fieldLinkNest RX10 135 RX9 (TX9 5).2.1 (TX9 5).2.2.1 "EssayBones") 59 rfl rfl⟩, rfl, (by decide +kernel)⟩
set_option maxRecDepth 100000 in
theorem lk_X10_37 : Lk RX10 37 yX6_init := Or.inr ⟨_, nw_of (w := .methodLinkNest RX10 37 yX6_init "EssayBones") 75 rfl rfl⟩
set_option maxRecDepth 100000 in
theorem fl_X6_24 : Fl RX6 24 6 0 := ⟨RX6, TX6, tyX6, cl_X6, by decide, rfl, Or.inl (bg_of 177 rfl rfl)⟩
set_option maxRecDepth 100000 in
theorem fp_X6_24 : Fp RX6 24 6 0 .int := ⟨RX6, TX6, tyX6, cl_X6, by decide, rfl, Or.inl (bg_of 177 rfl rfl), rfl, (by decide +kernel)⟩
set_option maxRecDepth 100000 in
theorem fl_X10_146 : Fl RX10 146 6 0 := ⟨RX6, TX6, tyX6, cl_X6, by decide, rfl, Or.inr ⟨_, nw_of (w := .fieldLinkNest RX10 146 RX6 (TX6 0).2.1 (TX6 0).2.2.1 "EssayBones") 80 rfl rfl⟩⟩
set_option maxRecDepth 100000 in
theorem fp_X10_146 : Fp RX10 146 6 0 .int := ⟨RX6, TX6, tyX6, cl_X6, by decide, rfl, Or.inr ⟨_, nw_of (w := .fieldLinkNest RX10 146 RX6 (TX6 0).2.1 (TX6 0).2.2.1 "EssayBones") 80 rfl rfl⟩, rfl, (by decide +kernel)⟩
set_option maxRecDepth 100000 in
theorem fl_X6_9 : Fl RX6 9 6 1 := ⟨RX6, TX6, tyX6, cl_X6, by decide, rfl, Or.inl (bg_of 179 rfl rfl)⟩
set_option maxRecDepth 100000 in
theorem fp_X6_9 : Fp RX6 9 6 1 .int := ⟨RX6, TX6, tyX6, cl_X6, by decide, rfl, Or.inl (bg_of 179 rfl rfl), rfl, (by decide +kernel)⟩
set_option maxRecDepth 100000 in
theorem fl_X10_156 : Fl RX10 156 6 1 := ⟨RX6, TX6, tyX6, cl_X6, by decide, rfl, Or.inr ⟨_, nw_of (w := .fieldLinkNest RX10 156 RX6 (TX6 1).2.1 (TX6 1).2.2.1 "EssayBones") 82 rfl rfl⟩⟩
set_option maxRecDepth 100000 in
theorem fp_X10_156 : Fp RX10 156 6 1 .int := ⟨RX6, TX6, tyX6, cl_X6, by decide, rfl, Or.inr ⟨_, nw_of (w := .fieldLinkNest RX10 156 RX6 (TX6 1).2.1 (TX6 1).2.2.1 "EssayBones") 82 rfl rfl⟩, rfl, (by decide +kernel)⟩
set_option maxRecDepth 100000 in
theorem fl_X6_48 : Fl RX6 48 6 2 := ⟨RX6, TX6, tyX6, cl_X6, by decide, rfl, Or.inl (bg_of 181 rfl rfl)⟩
set_option maxRecDepth 100000 in
theorem fp_X6_48 : Fp RX6 48 6 2 .boolean := ⟨RX6, TX6, tyX6, cl_X6, by decide, rfl, Or.inl (bg_of 181 rfl rfl), rfl, (by decide +kernel)⟩
set_option maxRecDepth 100000 in
theorem fl_X6_56 : Fl RX6 56 6 3 := ⟨RX6, TX6, tyX6, cl_X6, by decide, rfl, Or.inl (bg_of 182 rfl rfl)⟩
set_option maxRecDepth 100000 in
theorem fp_X6_56 : Fp RX6 56 6 3 .boolean := ⟨RX6, TX6, tyX6, cl_X6, by decide, rfl, Or.inl (bg_of 182 rfl rfl), rfl, (by decide +kernel)⟩
set_option maxRecDepth 100000 in
theorem fl_X6_66 : Fl RX6 66 6 4 := ⟨RX6, TX6, tyX6, cl_X6, by decide, rfl, Or.inl (bg_of 183 rfl rfl)⟩
set_option maxRecDepth 100000 in
theorem fp_X6_66 : Fp RX6 66 6 4 .boolean := ⟨RX6, TX6, tyX6, cl_X6, by decide, rfl, Or.inl (bg_of 183 rfl rfl), rfl, (by decide +kernel)⟩
set_option maxRecDepth 100000 in
theorem fl_X6_69 : Fl RX6 69 6 5 := ⟨RX6, TX6, tyX6, cl_X6, by decide, rfl, Or.inl (bg_of 184 rfl rfl)⟩
set_option maxRecDepth 100000 in
theorem fp_X6_69 : Fp RX6 69 6 5 .boolean := ⟨RX6, TX6, tyX6, cl_X6, by decide, rfl, Or.inl (bg_of 184 rfl rfl), rfl, (by decide +kernel)⟩
set_option maxRecDepth 100000 in
theorem fl_X6_72 : Fl RX6 72 6 6 := ⟨RX6, TX6, tyX6, cl_X6, by decide, rfl, Or.inl (bg_of 185 rfl rfl)⟩
set_option maxRecDepth 100000 in
theorem fp_X6_72 : Fp RX6 72 6 6 .int := ⟨RX6, TX6, tyX6, cl_X6, by decide, rfl, Or.inl (bg_of 185 rfl rfl), rfl, (by decide +kernel)⟩
set_option maxRecDepth 100000 in
theorem lk_X10_44 : Lk RX10 44 yX8_init := Or.inr ⟨_, nw_of (w := .methodLinkNest RX10 44 yX8_init "EssayBones") 105 rfl rfl⟩
set_option maxRecDepth 100000 in
theorem fl_X8_9 : Fl RX8 9 8 0 := ⟨RX8, TX8, tyX8, cl_X8, by decide, rfl, Or.inl (bg_of 207 rfl rfl)⟩
set_option maxRecDepth 100000 in
theorem fl_X6_35 : Fl RX6 35 8 0 := ⟨RX8, TX8, tyX8, cl_X8, by decide, rfl, Or.inr ⟨_, nw_of (w := .fieldLinkNest RX6 35 RX8 (TX8 0).2.1 (TX8 0).2.2.1 "EssayBones") 110 rfl rfl⟩⟩
set_option maxRecDepth 100000 in
theorem fl_X2_58 : Fl RX2 58 8 0 := ⟨RX8, TX8, tyX8, cl_X8, by decide, rfl, Or.inr ⟨_, nw_of (w := .fieldLinkNest RX2 58 RX8 (TX8 0).2.1 (TX8 0).2.2.1 "EssayBones") 111 rfl rfl⟩⟩
set_option maxRecDepth 100000 in
theorem fl_X10_196 : Fl RX10 196 8 0 := ⟨RX8, TX8, tyX8, cl_X8, by decide, rfl, Or.inr ⟨_, nw_of (w := .fieldLinkNest RX10 196 RX8 (TX8 0).2.1 (TX8 0).2.2.1 "EssayBones") 112 rfl rfl⟩⟩
set_option maxRecDepth 100000 in
theorem fl_X8_15 : Fl RX8 15 8 1 := ⟨RX8, TX8, tyX8, cl_X8, by decide, rfl, Or.inl (bg_of 211 rfl rfl)⟩
set_option maxRecDepth 100000 in
theorem fl_X2_61 : Fl RX2 61 8 1 := ⟨RX8, TX8, tyX8, cl_X8, by decide, rfl, Or.inr ⟨_, nw_of (w := .fieldLinkNest RX2 61 RX8 (TX8 1).2.1 (TX8 1).2.2.1 "EssayBones") 114 rfl rfl⟩⟩
set_option maxRecDepth 100000 in
theorem fl_X6_90 : Fl RX6 90 8 1 := ⟨RX8, TX8, tyX8, cl_X8, by decide, rfl, Or.inr ⟨_, nw_of (w := .fieldLinkNest RX6 90 RX8 (TX8 1).2.1 (TX8 1).2.2.1 "EssayBones") 115 rfl rfl⟩⟩
set_option maxRecDepth 100000 in
theorem fl_X10_199 : Fl RX10 199 8 1 := ⟨RX8, TX8, tyX8, cl_X8, by decide, rfl, Or.inr ⟨_, nw_of (w := .fieldLinkNest RX10 199 RX8 (TX8 1).2.1 (TX8 1).2.2.1 "EssayBones") 116 rfl rfl⟩⟩
set_option maxRecDepth 100000 in
theorem fl_X8_18 : Fl RX8 18 8 2 := ⟨RX8, TX8, tyX8, cl_X8, by decide, rfl, Or.inl (bg_of 215 rfl rfl)⟩
set_option maxRecDepth 100000 in
theorem fl_X2_64 : Fl RX2 64 8 2 := ⟨RX8, TX8, tyX8, cl_X8, by decide, rfl, Or.inr ⟨_, nw_of (w := .fieldLinkNest RX2 64 RX8 (TX8 2).2.1 (TX8 2).2.2.1 "EssayBones") 118 rfl rfl⟩⟩
set_option maxRecDepth 100000 in
theorem fl_X6_81 : Fl RX6 81 8 2 := ⟨RX8, TX8, tyX8, cl_X8, by decide, rfl, Or.inr ⟨_, nw_of (w := .fieldLinkNest RX6 81 RX8 (TX8 2).2.1 (TX8 2).2.2.1 "EssayBones") 119 rfl rfl⟩⟩
set_option maxRecDepth 100000 in
theorem fl_X10_193 : Fl RX10 193 8 2 := ⟨RX8, TX8, tyX8, cl_X8, by decide, rfl, Or.inr ⟨_, nw_of (w := .fieldLinkNest RX10 193 RX8 (TX8 2).2.1 (TX8 2).2.2.1 "EssayBones") 120 rfl rfl⟩⟩
set_option maxRecDepth 100000 in
theorem fl_X8_21 : Fl RX8 21 8 3 := ⟨RX8, TX8, tyX8, cl_X8, by decide, rfl, Or.inl (bg_of 219 rfl rfl)⟩
set_option maxRecDepth 100000 in
theorem fl_X2_55 : Fl RX2 55 8 3 := ⟨RX8, TX8, tyX8, cl_X8, by decide, rfl, Or.inr ⟨_, nw_of (w := .fieldLinkNest RX2 55 RX8 (TX8 3).2.1 (TX8 3).2.2.1 "EssayBones") 122 rfl rfl⟩⟩
set_option maxRecDepth 100000 in
theorem fl_X6_93 : Fl RX6 93 8 3 := ⟨RX8, TX8, tyX8, cl_X8, by decide, rfl, Or.inr ⟨_, nw_of (w := .fieldLinkNest RX6 93 RX8 (TX8 3).2.1 (TX8 3).2.2.1 "EssayBones") 123 rfl rfl⟩⟩
set_option maxRecDepth 100000 in
theorem fl_X10_190 : Fl RX10 190 8 3 := ⟨RX8, TX8, tyX8, cl_X8, by decide, rfl, Or.inr ⟨_, nw_of (w := .fieldLinkNest RX10 190 RX8 (TX8 3).2.1 (TX8 3).2.2.1 "EssayBones") 124 rfl rfl⟩⟩
set_option maxRecDepth 100000 in
theorem fl_X8_24 : Fl RX8 24 8 4 := ⟨RX8, TX8, tyX8, cl_X8, by decide, rfl, Or.inl (bg_of 223 rfl rfl)⟩
set_option maxRecDepth 100000 in
theorem fl_X2_76 : Fl RX2 76 8 4 := ⟨RX8, TX8, tyX8, cl_X8, by decide, rfl, Or.inr ⟨_, nw_of (w := .fieldLinkNest RX2 76 RX8 (TX8 4).2.1 (TX8 4).2.2.1 "EssayBones") 126 rfl rfl⟩⟩
set_option maxRecDepth 100000 in
theorem fl_X6_87 : Fl RX6 87 8 4 := ⟨RX8, TX8, tyX8, cl_X8, by decide, rfl, Or.inr ⟨_, nw_of (w := .fieldLinkNest RX6 87 RX8 (TX8 4).2.1 (TX8 4).2.2.1 "EssayBones") 127 rfl rfl⟩⟩
set_option maxRecDepth 100000 in
theorem fl_X10_169 : Fl RX10 169 8 4 := ⟨RX8, TX8, tyX8, cl_X8, by decide, rfl, Or.inr ⟨_, nw_of (w := .fieldLinkNest RX10 169 RX8 (TX8 4).2.1 (TX8 4).2.2.1 "EssayBones") 128 rfl rfl⟩⟩
set_option maxRecDepth 100000 in
theorem fl_X8_27 : Fl RX8 27 8 5 := ⟨RX8, TX8, tyX8, cl_X8, by decide, rfl, Or.inl (bg_of 227 rfl rfl)⟩
set_option maxRecDepth 100000 in
theorem fl_X6_96 : Fl RX6 96 8 5 := ⟨RX8, TX8, tyX8, cl_X8, by decide, rfl, Or.inr ⟨_, nw_of (w := .fieldLinkNest RX6 96 RX8 (TX8 5).2.1 (TX8 5).2.2.1 "EssayBones") 130 rfl rfl⟩⟩
set_option maxRecDepth 100000 in
theorem fl_X10_178 : Fl RX10 178 8 5 := ⟨RX8, TX8, tyX8, cl_X8, by decide, rfl, Or.inr ⟨_, nw_of (w := .fieldLinkNest RX10 178 RX8 (TX8 5).2.1 (TX8 5).2.2.1 "EssayBones") 131 rfl rfl⟩⟩
set_option maxRecDepth 100000 in
theorem fl_X6_75 : Fl RX6 75 8 6 := ⟨RX8, TX8, tyX8, cl_X8, by decide, rfl, Or.inr ⟨_, nw_of (w := .fieldLinkNest RX6 75 RX8 (TX8 6).2.1 (TX8 6).2.2.1 "EssayBones") 132 rfl rfl⟩⟩
set_option maxRecDepth 100000 in
theorem fp_X6_75 : Fp RX6 75 8 6 .int := ⟨RX8, TX8, tyX8, cl_X8, by decide, rfl, Or.inr ⟨_, nw_of (w := .fieldLinkNest RX6 75 RX8 (TX8 6).2.1 (TX8 6).2.2.1 "EssayBones") 132 rfl rfl⟩, rfl, (by decide +kernel)⟩
set_option maxRecDepth 100000 in
theorem fl_X8_30 : Fl RX8 30 8 7 := ⟨RX8, TX8, tyX8, cl_X8, by decide, rfl, Or.inl (bg_of 231 rfl rfl)⟩
set_option maxRecDepth 100000 in
theorem fp_X8_30 : Fp RX8 30 8 7 .int := ⟨RX8, TX8, tyX8, cl_X8, by decide, rfl, Or.inl (bg_of 231 rfl rfl), rfl, (by decide +kernel)⟩
set_option maxRecDepth 100000 in
theorem fl_X2_50 : Fl RX2 50 8 7 := ⟨RX8, TX8, tyX8, cl_X8, by decide, rfl, Or.inr ⟨_, nw_of (w := .fieldLinkNest RX2 50 RX8 (TX8 7).2.1 (TX8 7).2.2.1 "EssayBones") 134 rfl rfl⟩⟩
set_option maxRecDepth 100000 in
theorem fp_X2_50 : Fp RX2 50 8 7 .int := ⟨RX8, TX8, tyX8, cl_X8, by decide, rfl, Or.inr ⟨_, nw_of (w := .fieldLinkNest RX2 50 RX8 (TX8 7).2.1 (TX8 7).2.2.1 "EssayBones") 134 rfl rfl⟩, rfl, (by decide +kernel)⟩
set_option maxRecDepth 100000 in
theorem fl_X6_59 : Fl RX6 59 8 7 := ⟨RX8, TX8, tyX8, cl_X8, by decide, rfl, Or.inr ⟨_, nw_of (w := .fieldLinkNest RX6 59 RX8 (TX8 7).2.1 (TX8 7).2.2.1 "EssayBones") 135 rfl rfl⟩⟩
set_option maxRecDepth 100000 in
theorem fp_X6_59 : Fp RX6 59 8 7 .int := ⟨RX8, TX8, tyX8, cl_X8, by decide, rfl, Or.inr ⟨_, nw_of (w := .fieldLinkNest RX6 59 RX8 (TX8 7).2.1 (TX8 7).2.2.1 "EssayBones") 135 rfl rfl⟩, rfl, (by decide +kernel)⟩
set_option maxRecDepth 100000 in
theorem fl_X10_149 : Fl RX10 149 8 7 := ⟨RX8, TX8, tyX8, cl_X8, by decide, rfl, Or.inr ⟨_, nw_of (w := .fieldLinkNest RX10 149 RX8 (TX8 7).2.1 (TX8 7).2.2.1 "EssayBones") 136 rfl rfl⟩⟩
set_option maxRecDepth 100000 in
theorem fp_X10_149 : Fp RX10 149 8 7 .int := ⟨RX8, TX8, tyX8, cl_X8, by decide, rfl, Or.inr ⟨_, nw_of (w := .fieldLinkNest RX10 149 RX8 (TX8 7).2.1 (TX8 7).2.2.1 "EssayBones") 136 rfl rfl⟩, rfl, (by decide +kernel)⟩
set_option maxRecDepth 100000 in
theorem lk_X10_54 : Lk RX10 54 yX2_init := Or.inr ⟨_, nw_of (w := .methodLinkNest RX10 54 yX2_init "EssayBones") 156 rfl rfl⟩
set_option maxRecDepth 100000 in
theorem fl_X2_9 : Fl RX2 9 2 0 := ⟨RX2, TX2, tyX2, cl_X2, by decide, rfl, Or.inl (bg_of 258 rfl rfl)⟩
set_option maxRecDepth 100000 in
theorem fl_X10_175 : Fl RX10 175 2 0 := ⟨RX2, TX2, tyX2, cl_X2, by decide, rfl, Or.inr ⟨_, nw_of (w := .fieldLinkNest RX10 175 RX2 (TX2 0).2.1 (TX2 0).2.2.1 "EssayBones") 161 rfl rfl⟩⟩
set_option maxRecDepth 100000 in
theorem fl_X2_15 : Fl RX2 15 2 1 := ⟨RX2, TX2, tyX2, cl_X2, by decide, rfl, Or.inl (bg_of 260 rfl rfl)⟩
set_option maxRecDepth 100000 in
theorem fl_X10_172 : Fl RX10 172 2 1 := ⟨RX2, TX2, tyX2, cl_X2, by decide, rfl, Or.inr ⟨_, nw_of (w := .fieldLinkNest RX10 172 RX2 (TX2 1).2.1 (TX2 1).2.2.1 "EssayBones") 163 rfl rfl⟩⟩
set_option maxRecDepth 100000 in
theorem fl_X2_18 : Fl RX2 18 2 2 := ⟨RX2, TX2, tyX2, cl_X2, by decide, rfl, Or.inl (bg_of 262 rfl rfl)⟩
set_option maxRecDepth 100000 in
theorem fl_X10_209 : Fl RX10 209 2 2 := ⟨RX2, TX2, tyX2, cl_X2, by decide, rfl, Or.inr ⟨_, nw_of (w := .fieldLinkNest RX10 209 RX2 (TX2 2).2.1 (TX2 2).2.2.1 "EssayBones") 165 rfl rfl⟩⟩
set_option maxRecDepth 100000 in
theorem fl_X2_21 : Fl RX2 21 2 3 := ⟨RX2, TX2, tyX2, cl_X2, by decide, rfl, Or.inl (bg_of 264 rfl rfl)⟩
set_option maxRecDepth 100000 in
theorem fl_X2_25 : Fl RX2 25 2 4 := ⟨RX2, TX2, tyX2, cl_X2, by decide, rfl, Or.inl (bg_of 265 rfl rfl)⟩
set_option maxRecDepth 100000 in
theorem fl_X2_28 : Fl RX2 28 2 5 := ⟨RX2, TX2, tyX2, cl_X2, by decide, rfl, Or.inl (bg_of 266 rfl rfl)⟩
set_option maxRecDepth 100000 in
theorem fl_X2_31 : Fl RX2 31 2 6 := ⟨RX2, TX2, tyX2, cl_X2, by decide, rfl, Or.inl (bg_of 267 rfl rfl)⟩
set_option maxRecDepth 100000 in
theorem fl_X2_34 : Fl RX2 34 2 7 := ⟨RX2, TX2, tyX2, cl_X2, by decide, rfl, Or.inl (bg_of 268 rfl rfl)⟩
set_option maxRecDepth 100000 in
theorem fl_X2_37 : Fl RX2 37 2 8 := ⟨RX2, TX2, tyX2, cl_X2, by decide, rfl, Or.inl (bg_of 269 rfl rfl)⟩
set_option maxRecDepth 100000 in
theorem fp_X2_37 : Fp RX2 37 2 8 .int := ⟨RX2, TX2, tyX2, cl_X2, by decide, rfl, Or.inl (bg_of 269 rfl rfl), rfl, (by decide +kernel)⟩
set_option maxRecDepth 100000 in
theorem lk_X10_61 : Lk RX10 61 yX5_init := Or.inr ⟨_, nw_of (w := .methodLinkNest RX10 61 yX5_init "EssayBones") 194 rfl rfl⟩
set_option maxRecDepth 100000 in
theorem fl_X5_9 : Fl RX5 9 5 0 := ⟨RX5, TX5, tyX5, cl_X5, by decide, rfl, Or.inl (bg_of 296 rfl rfl)⟩
set_option maxRecDepth 100000 in
theorem fl_X10_166 : Fl RX10 166 5 0 := ⟨RX5, TX5, tyX5, cl_X5, by decide, rfl, Or.inr ⟨_, nw_of (w := .fieldLinkNest RX10 166 RX5 (TX5 0).2.1 (TX5 0).2.2.1 "EssayBones") 199 rfl rfl⟩⟩
set_option maxRecDepth 100000 in
theorem fl_X5_15 : Fl RX5 15 5 1 := ⟨RX5, TX5, tyX5, cl_X5, by decide, rfl, Or.inl (bg_of 298 rfl rfl)⟩
set_option maxRecDepth 100000 in
theorem fl_X5_24 : Fl RX5 24 5 2 := ⟨RX5, TX5, tyX5, cl_X5, by decide, rfl, Or.inl (bg_of 299 rfl rfl)⟩
set_option maxRecDepth 100000 in
theorem fp_X5_24 : Fp RX5 24 5 2 .int := ⟨RX5, TX5, tyX5, cl_X5, by decide, rfl, Or.inl (bg_of 299 rfl rfl), rfl, (by decide +kernel)⟩
set_option maxRecDepth 100000 in
theorem fl_X5_34 : Fl RX5 34 5 3 := ⟨RX5, TX5, tyX5, cl_X5, by decide, rfl, Or.inl (bg_of 300 rfl rfl)⟩
set_option maxRecDepth 100000 in
theorem fp_X5_34 : Fp RX5 34 5 3 .int := ⟨RX5, TX5, tyX5, cl_X5, by decide, rfl, Or.inl (bg_of 300 rfl rfl), rfl, (by decide +kernel)⟩
set_option maxRecDepth 100000 in
theorem lk_X10_68 : Lk RX10 68 yX1_init := Or.inr ⟨_, nw_of (w := .methodLinkNest RX10 68 yX1_init "EssayBones") 214 rfl rfl⟩
set_option maxRecDepth 100000 in
theorem fl_X1_11 : Fl RX1 11 1 0 := ⟨RX1, TX1, tyX1, cl_X1, by decide, rfl, Or.inl (bg_of 316 rfl rfl)⟩
set_option maxRecDepth 100000 in
theorem fl_X10_245 : Fl RX10 245 1 0 := ⟨RX1, TX1, tyX1, cl_X1, by decide, rfl, Or.inr ⟨_, nw_of (w := .fieldLinkNest RX10 245 RX1 (TX1 0).2.1 (TX1 0).2.2.1 "EssayBones") 219 rfl rfl⟩⟩
set_option maxRecDepth 100000 in
theorem fl_X1_15 : Fl RX1 15 1 1 := ⟨RX1, TX1, tyX1, cl_X1, by decide, rfl, Or.inl (bg_of 318 rfl rfl)⟩
set_option maxRecDepth 100000 in
theorem fl_X10_236 : Fl RX10 236 1 1 := ⟨RX1, TX1, tyX1, cl_X1, by decide, rfl, Or.inr ⟨_, nw_of (w := .fieldLinkNest RX10 236 RX1 (TX1 1).2.1 (TX1 1).2.2.1 "EssayBones") 221 rfl rfl⟩⟩
set_option maxRecDepth 100000 in
theorem fl_X1_18 : Fl RX1 18 1 2 := ⟨RX1, TX1, tyX1, cl_X1, by decide, rfl, Or.inl (bg_of 320 rfl rfl)⟩
set_option maxRecDepth 100000 in
theorem fl_X1_21 : Fl RX1 21 1 3 := ⟨RX1, TX1, tyX1, cl_X1, by decide, rfl, Or.inl (bg_of 321 rfl rfl)⟩
set_option maxRecDepth 100000 in
theorem fl_X1_24 : Fl RX1 24 1 4 := ⟨RX1, TX1, tyX1, cl_X1, by decide, rfl, Or.inl (bg_of 322 rfl rfl)⟩
set_option maxRecDepth 100000 in
theorem fl_X1_28 : Fl RX1 28 1 5 := ⟨RX1, TX1, tyX1, cl_X1, by decide, rfl, Or.inl (bg_of 323 rfl rfl)⟩
set_option maxRecDepth 100000 in
theorem lk_X10_75 : Lk RX10 75 yX0_init := Or.inr ⟨_, nw_of (w := .methodLinkNest RX10 75 yX0_init "EssayBones") 241 rfl rfl⟩
set_option maxRecDepth 100000 in
theorem fl_X0_9 : Fl RX0 9 0 0 := ⟨RX0, TX0, tyX0, cl_X0, by decide, rfl, Or.inl (bg_of 343 rfl rfl)⟩
set_option maxRecDepth 100000 in
theorem fl_X10_181 : Fl RX10 181 0 0 := ⟨RX0, TX0, tyX0, cl_X0, by decide, rfl, Or.inr ⟨_, nw_of (w := .fieldLinkNest RX10 181 RX0 (TX0 0).2.1 (TX0 0).2.2.1 "EssayBones") 246 rfl rfl⟩⟩
set_option maxRecDepth 100000 in
theorem fl_X0_15 : Fl RX0 15 0 1 := ⟨RX0, TX0, tyX0, cl_X0, by decide, rfl, Or.inl (bg_of 345 rfl rfl)⟩
set_option maxRecDepth 100000 in
theorem fl_X10_184 : Fl RX10 184 0 1 := ⟨RX0, TX0, tyX0, cl_X0, by decide, rfl, Or.inr ⟨_, nw_of (w := .fieldLinkNest RX10 184 RX0 (TX0 1).2.1 (TX0 1).2.2.1 "EssayBones") 248 rfl rfl⟩⟩
set_option maxRecDepth 100000 in
theorem fl_X0_18 : Fl RX0 18 0 2 := ⟨RX0, TX0, tyX0, cl_X0, by decide, rfl, Or.inl (bg_of 347 rfl rfl)⟩
set_option maxRecDepth 100000 in
theorem fl_X10_298 : Fl RX10 298 0 2 := ⟨RX0, TX0, tyX0, cl_X0, by decide, rfl, Or.inr ⟨_, nw_of (w := .fieldLinkNest RX10 298 RX0 (TX0 2).2.1 (TX0 2).2.2.1 "EssayBones") 250 rfl rfl⟩⟩
set_option maxRecDepth 100000 in
theorem fl_X0_21 : Fl RX0 21 0 3 := ⟨RX0, TX0, tyX0, cl_X0, by decide, rfl, Or.inl (bg_of 349 rfl rfl)⟩
set_option maxRecDepth 100000 in
theorem fl_X10_187 : Fl RX10 187 0 3 := ⟨RX0, TX0, tyX0, cl_X0, by decide, rfl, Or.inr ⟨_, nw_of (w := .fieldLinkNest RX10 187 RX0 (TX0 3).2.1 (TX0 3).2.2.1 "EssayBones") 252 rfl rfl⟩⟩
set_option maxRecDepth 100000 in
theorem fl_X0_24 : Fl RX0 24 0 4 := ⟨RX0, TX0, tyX0, cl_X0, by decide, rfl, Or.inl (bg_of 351 rfl rfl)⟩
set_option maxRecDepth 100000 in
theorem fp_X0_24 : Fp RX0 24 0 4 .int := ⟨RX0, TX0, tyX0, cl_X0, by decide, rfl, Or.inl (bg_of 351 rfl rfl), rfl, (by decide +kernel)⟩
set_option maxRecDepth 100000 in
theorem fl_X10_327 : Fl RX10 327 0 4 := ⟨RX0, TX0, tyX0, cl_X0, by decide, rfl, Or.inr ⟨_, nw_of (w := .fieldLinkNest RX10 327 RX0 (TX0 4).2.1 (TX0 4).2.2.1 "EssayBones") 254 rfl rfl⟩⟩
set_option maxRecDepth 100000 in
theorem fp_X10_327 : Fp RX10 327 0 4 .int := ⟨RX0, TX0, tyX0, cl_X0, by decide, rfl, Or.inr ⟨_, nw_of (w := .fieldLinkNest RX10 327 RX0 (TX0 4).2.1 (TX0 4).2.2.1 "EssayBones") 254 rfl rfl⟩, rfl, (by decide +kernel)⟩
set_option maxRecDepth 100000 in
theorem lk_X10_82 : Lk RX10 82 yX4_init := Or.inr ⟨_, nw_of (w := .methodLinkNest RX10 82 yX4_init "EssayBones") 268 rfl rfl⟩
set_option maxRecDepth 100000 in
theorem fl_X4_9 : Fl RX4 9 4 0 := ⟨RX4, TX4, tyX4, cl_X4, by decide, rfl, Or.inl (bg_of 370 rfl rfl)⟩
set_option maxRecDepth 100000 in
theorem fl_X10_353 : Fl RX10 353 4 0 := ⟨RX4, TX4, tyX4, cl_X4, by decide, rfl, Or.inr ⟨_, nw_of (w := .fieldLinkNest RX10 353 RX4 (TX4 0).2.1 (TX4 0).2.2.1 "EssayBones") 273 rfl rfl⟩⟩
set_option maxRecDepth 100000 in
theorem fl_X4_15 : Fl RX4 15 4 1 := ⟨RX4, TX4, tyX4, cl_X4, by decide, rfl, Or.inl (bg_of 372 rfl rfl)⟩
set_option maxRecDepth 100000 in
theorem fl_X10_357 : Fl RX10 357 4 1 := ⟨RX4, TX4, tyX4, cl_X4, by decide, rfl, Or.inr ⟨_, nw_of (w := .fieldLinkNest RX10 357 RX4 (TX4 1).2.1 (TX4 1).2.2.1 "EssayBones") 275 rfl rfl⟩⟩
set_option maxRecDepth 100000 in
theorem fl_X4_18 : Fl RX4 18 4 2 := ⟨RX4, TX4, tyX4, cl_X4, by decide, rfl, Or.inl (bg_of 374 rfl rfl)⟩
set_option maxRecDepth 100000 in
theorem fp_X4_18 : Fp RX4 18 4 2 .int := ⟨RX4, TX4, tyX4, cl_X4, by decide, rfl, Or.inl (bg_of 374 rfl rfl), rfl, (by decide +kernel)⟩
set_option maxRecDepth 100000 in
theorem fl_X10_155 : Fl RX10 155 4 2 := ⟨RX4, TX4, tyX4, cl_X4, by decide, rfl, Or.inr ⟨_, nw_of (w := .fieldLinkNest RX10 155 RX4 (TX4 2).2.1 (TX4 2).2.2.1 "EssayBones") 277 rfl rfl⟩⟩
set_option maxRecDepth 100000 in
theorem fp_X10_155 : Fp RX10 155 4 2 .int := ⟨RX4, TX4, tyX4, cl_X4, by decide, rfl, Or.inr ⟨_, nw_of (w := .fieldLinkNest RX10 155 RX4 (TX4 2).2.1 (TX4 2).2.2.1 "EssayBones") 277 rfl rfl⟩, rfl, (by decide +kernel)⟩
set_option maxRecDepth 100000 in
theorem lk_X10_89 : Lk RX10 89 yX3_init := Or.inr ⟨_, nw_of (w := .methodLinkNest RX10 89 yX3_init "EssayBones") 287 rfl rfl⟩
set_option maxRecDepth 100000 in
theorem fl_X3_9 : Fl RX3 9 3 0 := ⟨RX3, TX3, tyX3, cl_X3, by decide, rfl, Or.inl (bg_of 389 rfl rfl)⟩
set_option maxRecDepth 100000 in
theorem fl_X10_347 : Fl RX10 347 3 0 := ⟨RX3, TX3, tyX3, cl_X3, by decide, rfl, Or.inr ⟨_, nw_of (w := .fieldLinkNest RX10 347 RX3 (TX3 0).2.1 (TX3 0).2.2.1 "EssayBones") 292 rfl rfl⟩⟩
set_option maxRecDepth 100000 in
theorem fl_X3_15 : Fl RX3 15 3 1 := ⟨RX3, TX3, tyX3, cl_X3, by decide, rfl, Or.inl (bg_of 391 rfl rfl)⟩
set_option maxRecDepth 100000 in
theorem fl_X10_310 : Fl RX10 310 3 1 := ⟨RX3, TX3, tyX3, cl_X3, by decide, rfl, Or.inr ⟨_, nw_of (w := .fieldLinkNest RX10 310 RX3 (TX3 1).2.1 (TX3 1).2.2.1 "EssayBones") 294 rfl rfl⟩⟩
set_option maxRecDepth 100000 in
theorem fl_X3_18 : Fl RX3 18 3 2 := ⟨RX3, TX3, tyX3, cl_X3, by decide, rfl, Or.inl (bg_of 393 rfl rfl)⟩
set_option maxRecDepth 100000 in
theorem fl_X10_313 : Fl RX10 313 3 2 := ⟨RX3, TX3, tyX3, cl_X3, by decide, rfl, Or.inr ⟨_, nw_of (w := .fieldLinkNest RX10 313 RX3 (TX3 2).2.1 (TX3 2).2.2.1 "EssayBones") 296 rfl rfl⟩⟩
set_option maxRecDepth 100000 in
theorem fl_X3_21 : Fl RX3 21 3 3 := ⟨RX3, TX3, tyX3, cl_X3, by decide, rfl, Or.inl (bg_of 395 rfl rfl)⟩
set_option maxRecDepth 100000 in
theorem fl_X3_24 : Fl RX3 24 3 4 := ⟨RX3, TX3, tyX3, cl_X3, by decide, rfl, Or.inl (bg_of 396 rfl rfl)⟩
set_option maxRecDepth 100000 in
theorem fl_X3_27 : Fl RX3 27 3 5 := ⟨RX3, TX3, tyX3, cl_X3, by decide, rfl, Or.inl (bg_of 397 rfl rfl)⟩
set_option maxRecDepth 100000 in
theorem fl_X10_307 : Fl RX10 307 3 5 := ⟨RX3, TX3, tyX3, cl_X3, by decide, rfl, Or.inr ⟨_, nw_of (w := .fieldLinkNest RX10 307 RX3 (TX3 5).2.1 (TX3 5).2.2.1 "EssayBones") 300 rfl rfl⟩⟩
set_option maxRecDepth 100000 in
theorem fl_X3_30 : Fl RX3 30 3 6 := ⟨RX3, TX3, tyX3, cl_X3, by decide, rfl, Or.inl (bg_of 399 rfl rfl)⟩
set_option maxRecDepth 100000 in
theorem fl_X10_295 : Fl RX10 295 3 6 := ⟨RX3, TX3, tyX3, cl_X3, by decide, rfl, Or.inr ⟨_, nw_of (w := .fieldLinkNest RX10 295 RX3 (TX3 6).2.1 (TX3 6).2.2.1 "EssayBones") 302 rfl rfl⟩⟩
set_option maxRecDepth 100000 in
theorem fl_X3_73 : Fl RX3 73 3 7 := ⟨RX3, TX3, tyX3, cl_X3, by decide, rfl, Or.inl (bg_of 401 rfl rfl)⟩
set_option maxRecDepth 100000 in
theorem fp_X3_73 : Fp RX3 73 3 7 .int := ⟨RX3, TX3, tyX3, cl_X3, by decide, rfl, Or.inl (bg_of 401 rfl rfl), rfl, (by decide +kernel)⟩
set_option maxRecDepth 100000 in
theorem fl_X10_292 : Fl RX10 292 3 7 := ⟨RX3, TX3, tyX3, cl_X3, by decide, rfl, Or.inr ⟨_, nw_of (w := .fieldLinkNest RX10 292 RX3 (TX3 7).2.1 (TX3 7).2.2.1 "EssayBones") 304 rfl rfl⟩⟩
set_option maxRecDepth 100000 in
theorem fp_X10_292 : Fp RX10 292 3 7 .int := ⟨RX3, TX3, tyX3, cl_X3, by decide, rfl, Or.inr ⟨_, nw_of (w := .fieldLinkNest RX10 292 RX3 (TX3 7).2.1 (TX3 7).2.2.1 "EssayBones") 304 rfl rfl⟩, rfl, (by decide +kernel)⟩
set_option maxRecDepth 100000 in
theorem fl_X3_33 : Fl RX3 33 3 8 := ⟨RX3, TX3, tyX3, cl_X3, by decide, rfl, Or.inl (bg_of 403 rfl rfl)⟩
set_option maxRecDepth 100000 in
theorem fp_X3_33 : Fp RX3 33 3 8 .int := ⟨RX3, TX3, tyX3, cl_X3, by decide, rfl, Or.inl (bg_of 403 rfl rfl), rfl, (by decide +kernel)⟩
set_option maxRecDepth 100000 in
theorem fl_X10_304 : Fl RX10 304 3 8 := ⟨RX3, TX3, tyX3, cl_X3, by decide, rfl, Or.inr ⟨_, nw_of (w := .fieldLinkNest RX10 304 RX3 (TX3 8).2.1 (TX3 8).2.2.1 "EssayBones") 306 rfl rfl⟩⟩
set_option maxRecDepth 100000 in
theorem fp_X10_304 : Fp RX10 304 3 8 .int := ⟨RX3, TX3, tyX3, cl_X3, by decide, rfl, Or.inr ⟨_, nw_of (w := .fieldLinkNest RX10 304 RX3 (TX3 8).2.1 (TX3 8).2.2.1 "EssayBones") 306 rfl rfl⟩, rfl, (by decide +kernel)⟩
set_option maxRecDepth 100000 in
theorem fl_X3_37 : Fl RX3 37 3 9 := ⟨RX3, TX3, tyX3, cl_X3, by decide, rfl, Or.inl (bg_of 405 rfl rfl)⟩
set_option maxRecDepth 100000 in
theorem fp_X3_37 : Fp RX3 37 3 9 .int := ⟨RX3, TX3, tyX3, cl_X3, by decide, rfl, Or.inl (bg_of 405 rfl rfl), rfl, (by decide +kernel)⟩
set_option maxRecDepth 100000 in
theorem fl_X10_12 : Fl RX10 12 10 0 := ⟨RX10, TX10, tyX10, cl_X10, by decide, rfl, Or.inl (bg_of 427 rfl rfl)⟩
set_option maxRecDepth 100000 in
theorem fl_X10_21 : Fl RX10 21 10 1 := ⟨RX10, TX10, tyX10, cl_X10, by decide, rfl, Or.inl (bg_of 428 rfl rfl)⟩
set_option maxRecDepth 100000 in
theorem fl_X10_25 : Fl RX10 25 10 2 := ⟨RX10, TX10, tyX10, cl_X10, by decide, rfl, Or.inl (bg_of 429 rfl rfl)⟩
set_option maxRecDepth 100000 in
theorem fl_X10_28 : Fl RX10 28 10 3 := ⟨RX10, TX10, tyX10, cl_X10, by decide, rfl, Or.inl (bg_of 430 rfl rfl)⟩
set_option maxRecDepth 100000 in
theorem fl_X10_31 : Fl RX10 31 10 4 := ⟨RX10, TX10, tyX10, cl_X10, by decide, rfl, Or.inl (bg_of 431 rfl rfl)⟩
set_option maxRecDepth 100000 in
theorem fl_X10_38 : Fl RX10 38 10 5 := ⟨RX10, TX10, tyX10, cl_X10, by decide, rfl, Or.inl (bg_of 432 rfl rfl)⟩
set_option maxRecDepth 100000 in
theorem fl_X10_45 : Fl RX10 45 10 6 := ⟨RX10, TX10, tyX10, cl_X10, by decide, rfl, Or.inl (bg_of 433 rfl rfl)⟩
set_option maxRecDepth 100000 in
theorem fp_X10_45 : Fp RX10 45 10 6 (.object "EssayBones$Text") := ⟨RX10, TX10, tyX10, cl_X10, by decide, rfl, Or.inl (bg_of 433 rfl rfl), rfl, (by decide +kernel)⟩
set_option maxRecDepth 100000 in
theorem fl_X10_49 : Fl RX10 49 10 7 := ⟨RX10, TX10, tyX10, cl_X10, by decide, rfl, Or.inl (bg_of 434 rfl rfl)⟩
set_option maxRecDepth 100000 in
theorem fp_X10_49 : Fp RX10 49 10 7 (.object "EssayBones$Text") := ⟨RX10, TX10, tyX10, cl_X10, by decide, rfl, Or.inl (bg_of 434 rfl rfl), rfl, (by decide +kernel)⟩
set_option maxRecDepth 100000 in
theorem fl_X10_55 : Fl RX10 55 10 8 := ⟨RX10, TX10, tyX10, cl_X10, by decide, rfl, Or.inl (bg_of 435 rfl rfl)⟩
set_option maxRecDepth 100000 in
theorem fl_X10_62 : Fl RX10 62 10 9 := ⟨RX10, TX10, tyX10, cl_X10, by decide, rfl, Or.inl (bg_of 436 rfl rfl)⟩
set_option maxRecDepth 100000 in
theorem fl_X10_69 : Fl RX10 69 10 10 := ⟨RX10, TX10, tyX10, cl_X10, by decide, rfl, Or.inl (bg_of 437 rfl rfl)⟩
set_option maxRecDepth 100000 in
theorem fl_X10_76 : Fl RX10 76 10 11 := ⟨RX10, TX10, tyX10, cl_X10, by decide, rfl, Or.inl (bg_of 438 rfl rfl)⟩
set_option maxRecDepth 100000 in
theorem fl_X10_83 : Fl RX10 83 10 12 := ⟨RX10, TX10, tyX10, cl_X10, by decide, rfl, Or.inl (bg_of 439 rfl rfl)⟩
set_option maxRecDepth 100000 in
theorem fl_X10_90 : Fl RX10 90 10 13 := ⟨RX10, TX10, tyX10, cl_X10, by decide, rfl, Or.inl (bg_of 440 rfl rfl)⟩
set_option maxRecDepth 100000 in
theorem fl_X10_131 : Fl RX10 131 10 14 := ⟨RX10, TX10, tyX10, cl_X10, by decide, rfl, Or.inl (bg_of 441 rfl rfl)⟩
set_option maxRecDepth 100000 in
theorem fp_X10_131 : Fp RX10 131 10 14 .boolean := ⟨RX10, TX10, tyX10, cl_X10, by decide, rfl, Or.inl (bg_of 441 rfl rfl), rfl, (by decide +kernel)⟩
set_option maxRecDepth 100000 in
theorem fl_X10_136 : Fl RX10 136 10 15 := ⟨RX10, TX10, tyX10, cl_X10, by decide, rfl, Or.inl (bg_of 442 rfl rfl)⟩
set_option maxRecDepth 100000 in
theorem fp_X10_136 : Fp RX10 136 10 15 .boolean := ⟨RX10, TX10, tyX10, cl_X10, by decide, rfl, Or.inl (bg_of 442 rfl rfl), rfl, (by decide +kernel)⟩
set_option maxRecDepth 100000 in
theorem lk_L_13 : Lk RL 13 yX10_feed := Or.inl (bg_of 476 rfl rfl)
set_option maxRecDepth 100000 in
theorem lk_X10_98 : Lk RX10 98 yX7_append := Or.inr ⟨_, nw_of (w := .methodLinkNest RX10 98 yX7_append "EssayBones") 382 rfl rfl⟩
set_option maxRecDepth 100000 in
theorem lk_L_18 : Lk RL 18 yX10_end := Or.inl (bg_of 484 rfl rfl)
set_option maxRecDepth 100000 in
theorem lk_L_23 : Lk RL 23 yX10_stop := Or.inl (bg_of 488 rfl rfl)
set_option maxRecDepth 100000 in
theorem lk_X10_102 : Lk RX10 102 yX10_toggle := Or.inl (bg_of 492 rfl rfl)
set_option maxRecDepth 100000 in
theorem lk_X10_106 : Lk RX10 106 yX7_takeWord := Or.inr ⟨_, nw_of (w := .methodLinkNest RX10 106 yX7_takeWord "EssayBones") 398 rfl rfl⟩
set_option maxRecDepth 100000 in
theorem lk_X7_19 : Lk RX7 19 yX10_smallLetter := Or.inr ⟨_, nw_of (w := .methodLinkNest RX7 19 yX10_smallLetter "EssayBones") 402 rfl rfl⟩
set_option maxRecDepth 100000 in
theorem lk_X7_23 : Lk RX7 23 yX10_isOfWords := Or.inr ⟨_, nw_of (w := .methodLinkNest RX7 23 yX10_isOfWords "EssayBones") 405 rfl rfl⟩
set_option maxRecDepth 100000 in
theorem lk_X10_113 : Lk RX10 113 yX9_find := Or.inr ⟨_, nw_of (w := .methodLinkNest RX10 113 yX9_find "EssayBones") 408 rfl rfl⟩
set_option maxRecDepth 100000 in
theorem lk_X9_31 : Lk RX9 31 yX9_isAt := Or.inl (bg_of 510 rfl rfl)
set_option maxRecDepth 100000 in
theorem lk_X10_117 : Lk RX10 117 yX9_drop := Or.inr ⟨_, nw_of (w := .methodLinkNest RX10 117 yX9_drop "EssayBones") 416 rfl rfl⟩
set_option maxRecDepth 100000 in
theorem lk_X10_123 : Lk RX10 123 yX9_isFull := Or.inr ⟨_, nw_of (w := .methodLinkNest RX10 123 yX9_isFull "EssayBones") 423 rfl rfl⟩
set_option maxRecDepth 100000 in
theorem lk_X10_127 : Lk RX10 127 yX9_add := Or.inr ⟨_, nw_of (w := .methodLinkNest RX10 127 yX9_add "EssayBones") 427 rfl rfl⟩
set_option maxRecDepth 100000 in
theorem lk_L_28 : Lk RL 28 yX10_sign := Or.inl (bg_of 529 rfl rfl)
set_option maxRecDepth 100000 in
theorem lk_L_32 : Lk RL 32 yX10_ending := Or.inl (bg_of 533 rfl rfl)
set_option maxRecDepth 100000 in
theorem lk_L_36 : Lk RL 36 yX10_weight := Or.inl (bg_of 537 rfl rfl)
set_option maxRecDepth 100000 in
theorem lk_L_41 : Lk RL 41 yX10_read := Or.inl (bg_of 541 rfl rfl)
set_option maxRecDepth 100000 in
theorem lk_X10_142 : Lk RX10 142 yX6_scan := Or.inr ⟨_, nw_of (w := .methodLinkNest RX10 142 yX6_scan "EssayBones") 447 rfl rfl⟩
set_option maxRecDepth 100000 in
theorem lk_X6_15 : Lk RX6 15 yX6_clear := Or.inl (bg_of 549 rfl rfl)
set_option maxRecDepth 100000 in
theorem lk_X6_31 : Lk RX6 31 yX10_smallLetter := Or.inr ⟨_, nw_of (w := .methodLinkNest RX6 31 yX10_smallLetter "EssayBones") 455 rfl rfl⟩
set_option maxRecDepth 100000 in
theorem lk_X6_40 : Lk RX6 40 yX10_isOfWords := Or.inr ⟨_, nw_of (w := .methodLinkNest RX6 40 yX10_isOfWords "EssayBones") 456 rfl rfl⟩
set_option maxRecDepth 100000 in
theorem lk_X6_44 : Lk RX6 44 yX6_takeLetter := Or.inl (bg_of 555 rfl rfl)
set_option maxRecDepth 100000 in
theorem lk_X6_78 : Lk RX6 78 yX6_startWord := Or.inl (bg_of 559 rfl rfl)
set_option maxRecDepth 100000 in
theorem lk_X6_84 : Lk RX6 84 yX6_startSentence := Or.inl (bg_of 563 rfl rfl)
set_option maxRecDepth 100000 in
theorem lk_X6_62 : Lk RX6 62 yX6_note := Or.inl (bg_of 567 rfl rfl)
set_option maxRecDepth 100000 in
theorem lk_X6_52 : Lk RX6 52 yX6_takeMark := Or.inl (bg_of 571 rfl rfl)
set_option maxRecDepth 100000 in
theorem lk_X6_98 : Lk RX6 98 yX6_takeLineEnd := Or.inl (bg_of 575 rfl rfl)
set_option maxRecDepth 100000 in
theorem lk_X6_101 : Lk RX6 101 yX6_takeSentenceEnd := Or.inl (bg_of 579 rfl rfl)
set_option maxRecDepth 100000 in
theorem lk_X10_152 : Lk RX10 152 yX5_reset := Or.inr ⟨_, nw_of (w := .methodLinkNest RX10 152 yX5_reset "EssayBones") 485 rfl rfl⟩
set_option maxRecDepth 100000 in
theorem lk_X5_18 : Lk RX5 18 yJ9_min_7cf53 := Or.inl (bg_of 587 rfl rfl)
set_option maxRecDepth 100000 in
theorem lk_L_45 : Lk RL 45 yX10_fault := Or.inl (bg_of 590 rfl rfl)
set_option maxRecDepth 100000 in
theorem lk_L_49 : Lk RL 49 yX10_sentence := Or.inl (bg_of 594 rfl rfl)
set_option maxRecDepth 100000 in
theorem lk_X10_159 : Lk RX10 159 yX10_isNoSentence := Or.inl (bg_of 598 rfl rfl)
set_option maxRecDepth 100000 in
theorem lk_X10_163 : Lk RX10 163 yX10_refresh := Or.inl (bg_of 602 rfl rfl)
set_option maxRecDepth 100000 in
theorem lk_X10_202 : Lk RX10 202 yX10_refreshKeys := Or.inl (bg_of 606 rfl rfl)
set_option maxRecDepth 100000 in
theorem lk_X10_212 : Lk RX10 212 yX2_gather := Or.inr ⟨_, nw_of (w := .methodLinkNest RX10 212 yX2_gather "EssayBones") 512 rfl rfl⟩
set_option maxRecDepth 100000 in
theorem lk_X2_41 : Lk RX2 41 yJ7_fill_d0a16 := Or.inl (bg_of 614 rfl rfl)
set_option maxRecDepth 100000 in
theorem lk_X2_47 : Lk RX2 47 yJ7_fill_53178 := Or.inl (bg_of 617 rfl rfl)
set_option maxRecDepth 100000 in
theorem lk_X2_67 : Lk RX2 67 yX9_find := Or.inr ⟨_, nw_of (w := .methodLinkNest RX2 67 yX9_find "EssayBones") 522 rfl rfl⟩
set_option maxRecDepth 100000 in
theorem lk_X2_79 : Lk RX2 79 yX2_takeWord := Or.inl (bg_of 621 rfl rfl)
set_option maxRecDepth 100000 in
theorem lk_X2_87 : Lk RX2 87 yX9_lengthWithout := Or.inr ⟨_, nw_of (w := .methodLinkNest RX2 87 yX9_lengthWithout "EssayBones") 527 rfl rfl⟩
set_option maxRecDepth 100000 in
theorem lk_X2_90 : Lk RX2 90 yX2_keyOf := Or.inl (bg_of 629 rfl rfl)
set_option maxRecDepth 100000 in
theorem lk_X2_93 : Lk RX2 93 yX2_isSame := Or.inl (bg_of 633 rfl rfl)
set_option maxRecDepth 100000 in
theorem lk_X2_97 : Lk RX2 97 yX2_addKey := Or.inl (bg_of 636 rfl rfl)
set_option maxRecDepth 100000 in
theorem lk_X2_83 : Lk RX2 83 yX2_compare := Or.inl (bg_of 640 rfl rfl)
set_option maxRecDepth 100000 in
theorem lk_X2_101 : Lk RX2 101 yX2_longsUsed := Or.inl (bg_of 644 rfl rfl)
set_option maxRecDepth 100000 in
theorem lk_X2_105 : Lk RX2 105 yJ13_bitCount_95d88 := Or.inl (bg_of 648 rfl rfl)
set_option maxRecDepth 100000 in
theorem kc_J13_314 : Cond.constantLong RJ13 314 (Int64.ofInt (6148914691236517205)) ∈ BG := bg_of 651 (by decide +kernel) (by decide +kernel)
set_option maxRecDepth 100000 in
theorem kc_J13_316 : Cond.constantLong RJ13 316 (Int64.ofInt (3689348814741910323)) ∈ BG := bg_of 652 (by decide +kernel) (by decide +kernel)
set_option maxRecDepth 100000 in
theorem kc_J13_318 : Cond.constantLong RJ13 318 (Int64.ofInt (1085102592571150095)) ∈ BG := bg_of 653 (by decide +kernel) (by decide +kernel)
set_option maxRecDepth 100000 in
theorem lk_X10_233 : Lk RX10 233 yX10_growTree := Or.inl (bg_of 654 rfl rfl)
set_option maxRecDepth 100000 in
theorem lk_X10_239 : Lk RX10 239 yX10_kindAt := Or.inl (bg_of 658 rfl rfl)
set_option maxRecDepth 100000 in
theorem lk_X10_242 : Lk RX10 242 yX10_isBound := Or.inl (bg_of 662 rfl rfl)
set_option maxRecDepth 100000 in
theorem lk_X10_216 : Lk RX10 216 yX10_hangCost := Or.inl (bg_of 665 rfl rfl)
set_option maxRecDepth 100000 in
theorem lk_X10_256 : Lk RX10 256 yJ9_abs_0f7a4 := Or.inl (bg_of 669 rfl rfl)
set_option maxRecDepth 100000 in
theorem lk_X10_205 : Lk RX10 205 yX10_sharedKeys := Or.inl (bg_of 672 rfl rfl)
set_option maxRecDepth 100000 in
theorem lk_X10_261 : Lk RX10 261 yJ9_min_7cf53 := Or.inl (bg_of 676 rfl rfl)
set_option maxRecDepth 100000 in
theorem lk_X10_264 : Lk RX10 264 yX10_isAgainstSign := Or.inl (bg_of 677 rfl rfl)
set_option maxRecDepth 100000 in
theorem lk_X10_247 : Lk RX10 247 yX1_grow := Or.inr ⟨_, nw_of (w := .methodLinkNest RX10 247 yX1_grow "EssayBones") 583 rfl rfl⟩
set_option maxRecDepth 100000 in
theorem lk_X1_31 : Lk RX1 31 yX1_side := Or.inl (bg_of 685 rfl rfl)
set_option maxRecDepth 100000 in
theorem lk_X1_35 : Lk RX1 35 yX1_setAlone := Or.inl (bg_of 688 rfl rfl)
set_option maxRecDepth 100000 in
theorem lk_X1_43 : Lk RX1 43 yX1_setEmpty := Or.inl (bg_of 692 rfl rfl)
set_option maxRecDepth 100000 in
theorem kc_X1_53 : Cond.constant RX1 53 (Int32.ofInt (268435456)) ∈ BG := bg_of 696 (by decide +kernel) (by decide +kernel)
set_option maxRecDepth 100000 in
theorem lk_X1_39 : Lk RX1 39 yX1_fillSpan := Or.inl (bg_of 697 rfl rfl)
set_option maxRecDepth 100000 in
theorem lk_X1_50 : Lk RX1 50 yX1_gap := Or.inl (bg_of 701 rfl rfl)
set_option maxRecDepth 100000 in
theorem lk_X1_46 : Lk RX1 46 yX1_offer := Or.inl (bg_of 704 rfl rfl)
set_option maxRecDepth 100000 in
theorem lk_X1_54 : Lk RX1 54 yX1_comesFirst := Or.inl (bg_of 708 rfl rfl)
set_option maxRecDepth 100000 in
theorem lk_X1_58 : Lk RX1 58 yJ9_min_7cf53 := Or.inl (bg_of 712 rfl rfl)
set_option maxRecDepth 100000 in
theorem lk_X10_250 : Lk RX10 250 yX1_headOf := Or.inr ⟨_, nw_of (w := .methodLinkNest RX10 250 yX1_headOf "EssayBones") 615 rfl rfl⟩
set_option maxRecDepth 100000 in
theorem kc_X1_63 : Cond.constantLong RX1 63 (Int64.ofInt (31)) ∈ BG := bg_of 717 (by decide +kernel) (by decide +kernel)
