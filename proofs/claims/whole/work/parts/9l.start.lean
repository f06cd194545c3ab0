/-! THE REFERENCE is built; the memory that the law begins with -/
theorem fq_X11_7 : Fq RX11 7 11 0 (.array .byte) := ⟨TX11, tyX11, cl_X11, by decide, rfl, bg_of 920 rfl rfl, by decide +kernel⟩
theorem fq_X11_13 : Fq RX11 13 11 2 (.array .byte) := ⟨TX11, tyX11, cl_X11, by decide, rfl, bg_of 922 rfl rfl, by decide +kernel⟩
theorem fq_X11_16 : Fq RX11 16 11 4 (.array .byte) := ⟨TX11, tyX11, cl_X11, by decide, rfl, bg_of 924 rfl rfl, by decide +kernel⟩
theorem fq_X11_19 : Fq RX11 19 11 5 (.array .int) := ⟨TX11, tyX11, cl_X11, by decide, rfl, bg_of 925 rfl rfl, by decide +kernel⟩
theorem fq_X11_23 : Fq RX11 23 11 7 (.array .byte) := ⟨TX11, tyX11, cl_X11, by decide, rfl, bg_of 927 rfl rfl, by decide +kernel⟩
theorem fq_X11_26 : Fq RX11 26 11 8 (.array .int) := ⟨TX11, tyX11, cl_X11, by decide, rfl, bg_of 928 rfl rfl, by decide +kernel⟩
theorem fq_X11_29 : Fq RX11 29 11 9 (.array .int) := ⟨TX11, tyX11, cl_X11, by decide, rfl, bg_of 929 rfl rfl, by decide +kernel⟩
theorem fq_X11_32 : Fq RX11 32 11 11 (.array .byte) := ⟨TX11, tyX11, cl_X11, by decide, rfl, bg_of 931 rfl rfl, by decide +kernel⟩
theorem fq_X11_35 : Fq RX11 35 11 12 (.array .int) := ⟨TX11, tyX11, cl_X11, by decide, rfl, bg_of 932 rfl rfl, by decide +kernel⟩
theorem fq_X11_38 : Fq RX11 38 11 14 (.array .int) := ⟨TX11, tyX11, cl_X11, by decide, rfl, bg_of 934 rfl rfl, by decide +kernel⟩
theorem fq_X11_41 : Fq RX11 41 11 15 (.array .byte) := ⟨TX11, tyX11, cl_X11, by decide, rfl, bg_of 935 rfl rfl, by decide +kernel⟩
theorem fq_X11_44 : Fq RX11 44 11 16 (.array .int) := ⟨TX11, tyX11, cl_X11, by decide, rfl, bg_of 936 rfl rfl, by decide +kernel⟩
theorem fq_X11_47 : Fq RX11 47 11 17 (.array .int) := ⟨TX11, tyX11, cl_X11, by decide, rfl, bg_of 937 rfl rfl, by decide +kernel⟩
theorem fq_X11_50 : Fq RX11 50 11 18 (.array .byte) := ⟨TX11, tyX11, cl_X11, by decide, rfl, bg_of 938 rfl rfl, by decide +kernel⟩
theorem fq_X11_53 : Fq RX11 53 11 19 (.array .int) := ⟨TX11, tyX11, cl_X11, by decide, rfl, bg_of 939 rfl rfl, by decide +kernel⟩
theorem fq_X11_56 : Fq RX11 56 11 20 (.array .int) := ⟨TX11, tyX11, cl_X11, by decide, rfl, bg_of 940 rfl rfl, by decide +kernel⟩
theorem fq_X11_59 : Fq RX11 59 11 21 (.array .int) := ⟨TX11, tyX11, cl_X11, by decide, rfl, bg_of 941 rfl rfl, by decide +kernel⟩
theorem fq_X11_62 : Fq RX11 62 11 22 (.array .int) := ⟨TX11, tyX11, cl_X11, by decide, rfl, bg_of 942 rfl rfl, by decide +kernel⟩
theorem fq_X11_65 : Fq RX11 65 11 23 (.array .int) := ⟨TX11, tyX11, cl_X11, by decide, rfl, bg_of 943 rfl rfl, by decide +kernel⟩
theorem fq_X11_68 : Fq RX11 68 11 27 .int := ⟨TX11, tyX11, cl_X11, by decide, rfl, bg_of 947 rfl rfl, by decide +kernel⟩
theorem fq_X11_72 : Fq RX11 72 11 28 (.array .int) := ⟨TX11, tyX11, cl_X11, by decide, rfl, bg_of 948 rfl rfl, by decide +kernel⟩
theorem fq_X11_75 : Fq RX11 75 11 29 (.array .int) := ⟨TX11, tyX11, cl_X11, by decide, rfl, bg_of 949 rfl rfl, by decide +kernel⟩
theorem fq_X11_78 : Fq RX11 78 11 30 (.array .int) := ⟨TX11, tyX11, cl_X11, by decide, rfl, bg_of 950 rfl rfl, by decide +kernel⟩
theorem fq_X11_81 : Fq RX11 81 11 31 (.array .int) := ⟨TX11, tyX11, cl_X11, by decide, rfl, bg_of 951 rfl rfl, by decide +kernel⟩
theorem fq_X11_84 : Fq RX11 84 11 33 (.array .int) := ⟨TX11, tyX11, cl_X11, by decide, rfl, bg_of 953 rfl rfl, by decide +kernel⟩
theorem fq_X11_87 : Fq RX11 87 11 34 (.array .int) := ⟨TX11, tyX11, cl_X11, by decide, rfl, bg_of 954 rfl rfl, by decide +kernel⟩
theorem fq_X11_90 : Fq RX11 90 11 35 (.array .boolean) := ⟨TX11, tyX11, cl_X11, by decide, rfl, bg_of 955 rfl rfl, by decide +kernel⟩
theorem fq_X11_94 : Fq RX11 94 11 36 (.array .int) := ⟨TX11, tyX11, cl_X11, by decide, rfl, bg_of 956 rfl rfl, by decide +kernel⟩
theorem fq_X11_97 : Fq RX11 97 11 37 (.array .int) := ⟨TX11, tyX11, cl_X11, by decide, rfl, bg_of 957 rfl rfl, by decide +kernel⟩
theorem fq_X11_100 : Fq RX11 100 11 38 (.array .int) := ⟨TX11, tyX11, cl_X11, by decide, rfl, bg_of 958 rfl rfl, by decide +kernel⟩
theorem fq_X11_103 : Fq RX11 103 11 42 (.array .int) := ⟨TX11, tyX11, cl_X11, by decide, rfl, bg_of 962 rfl rfl, by decide +kernel⟩
theorem fq_X11_106 : Fq RX11 106 11 43 (.array .int) := ⟨TX11, tyX11, cl_X11, by decide, rfl, bg_of 963 rfl rfl, by decide +kernel⟩
theorem fq_X11_109 : Fq RX11 109 11 44 (.array .int) := ⟨TX11, tyX11, cl_X11, by decide, rfl, bg_of 964 rfl rfl, by decide +kernel⟩
theorem fq_X11_112 : Fq RX11 112 11 45 (.array .int) := ⟨TX11, tyX11, cl_X11, by decide, rfl, bg_of 965 rfl rfl, by decide +kernel⟩
theorem fq_X11_115 : Fq RX11 115 11 46 (.array .int) := ⟨TX11, tyX11, cl_X11, by decide, rfl, bg_of 966 rfl rfl, by decide +kernel⟩
theorem fq_X11_118 : Fq RX11 118 11 48 (.array .int) := ⟨TX11, tyX11, cl_X11, by decide, rfl, bg_of 968 rfl rfl, by decide +kernel⟩
theorem fq_X11_121 : Fq RX11 121 11 49 (.array .int) := ⟨TX11, tyX11, cl_X11, by decide, rfl, bg_of 969 rfl rfl, by decide +kernel⟩
theorem fq_X11_124 : Fq RX11 124 11 50 (.array .int) := ⟨TX11, tyX11, cl_X11, by decide, rfl, bg_of 970 rfl rfl, by decide +kernel⟩
theorem fq_X11_127 : Fq RX11 127 11 51 (.array .int) := ⟨TX11, tyX11, cl_X11, by decide, rfl, bg_of 971 rfl rfl, by decide +kernel⟩
theorem fq_X11_130 : Fq RX11 130 11 53 (.array .int) := ⟨TX11, tyX11, cl_X11, by decide, rfl, bg_of 973 rfl rfl, by decide +kernel⟩
theorem fq_X11_133 : Fq RX11 133 11 54 (.array .int) := ⟨TX11, tyX11, cl_X11, by decide, rfl, bg_of 974 rfl rfl, by decide +kernel⟩
def L11 (E : Ev) (o : Nat) : List va_E := [.inr (11, [.ref (aD E (o + 1)), zi 0, .ref (aD E (o + 2)), zi 0, .ref (aD E (o + 3)), .ref (aD E (o + 4)), zi 0, .ref (aD E (o + 5)), .ref (aD E (o + 6)), .ref (aD E (o + 7)), zi 0, .ref (aD E (o + 8)), .ref (aD E (o + 9)), zi 0, .ref (aD E (o + 10)), .ref (aD E (o + 11)), .ref (aD E (o + 12)), .ref (aD E (o + 13)), .ref (aD E (o + 14)), .ref (aD E (o + 15)), .ref (aD E (o + 16)), .ref (aD E (o + 17)), .ref (aD E (o + 18)), .ref (aD E (o + 19)), zi 0, zi 0, zi 0, zi (-1), .ref (aD E (o + 20)), .ref (aD E (o + 21)), .ref (aD E (o + 22)), .ref (aD E (o + 23)), zi 0, .ref (aD E (o + 24)), .ref (aD E (o + 25)), .ref (aD E (o + 26)), .ref (aD E (o + 27)), .ref (aD E (o + 28)), .ref (aD E (o + 29)), zi 0, zi 0, zi 0, .ref (aD E (o + 30)), .ref (aD E (o + 31)), .ref (aD E (o + 32)), .ref (aD E (o + 33)), .ref (aD E (o + 34)), zi 0, .ref (aD E (o + 35)), .ref (aD E (o + 36)), .ref (aD E (o + 37)), .ref (aD E (o + 38)), zi 0, .ref (aD E (o + 39)), .ref (aD E (o + 40))]), .inl (cY E 22, 3000, .inl (fun _ => 0)), .inl (cY E 22, 16, .inl (fun _ => 0)), .inl (cY E 22, 960, .inl (fun _ => 0)), .inl (cY E 20, 60, .inl (fun _ => 0)), .inl (cY E 22, 480, .inl (fun _ => 0)), .inl (cY E 20, 30, .inl (fun _ => 0)), .inl (cY E 20, 30, .inl (fun _ => 0)), .inl (cY E 22, 160, .inl (fun _ => 0)), .inl (cY E 20, 10, .inl (fun _ => 0)), .inl (cY E 20, 4, .inl wtF), .inl (cY E 22, 15360, .inl (fun _ => 0)), .inl (cY E 20, 960, .inl (fun _ => 0)), .inl (cY E 20, 24, .inl (fun _ => 0)), .inl (cY E 22, 15360, .inl (fun _ => 0)), .inl (cY E 20, 960, .inl (fun _ => 0)), .inl (cY E 20, 24, .inl (fun _ => 0)), .inl (cY E 20, 24, .inl (fun _ => 0)), .inl (cY E 20, 24, .inl (fun _ => 0)), .inl (cY E 20, 24, .inl (fun _ => 0)), .inl (cY E 20, 960, .inl (fun _ => 0)), .inl (cY E 20, 960, .inl (fun _ => 0)), .inl (cY E 20, 24, .inl (fun _ => 0)), .inl (cY E 20, 24, .inl (fun _ => 0)), .inl (cY E 20, 576, .inl (fun _ => 0)), .inl (cY E 20, 24, .inl (fun _ => 0)), .inl (cY E 23, 600, .inl (fun _ => 0)), .inl (cY E 20, 576, .inl (fun _ => 0)), .inl (cY E 20, 576, .inl (fun _ => 0)), .inl (cY E 20, 24, .inl (fun _ => 0)), .inl (cY E 20, 20, .inl (fun _ => 0)), .inl (cY E 20, 20, .inl (fun _ => 0)), .inl (cY E 20, 10, .inl (fun _ => 0)), .inl (cY E 20, 10, .inl (fun _ => 0)), .inl (cY E 20, 10, .inl (fun _ => 0)), .inl (cY E 20, 10, .inl (fun _ => 0)), .inl (cY E 20, 1024, .inl (fun _ => 0)), .inl (cY E 20, 1024, .inl (fun _ => 0)), .inl (cY E 20, 10, .inl (fun _ => 0)), .inl (cY E 20, 10, .inl (fun _ => 0)), .inl (cY E 20, 24, .inl (fun _ => 0))]
set_option maxRecDepth 100000 in
set_option maxHeartbeats 8000000 in
theorem cb_X11 {E : Ev} {base : Nat} (hB : Bb E base) (P : List va_E) (o : Nat) (ho : P.length = o) : CtB E base yX11_init cX11_init 1 1 40 44026 [.ref (aD E o)] (P ++ [.inr (11, [.null, zi 0, .null, zi 0, .null, .null, zi 0, .null, .null, .null, zi 0, .null, .null, zi 0, .null, .null, .null, .null, .null, .null, .null, .null, .null, .null, zi 0, zi 0, zi 0, zi 0, .null, .null, .null, .null, zi 0, .null, .null, .null, .null, .null, .null, zi 0, zi 0, zi 0, .null, .null, .null, .null, .null, zi 0, .null, .null, .null, .null, zi 0, .null, .null])]) (P ++ L11 E o) := by
  refine CtB.of (own := RX11) (lv0 := [some (.ref (aD E o))]) hB (by decide) rfl rfl (Nat.le_of_ble_eq_true rfl) rfl (fun κ C hin hr hlk => ?_)
  refine b_aload (v := aD E o) C dX11_init_0 rfl ?_
  refine b_objInit C dX11_init_1 (bg_of 919 rfl rfl) oi_2 oi_3 (by decide) (by decide) ?_
  refine b_aload (v := aD E o) C dX11_init_4 rfl ?_
  refine b_sipush C dX11_init_5 (by decide) ?_
  refine b_arr (P := P) (t0 := 2) (N := 3000) (ty := .byte) (a0 := (3000, .inl (fun _ => 0))) (w := aD E (o + 1)) C hin ho dX11_init_8 dX11_init_10 rfl ar_b rfl (fun _ h => h) rfl (by decide) (by decide) (by decide) (by decide) (by decide) fq_X11_7 rfl rfl (Nat.le_of_ble_eq_true rfl) rfl rfl ?_
  refine b_aload (v := aD E o) C dX11_init_13 rfl ?_
  refine b_bipush C dX11_init_14 (by decide) ?_
  refine b_arr (P := P) (t0 := 2) (N := 16) (ty := .byte) (a0 := (16, .inl (fun _ => 0))) (w := aD E (o + 2)) C hin ho dX11_init_16 dX11_init_18 rfl ar_b rfl (fun _ h => h) rfl (by decide) (by decide) (by decide) (by decide) (by decide) fq_X11_13 rfl rfl (Nat.le_of_ble_eq_true rfl) rfl rfl ?_
  refine b_aload (v := aD E o) C dX11_init_21 rfl ?_
  refine b_sipush C dX11_init_22 (by decide) ?_
  refine b_arr (P := P) (t0 := 2) (N := 960) (ty := .byte) (a0 := (960, .inl (fun _ => 0))) (w := aD E (o + 3)) C hin ho dX11_init_25 dX11_init_27 rfl ar_b rfl (fun _ h => h) rfl (by decide) (by decide) (by decide) (by decide) (by decide) fq_X11_16 rfl rfl (Nat.le_of_ble_eq_true rfl) rfl rfl ?_
  refine b_aload (v := aD E o) C dX11_init_30 rfl ?_
  refine b_bipush C dX11_init_31 (by decide) ?_
  refine b_arr (P := P) (t0 := 0) (N := 60) (ty := .int) (a0 := (60, .inl (fun _ => 0))) (w := aD E (o + 4)) C hin ho dX11_init_33 dX11_init_35 rfl ar_i rfl (fun _ h => h) rfl (by decide) (by decide) (by decide) (by decide) (by decide) fq_X11_19 rfl rfl (Nat.le_of_ble_eq_true rfl) rfl rfl ?_
  refine b_aload (v := aD E o) C dX11_init_38 rfl ?_
  refine b_sipush C dX11_init_39 (by decide) ?_
  refine b_arr (P := P) (t0 := 2) (N := 480) (ty := .byte) (a0 := (480, .inl (fun _ => 0))) (w := aD E (o + 5)) C hin ho dX11_init_42 dX11_init_44 rfl ar_b rfl (fun _ h => h) rfl (by decide) (by decide) (by decide) (by decide) (by decide) fq_X11_23 rfl rfl (Nat.le_of_ble_eq_true rfl) rfl rfl ?_
  refine b_aload (v := aD E o) C dX11_init_47 rfl ?_
  refine b_bipush C dX11_init_48 (by decide) ?_
  refine b_arr (P := P) (t0 := 0) (N := 30) (ty := .int) (a0 := (30, .inl (fun _ => 0))) (w := aD E (o + 6)) C hin ho dX11_init_50 dX11_init_52 rfl ar_i rfl (fun _ h => h) rfl (by decide) (by decide) (by decide) (by decide) (by decide) fq_X11_26 rfl rfl (Nat.le_of_ble_eq_true rfl) rfl rfl ?_
  refine b_aload (v := aD E o) C dX11_init_55 rfl ?_
  refine b_bipush C dX11_init_56 (by decide) ?_
  refine b_arr (P := P) (t0 := 0) (N := 30) (ty := .int) (a0 := (30, .inl (fun _ => 0))) (w := aD E (o + 7)) C hin ho dX11_init_58 dX11_init_60 rfl ar_i rfl (fun _ h => h) rfl (by decide) (by decide) (by decide) (by decide) (by decide) fq_X11_29 rfl rfl (Nat.le_of_ble_eq_true rfl) rfl rfl ?_
  refine b_aload (v := aD E o) C dX11_init_63 rfl ?_
  refine b_sipush C dX11_init_64 (by decide) ?_
  refine b_arr (P := P) (t0 := 2) (N := 160) (ty := .byte) (a0 := (160, .inl (fun _ => 0))) (w := aD E (o + 8)) C hin ho dX11_init_67 dX11_init_69 rfl ar_b rfl (fun _ h => h) rfl (by decide) (by decide) (by decide) (by decide) (by decide) fq_X11_32 rfl rfl (Nat.le_of_ble_eq_true rfl) rfl rfl ?_
  refine b_aload (v := aD E o) C dX11_init_72 rfl ?_
  refine b_bipush C dX11_init_73 (by decide) ?_
  refine b_arr (P := P) (t0 := 0) (N := 10) (ty := .int) (a0 := (10, .inl (fun _ => 0))) (w := aD E (o + 9)) C hin ho dX11_init_75 dX11_init_77 rfl ar_i rfl (fun _ h => h) rfl (by decide) (by decide) (by decide) (by decide) (by decide) fq_X11_35 rfl rfl (Nat.le_of_ble_eq_true rfl) rfl rfl ?_
  refine b_aload (v := aD E o) C dX11_init_80 rfl ?_
  refine b_iconst C dX11_init_81 ?_
  refine b_arr (P := P) (t0 := 0) (N := 4) (ty := .int) (a0 := (4, .inl (fun _ => 0))) (w := aD E (o + 10)) C hin ho dX11_init_82 dX11_init_84 rfl ar_i rfl (fun _ h => h) rfl (by decide) (by decide) (by decide) (by decide) (by decide) fq_X11_38 rfl rfl (Nat.le_of_ble_eq_true rfl) rfl rfl ?_
  refine b_aload (v := aD E o) C dX11_init_87 rfl ?_
  refine b_sipush C dX11_init_88 (by decide) ?_
  refine b_arr (P := P) (t0 := 2) (N := 15360) (ty := .byte) (a0 := (15360, .inl (fun _ => 0))) (w := aD E (o + 11)) C hin ho dX11_init_91 dX11_init_93 rfl ar_b rfl (fun _ h => h) rfl (by decide) (by decide) (by decide) (by decide) (by decide) fq_X11_41 rfl rfl (Nat.le_of_ble_eq_true rfl) rfl rfl ?_
  refine b_aload (v := aD E o) C dX11_init_96 rfl ?_
  refine b_sipush C dX11_init_97 (by decide) ?_
  refine b_arr (P := P) (t0 := 0) (N := 960) (ty := .int) (a0 := (960, .inl (fun _ => 0))) (w := aD E (o + 12)) C hin ho dX11_init_100 dX11_init_102 rfl ar_i rfl (fun _ h => h) rfl (by decide) (by decide) (by decide) (by decide) (by decide) fq_X11_44 rfl rfl (Nat.le_of_ble_eq_true rfl) rfl rfl ?_
  refine b_aload (v := aD E o) C dX11_init_105 rfl ?_
  refine b_bipush C dX11_init_106 (by decide) ?_
  refine b_arr (P := P) (t0 := 0) (N := 24) (ty := .int) (a0 := (24, .inl (fun _ => 0))) (w := aD E (o + 13)) C hin ho dX11_init_108 dX11_init_110 rfl ar_i rfl (fun _ h => h) rfl (by decide) (by decide) (by decide) (by decide) (by decide) fq_X11_47 rfl rfl (Nat.le_of_ble_eq_true rfl) rfl rfl ?_
  refine b_aload (v := aD E o) C dX11_init_113 rfl ?_
  refine b_sipush C dX11_init_114 (by decide) ?_
  refine b_arr (P := P) (t0 := 2) (N := 15360) (ty := .byte) (a0 := (15360, .inl (fun _ => 0))) (w := aD E (o + 14)) C hin ho dX11_init_117 dX11_init_119 rfl ar_b rfl (fun _ h => h) rfl (by decide) (by decide) (by decide) (by decide) (by decide) fq_X11_50 rfl rfl (Nat.le_of_ble_eq_true rfl) rfl rfl ?_
  refine b_aload (v := aD E o) C dX11_init_122 rfl ?_
  refine b_sipush C dX11_init_123 (by decide) ?_
  refine b_arr (P := P) (t0 := 0) (N := 960) (ty := .int) (a0 := (960, .inl (fun _ => 0))) (w := aD E (o + 15)) C hin ho dX11_init_126 dX11_init_128 rfl ar_i rfl (fun _ h => h) rfl (by decide) (by decide) (by decide) (by decide) (by decide) fq_X11_53 rfl rfl (Nat.le_of_ble_eq_true rfl) rfl rfl ?_
  refine b_aload (v := aD E o) C dX11_init_131 rfl ?_
  refine b_bipush C dX11_init_132 (by decide) ?_
  refine b_arr (P := P) (t0 := 0) (N := 24) (ty := .int) (a0 := (24, .inl (fun _ => 0))) (w := aD E (o + 16)) C hin ho dX11_init_134 dX11_init_136 rfl ar_i rfl (fun _ h => h) rfl (by decide) (by decide) (by decide) (by decide) (by decide) fq_X11_56 rfl rfl (Nat.le_of_ble_eq_true rfl) rfl rfl ?_
  refine b_aload (v := aD E o) C dX11_init_139 rfl ?_
  refine b_bipush C dX11_init_140 (by decide) ?_
  refine b_arr (P := P) (t0 := 0) (N := 24) (ty := .int) (a0 := (24, .inl (fun _ => 0))) (w := aD E (o + 17)) C hin ho dX11_init_142 dX11_init_144 rfl ar_i rfl (fun _ h => h) rfl (by decide) (by decide) (by decide) (by decide) (by decide) fq_X11_59 rfl rfl (Nat.le_of_ble_eq_true rfl) rfl rfl ?_
  refine b_aload (v := aD E o) C dX11_init_147 rfl ?_
  refine b_bipush C dX11_init_148 (by decide) ?_
  refine b_arr (P := P) (t0 := 0) (N := 24) (ty := .int) (a0 := (24, .inl (fun _ => 0))) (w := aD E (o + 18)) C hin ho dX11_init_150 dX11_init_152 rfl ar_i rfl (fun _ h => h) rfl (by decide) (by decide) (by decide) (by decide) (by decide) fq_X11_62 rfl rfl (Nat.le_of_ble_eq_true rfl) rfl rfl ?_
  refine b_aload (v := aD E o) C dX11_init_155 rfl ?_
  refine b_bipush C dX11_init_156 (by decide) ?_
  refine b_arr (P := P) (t0 := 0) (N := 24) (ty := .int) (a0 := (24, .inl (fun _ => 0))) (w := aD E (o + 19)) C hin ho dX11_init_158 dX11_init_160 rfl ar_i rfl (fun _ h => h) rfl (by decide) (by decide) (by decide) (by decide) (by decide) fq_X11_65 rfl rfl (Nat.le_of_ble_eq_true rfl) rfl rfl ?_
  refine b_aload (v := aD E o) C dX11_init_163 rfl ?_
  refine b_iconst C dX11_init_164 ?_
  refine b_num (P := P) C hin ho dX11_init_165 fq_X11_68 rfl (Nat.le_of_ble_eq_true rfl) rfl rfl ?_
  refine b_aload (v := aD E o) C dX11_init_168 rfl ?_
  refine b_sipush C dX11_init_169 (by decide) ?_
  refine b_arr (P := P) (t0 := 0) (N := 960) (ty := .int) (a0 := (960, .inl (fun _ => 0))) (w := aD E (o + 20)) C hin ho dX11_init_172 dX11_init_174 rfl ar_i rfl (fun _ h => h) rfl (by decide) (by decide) (by decide) (by decide) (by decide) fq_X11_72 rfl rfl (Nat.le_of_ble_eq_true rfl) rfl rfl ?_
  refine b_aload (v := aD E o) C dX11_init_177 rfl ?_
  refine b_sipush C dX11_init_178 (by decide) ?_
  refine b_arr (P := P) (t0 := 0) (N := 960) (ty := .int) (a0 := (960, .inl (fun _ => 0))) (w := aD E (o + 21)) C hin ho dX11_init_181 dX11_init_183 rfl ar_i rfl (fun _ h => h) rfl (by decide) (by decide) (by decide) (by decide) (by decide) fq_X11_75 rfl rfl (Nat.le_of_ble_eq_true rfl) rfl rfl ?_
  refine b_aload (v := aD E o) C dX11_init_186 rfl ?_
  refine b_bipush C dX11_init_187 (by decide) ?_
  refine b_arr (P := P) (t0 := 0) (N := 24) (ty := .int) (a0 := (24, .inl (fun _ => 0))) (w := aD E (o + 22)) C hin ho dX11_init_189 dX11_init_191 rfl ar_i rfl (fun _ h => h) rfl (by decide) (by decide) (by decide) (by decide) (by decide) fq_X11_78 rfl rfl (Nat.le_of_ble_eq_true rfl) rfl rfl ?_
  refine b_aload (v := aD E o) C dX11_init_194 rfl ?_
  refine b_bipush C dX11_init_195 (by decide) ?_
  refine b_arr (P := P) (t0 := 0) (N := 24) (ty := .int) (a0 := (24, .inl (fun _ => 0))) (w := aD E (o + 23)) C hin ho dX11_init_197 dX11_init_199 rfl ar_i rfl (fun _ h => h) rfl (by decide) (by decide) (by decide) (by decide) (by decide) fq_X11_81 rfl rfl (Nat.le_of_ble_eq_true rfl) rfl rfl ?_
  refine b_aload (v := aD E o) C dX11_init_202 rfl ?_
  refine b_sipush C dX11_init_203 (by decide) ?_
  refine b_arr (P := P) (t0 := 0) (N := 576) (ty := .int) (a0 := (576, .inl (fun _ => 0))) (w := aD E (o + 24)) C hin ho dX11_init_206 dX11_init_208 rfl ar_i rfl (fun _ h => h) rfl (by decide) (by decide) (by decide) (by decide) (by decide) fq_X11_84 rfl rfl (Nat.le_of_ble_eq_true rfl) rfl rfl ?_
  refine b_aload (v := aD E o) C dX11_init_211 rfl ?_
  refine b_bipush C dX11_init_212 (by decide) ?_
  refine b_arr (P := P) (t0 := 0) (N := 24) (ty := .int) (a0 := (24, .inl (fun _ => 0))) (w := aD E (o + 25)) C hin ho dX11_init_214 dX11_init_216 rfl ar_i rfl (fun _ h => h) rfl (by decide) (by decide) (by decide) (by decide) (by decide) fq_X11_87 rfl rfl (Nat.le_of_ble_eq_true rfl) rfl rfl ?_
  refine b_aload (v := aD E o) C dX11_init_219 rfl ?_
  refine b_sipush C dX11_init_220 (by decide) ?_
  refine b_arr (P := P) (t0 := 3) (N := 600) (ty := .boolean) (a0 := (600, .inl (fun _ => 0))) (w := aD E (o + 26)) C hin ho dX11_init_223 dX11_init_225 rfl ar_z rfl (fun _ h => h) rfl (by decide) (by decide) (by decide) (by decide) (by decide) fq_X11_90 rfl rfl (Nat.le_of_ble_eq_true rfl) rfl rfl ?_
  refine b_aload (v := aD E o) C dX11_init_228 rfl ?_
  refine b_sipush C dX11_init_229 (by decide) ?_
  refine b_arr (P := P) (t0 := 0) (N := 576) (ty := .int) (a0 := (576, .inl (fun _ => 0))) (w := aD E (o + 27)) C hin ho dX11_init_232 dX11_init_234 rfl ar_i rfl (fun _ h => h) rfl (by decide) (by decide) (by decide) (by decide) (by decide) fq_X11_94 rfl rfl (Nat.le_of_ble_eq_true rfl) rfl rfl ?_
  refine b_aload (v := aD E o) C dX11_init_237 rfl ?_
  refine b_sipush C dX11_init_238 (by decide) ?_
  refine b_arr (P := P) (t0 := 0) (N := 576) (ty := .int) (a0 := (576, .inl (fun _ => 0))) (w := aD E (o + 28)) C hin ho dX11_init_241 dX11_init_243 rfl ar_i rfl (fun _ h => h) rfl (by decide) (by decide) (by decide) (by decide) (by decide) fq_X11_97 rfl rfl (Nat.le_of_ble_eq_true rfl) rfl rfl ?_
  refine b_aload (v := aD E o) C dX11_init_246 rfl ?_
  refine b_bipush C dX11_init_247 (by decide) ?_
  refine b_arr (P := P) (t0 := 0) (N := 24) (ty := .int) (a0 := (24, .inl (fun _ => 0))) (w := aD E (o + 29)) C hin ho dX11_init_249 dX11_init_251 rfl ar_i rfl (fun _ h => h) rfl (by decide) (by decide) (by decide) (by decide) (by decide) fq_X11_100 rfl rfl (Nat.le_of_ble_eq_true rfl) rfl rfl ?_
  refine b_aload (v := aD E o) C dX11_init_254 rfl ?_
  refine b_bipush C dX11_init_255 (by decide) ?_
  refine b_arr (P := P) (t0 := 0) (N := 20) (ty := .int) (a0 := (20, .inl (fun _ => 0))) (w := aD E (o + 30)) C hin ho dX11_init_257 dX11_init_259 rfl ar_i rfl (fun _ h => h) rfl (by decide) (by decide) (by decide) (by decide) (by decide) fq_X11_103 rfl rfl (Nat.le_of_ble_eq_true rfl) rfl rfl ?_
  refine b_aload (v := aD E o) C dX11_init_262 rfl ?_
  refine b_bipush C dX11_init_263 (by decide) ?_
  refine b_arr (P := P) (t0 := 0) (N := 20) (ty := .int) (a0 := (20, .inl (fun _ => 0))) (w := aD E (o + 31)) C hin ho dX11_init_265 dX11_init_267 rfl ar_i rfl (fun _ h => h) rfl (by decide) (by decide) (by decide) (by decide) (by decide) fq_X11_106 rfl rfl (Nat.le_of_ble_eq_true rfl) rfl rfl ?_
  refine b_aload (v := aD E o) C dX11_init_270 rfl ?_
  refine b_bipush C dX11_init_271 (by decide) ?_
  refine b_arr (P := P) (t0 := 0) (N := 10) (ty := .int) (a0 := (10, .inl (fun _ => 0))) (w := aD E (o + 32)) C hin ho dX11_init_273 dX11_init_275 rfl ar_i rfl (fun _ h => h) rfl (by decide) (by decide) (by decide) (by decide) (by decide) fq_X11_109 rfl rfl (Nat.le_of_ble_eq_true rfl) rfl rfl ?_
  refine b_aload (v := aD E o) C dX11_init_278 rfl ?_
  refine b_bipush C dX11_init_279 (by decide) ?_
  refine b_arr (P := P) (t0 := 0) (N := 10) (ty := .int) (a0 := (10, .inl (fun _ => 0))) (w := aD E (o + 33)) C hin ho dX11_init_281 dX11_init_283 rfl ar_i rfl (fun _ h => h) rfl (by decide) (by decide) (by decide) (by decide) (by decide) fq_X11_112 rfl rfl (Nat.le_of_ble_eq_true rfl) rfl rfl ?_
  refine b_aload (v := aD E o) C dX11_init_286 rfl ?_
  refine b_bipush C dX11_init_287 (by decide) ?_
  refine b_arr (P := P) (t0 := 0) (N := 10) (ty := .int) (a0 := (10, .inl (fun _ => 0))) (w := aD E (o + 34)) C hin ho dX11_init_289 dX11_init_291 rfl ar_i rfl (fun _ h => h) rfl (by decide) (by decide) (by decide) (by decide) (by decide) fq_X11_115 rfl rfl (Nat.le_of_ble_eq_true rfl) rfl rfl ?_
  refine b_aload (v := aD E o) C dX11_init_294 rfl ?_
  refine b_bipush C dX11_init_295 (by decide) ?_
  refine b_arr (P := P) (t0 := 0) (N := 10) (ty := .int) (a0 := (10, .inl (fun _ => 0))) (w := aD E (o + 35)) C hin ho dX11_init_297 dX11_init_299 rfl ar_i rfl (fun _ h => h) rfl (by decide) (by decide) (by decide) (by decide) (by decide) fq_X11_118 rfl rfl (Nat.le_of_ble_eq_true rfl) rfl rfl ?_
  refine b_aload (v := aD E o) C dX11_init_302 rfl ?_
  refine b_sipush C dX11_init_303 (by decide) ?_
  refine b_arr (P := P) (t0 := 0) (N := 1024) (ty := .int) (a0 := (1024, .inl (fun _ => 0))) (w := aD E (o + 36)) C hin ho dX11_init_306 dX11_init_308 rfl ar_i rfl (fun _ h => h) rfl (by decide) (by decide) (by decide) (by decide) (by decide) fq_X11_121 rfl rfl (Nat.le_of_ble_eq_true rfl) rfl rfl ?_
  refine b_aload (v := aD E o) C dX11_init_311 rfl ?_
  refine b_sipush C dX11_init_312 (by decide) ?_
  refine b_arr (P := P) (t0 := 0) (N := 1024) (ty := .int) (a0 := (1024, .inl (fun _ => 0))) (w := aD E (o + 37)) C hin ho dX11_init_315 dX11_init_317 rfl ar_i rfl (fun _ h => h) rfl (by decide) (by decide) (by decide) (by decide) (by decide) fq_X11_124 rfl rfl (Nat.le_of_ble_eq_true rfl) rfl rfl ?_
  refine b_aload (v := aD E o) C dX11_init_320 rfl ?_
  refine b_bipush C dX11_init_321 (by decide) ?_
  refine b_arr (P := P) (t0 := 0) (N := 10) (ty := .int) (a0 := (10, .inl (fun _ => 0))) (w := aD E (o + 38)) C hin ho dX11_init_323 dX11_init_325 rfl ar_i rfl (fun _ h => h) rfl (by decide) (by decide) (by decide) (by decide) (by decide) fq_X11_127 rfl rfl (Nat.le_of_ble_eq_true rfl) rfl rfl ?_
  refine b_aload (v := aD E o) C dX11_init_328 rfl ?_
  refine b_bipush C dX11_init_329 (by decide) ?_
  refine b_arr (P := P) (t0 := 0) (N := 10) (ty := .int) (a0 := (10, .inl (fun _ => 0))) (w := aD E (o + 39)) C hin ho dX11_init_331 dX11_init_333 rfl ar_i rfl (fun _ h => h) rfl (by decide) (by decide) (by decide) (by decide) (by decide) fq_X11_130 rfl rfl (Nat.le_of_ble_eq_true rfl) rfl rfl ?_
  refine b_aload (v := aD E o) C dX11_init_336 rfl ?_
  refine b_bipush C dX11_init_337 (by decide) ?_
  refine b_arr (P := P) (t0 := 0) (N := 24) (ty := .int) (a0 := (24, .inl (fun _ => 0))) (w := aD E (o + 40)) C hin ho dX11_init_339 dX11_init_341 rfl ar_i rfl (fun _ h => h) rfl (by decide) (by decide) (by decide) (by decide) (by decide) fq_X11_133 rfl rfl (Nat.le_of_ble_eq_true rfl) rfl rfl ?_
  refine b_aload (v := aD E o) C dX11_init_344 rfl ?_
  refine b_getP (P := P) (v := .ref (aD E (o + 10))) C ho dX11_init_345 fq_X11_38 rfl rfl ?_
  refine b_iconst C dX11_init_348 ?_
  refine b_iconst C dX11_init_349 ?_
  refine b_iastP (P := P) (j := 9) (n := 4) C ho dX11_init_350 rfl rfl (by decide) (by decide) (by decide) ?_
  refine b_aload (v := aD E o) C dX11_init_351 rfl ?_
  refine b_getP (P := P) (v := .ref (aD E (o + 10))) C ho dX11_init_352 fq_X11_38 rfl rfl ?_
  refine b_iconst C dX11_init_355 ?_
  refine b_iconst C dX11_init_356 ?_
  refine b_iastP (P := P) (j := 9) (n := 4) C ho dX11_init_357 rfl rfl (by decide) (by decide) (by decide) ?_
  refine b_aload (v := aD E o) C dX11_init_358 rfl ?_
  refine b_getP (P := P) (v := .ref (aD E (o + 10))) C ho dX11_init_359 fq_X11_38 rfl rfl ?_
  refine b_iconst C dX11_init_362 ?_
  refine b_bipush C dX11_init_363 (by decide) ?_
  refine b_iastP (P := P) (j := 9) (n := 4) C ho dX11_init_365 rfl rfl (by decide) (by decide) (by decide) ?_
  refine b_aload (v := aD E o) C dX11_init_366 rfl ?_
  refine b_getP (P := P) (v := .ref (aD E (o + 10))) C ho dX11_init_367 fq_X11_38 rfl rfl ?_
  refine b_iconst C dX11_init_370 ?_
  refine b_iconst C dX11_init_371 ?_
  refine b_iastP (P := P) (j := 9) (n := 4) C ho dX11_init_372 rfl rfl (by decide) (by decide) (by decide) ?_
  exact b_ret C hr hlk dX11_init_373 rfl rfl rfl
/-- the memory behind the two constructors -/
def wt0 (k : Int) : Int := if k = 0 then 2 else if k = 1 then 3 else if k = 2 then 10 else if k = 3 then 5 else 0
def M0 : Mm := fun a k => if a = 15 ∨ a = 76 then wt0 k else if a = 0 then (if k = 6 then 17 else if k = 7 then 24 else 0) else if a = 3 then (if k = 0 then 60 else if k = 1 then 16 else 0) else if a = 7 then (if k = 0 then 30 else if k = 1 then 16 else 0) else if a = 11 then (if k = 0 then 10 else if k = 1 then 6 else 0) else if a = 16 then (if k = 1 then -1 else 0) else if a = 50 then (if k = 4 then -1 else 0) else if a = 66 then (if k = 27 then -1 else 0) else 0
theorem wt_eq : wtF = (fun k : Nat => Int32.ofInt (wt0 (k : Int))) := by
  funext k
  unfold wtF upd wt0
  by_cases h3 : k = 3
  · subst h3; rfl
  · rw [if_neg h3]
    by_cases h2 : k = 2
    · subst h2; rfl
    · rw [if_neg h2]
      by_cases h1 : k = 1
      · subst h1; rfl
      · rw [if_neg h1]
        by_cases h0 : k = 0
        · subst h0; rfl
        · rw [if_neg h0, if_neg (by omega), if_neg (by omega), if_neg (by omega), if_neg (by omega)]; rfl
set_option maxRecDepth 100000 in
set_option maxHeartbeats 8000000 in
theorem L10_eq (E : Ev) : L10 E = (List.range 66).map (fun i => cE (aD E) (cY E) M0 i) := by
  unfold L10
  rw [wt_eq]
  rfl
set_option maxRecDepth 100000 in
set_option maxHeartbeats 8000000 in
theorem L11_eq (E : Ev) : L11 E 66 = (List.range 41).map (fun i => cE (aD E) (cY E) M0 (66 + i)) := by
  unfold L11
  rw [wt_eq]
  rfl
theorem zw_rg (E : Ev) (f : Nat → va_E) (n : Nat) : zw E ((List.range n).map f) = (List.range n).map (fun i => (aD E i, f i)) := by
  apply List.ext_getElem?
  intro j
  rw [zw_at]
  by_cases h : j < n
  · simp [List.getElem?_range h]
  · rw [List.getElem?_eq_none (by simp; omega), List.getElem?_eq_none (by simp; omega)]; rfl
theorem L_all (E : Ev) : zw E (L10 E ++ L11 E 66) = wl (aD E) (cY E) M0 := by
  have e : L10 E ++ L11 E 66 = (List.range 107).map (fun i => cE (aD E) (cY E) M0 i) := by
    rw [L10_eq, L11_eq]
    apply List.ext_getElem?
    intro j
    by_cases h : j < 66
    · rw [List.getElem?_append_left (by simpa using h)]
      simp [List.getElem?_range h, List.getElem?_range (show j < 107 by omega)]
    · rw [List.getElem?_append_right (by simp; omega)]
      by_cases h2 : j < 107
      · simp [List.getElem?_range h2, List.getElem?_range (show j - 66 < 41 by omega), show 66 + (j - 66) = j by omega]
      · rw [List.getElem?_eq_none (by simp; omega), List.getElem?_eq_none (by simp; omega)]
  rw [e, zw_rg]
  rfl
theorem Ok_0 (a : Nat) (k : Int) : Ok a k 0 := by
  unfold Ok
  repeat' split
  all_goals first | exact Or.inl rfl | omega
theorem Ok_v {a : Nat} {k z : Int} (h1 : kd a = 20 ∨ (kd a < 12 ∧ ft (kd a) k.toNat ≠ 1)) (h2 : -1 ≤ z ∧ z ≤ 100) : Ok a k z := by
  unfold Ok
  rcases h1 with h | ⟨h, h'⟩
  · rw [if_neg (by omega), if_neg (by omega), if_neg (by omega), if_neg (by omega)]; omega
  · rw [if_neg (by omega), if_neg (by omega), if_neg (by omega), if_neg (fun q => h' q.2)]; omega
theorem Rg_M0 : Rg M0 := by
  intro a k
  unfold M0
  split
  · next h =>
    have : -1 ≤ wt0 k ∧ wt0 k ≤ 100 := by unfold wt0; repeat' split
                                          all_goals omega
    rcases h with rfl | rfl
    · exact Ok_v (Or.inl rfl) this
    · exact Ok_v (Or.inl rfl) this
  · repeat' split
    all_goals first
      | exact Ok_0 _ _
      | (next h1 h2 => subst h1; subst h2; exact Ok_v (Or.inr ⟨by decide, by decide⟩) (by decide))
      | (next h1 h2 h3 => subst h1; subst h3; exact Ok_v (Or.inr ⟨by decide, by decide⟩) (by decide))
      | (subst_vars; exact Ok_v (Or.inr ⟨by decide, by decide⟩) (by decide))
theorem Wp_0 {E : Ev} {base : Nat} {H : Heap} (h : Bw E base (L10 E ++ L11 E 66) H) : Wp E M0 H := by
  refine ⟨?_, Rg_M0⟩
  rw [← L_all]
  exact h.2
theorem wt0_rg {i : Int} : 0 ≤ wt0 i ∧ wt0 i ≤ 50 := by
  unfold wt0
  repeat' split
  all_goals omega
theorem Cpl_0 : Cpl M0 17 24 := by
  have z1 : M0 1 1 = 0 := rfl
  have z35 : M0 3 5 = 0 := rfl
  have z75 : M0 7 5 = 0 := rfl
  have z115 : M0 11 5 = 0 := rfl
  have zn : M0 17 7 = 0 := rfl
  have zp : M0 55 2 = 0 := rfl
  have zo : M0 58 7 = 0 := rfl
  have y1 : M0 66 1 = 0 := rfl
  have y6 : M0 66 6 = 0 := rfl
  have y10 : M0 66 10 = 0 := rfl
  have y13 : M0 66 13 = 0 := rfl
  have y24 : M0 66 24 = 0 := rfl
  have y41 : M0 66 41 = 0 := rfl
  have y52 : M0 66 52 = 0 := rfl
  have w15 : M0 15 = wt0 := rfl
  have w76 : M0 76 = wt0 := rfl
  have z40 : M0 40 2 = 0 := rfl
  refine ⟨⟨Or.inl ⟨rfl, rfl⟩, ⟨rfl, rfl⟩, by omega, ⟨⟨rfl, rfl, by omega, fun i _ h => absurd h (by omega)⟩, ⟨rfl, rfl, by omega, fun i _ h => absurd h (by omega)⟩, ⟨rfl, rfl, by omega, fun i _ h => absurd h (by omega)⟩⟩, fun i _ h => absurd h (by omega), fun i _ _ => by rw [w15]; exact wt0_rg, ⟨⟨by omega, fun s _ h => absurd h (by omega)⟩, ⟨by omega, fun i _ h => absurd h (by omega), fun i j _ h => absurd h (by omega)⟩, ⟨by omega, fun p _ h => absurd h (by omega)⟩⟩, by omega, fun _ h => absurd h (by omega), fun _ _ h => absurd h (by omega)⟩, ⟨by omega, ⟨⟨by omega, fun i _ h => absurd h (by omega)⟩, ⟨by omega, fun i _ h => absurd h (by omega)⟩, ⟨by omega, fun i _ h => absurd h (by omega)⟩⟩, fun i _ h => absurd h (by omega), fun i _ _ => by rw [w76]; exact wt0_rg, ⟨by omega, fun s _ h => absurd h (by omega), fun i _ h => absurd h (by omega)⟩, ⟨by omega, fun p _ h => absurd h (by omega)⟩, by omega, fun _ h => absurd h (by omega)⟩, ⟨by omega, fun p _ h => absurd h (by omega)⟩, ⟨⟨by omega, fun i _ h => absurd h (by omega)⟩, ⟨by omega, fun i _ h => absurd h (by omega)⟩, ⟨by omega, fun i _ h => absurd h (by omega)⟩, fun i _ h => absurd h (by omega)⟩, fun i _ _ => by rw [w15, w76], ⟨by omega, fun s _ h => absurd h (by omega), fun i _ h => absurd h (by omega), fun h => absurd h (by omega)⟩, ⟨by omega, fun p _ h => absurd h (by omega)⟩, ⟨by omega, fun p _ h => absurd h (by omega)⟩, ⟨rfl, rfl⟩⟩
