theorem zlsh : ∀ k : Nat, k < 12 → ∀ h : Nat, h < 25 → zlshl (h : Int) (5 * (k : Int)) = (h : Int) * p32 k := by decide +kernel
theorem zlsh_hi {d h : Int} (hd : 0 ≤ d ∧ d < 12) (hh : -1 ≤ h ∧ h < 24) : zlshl (h + 1) (5 * (11 - d)) = hiD d h := by
  have := zlsh (11 - d).toNat (by omega) (h + 1).toNat (by omega)
  rw [show (((h + 1).toNat : Nat) : Int) = h + 1 by omega, show (((11 - d).toNat : Nat) : Int) = 11 - d by omega] at this
  rw [this]
  unfold hiD
  rw [if_pos hd.2]
theorem zlsh_lo {d h : Int} (hd : 12 ≤ d ∧ d < 24) (hh : -1 ≤ h ∧ h < 24) : zlshl (h + 1) (5 * (23 - d)) = loD d h := by
  have := zlsh (23 - d).toNat (by omega) (h + 1).toNat (by omega)
  rw [show (((h + 1).toNat : Nat) : Int) = h + 1 by omega, show (((23 - d).toNat : Nat) : Int) = 23 - d by omega] at this
  rw [this]
  unfold loD
  rw [if_neg (by omega)]
def fEmpty (M : Mm) (c : Int) : Mm := mput (mput (mput (mput M 46 c 268435456) 47 c 268435456) 48 c 0) 49 c 0
def fFirst (M : Mm) (c s l e t : Int) : Mm := mput (mput (mput (mput M 47 c s) 46 c l) 48 c e) 49 c t

set_option maxRecDepth 20000 in
set_option maxHeartbeats 4000000 in
theorem ct_X1_side (E : Ev) (M : Mm) (h e : Int) : Ct E yX1_side cX1_side 2 (some .int) 0 [zi h, zi e] M (pP M (fun z => z = h * 24 + e)) := by
  refine Ct.of (own := RX1) (lv0 := [some (zi h), some (zi e)]) (by decide) rfl (Nat.le_of_ble_eq_true rfl) rfl (fun κ C => ?_)
  refine s_iconst C dX1_side_0 ?_
  refine s_iload_n C dX1_side_1 rfl ?_
  refine s_bipush C dX1_side_2 (by decide) ?_
  refine s_imul C dX1_side_4 ?_
  refine s_iadd C dX1_side_5 ?_
  refine s_iload_n C dX1_side_6 rfl ?_
  refine s_iadd C dX1_side_7 ?_
  exact s_ireturn C dX1_side_8 (⟨_, rfl, rfl, by omega⟩)

set_option maxRecDepth 20000 in
set_option maxHeartbeats 4000000 in
theorem ct_X1_gap (E : Ev) (M : Mm) (h e : Int) : Ct E yX1_gap cX1_gap 2 (some .int) 0 [zi h, zi e] M (pP M (fun z => z = 576 + h * 24 + e)) := by
  refine Ct.of (own := RX1) (lv0 := [some (zi h), some (zi e)]) (by decide) rfl (Nat.le_of_ble_eq_true rfl) rfl (fun κ C => ?_)
  refine s_sipush C dX1_gap_0 (by decide) ?_
  refine s_iload_n C dX1_gap_3 rfl ?_
  refine s_bipush C dX1_gap_4 (by decide) ?_
  refine s_imul C dX1_gap_6 ?_
  refine s_iadd C dX1_gap_7 ?_
  refine s_iload_n C dX1_gap_8 rfl ?_
  refine s_iadd C dX1_gap_9 ?_
  exact s_ireturn C dX1_gap_10 (⟨_, rfl, rfl, by omega⟩)

set_option maxRecDepth 20000 in
set_option maxHeartbeats 4000000 in
theorem ct_X1_leastCost (E : Ev) (M : Mm) : Ct E yX1_leastCost cX1_leastCost 1 (some .int) 0 [zr E 43] M (pP M (fun z => z = M 46 1152)) := by
  refine Ct.of (own := RX1) (lv0 := [some (zr E 43)]) (by decide) rfl (Nat.le_of_ble_eq_true rfl) rfl (fun κ C => ?_)
  refine s_aload_n C dX1_leastCost_0 rfl ?_
  refine s_getr (k := 2) (b := 46) C dX1_leastCost_1 fl_X1_18 (by decide) rfl (by decide) rfl ?_
  refine s_sipush C dX1_leastCost_4 (by decide) ?_
  refine s_iaload (n := 1153) C dX1_leastCost_7 (by decide) rfl rfl (by omega) (by omega) (by omega) (rfl) (fun r7 => ?_)
  exact s_ireturn C dX1_leastCost_8 (⟨_, rfl, rfl, rfl⟩)

set_option maxRecDepth 20000 in
set_option maxHeartbeats 4000000 in
theorem ct_X1_secondCost (E : Ev) (M : Mm) : Ct E yX1_secondCost cX1_secondCost 1 (some .int) 0 [zr E 43] M (pP M (fun z => z = M 47 1152)) := by
  refine Ct.of (own := RX1) (lv0 := [some (zr E 43)]) (by decide) rfl (Nat.le_of_ble_eq_true rfl) rfl (fun κ C => ?_)
  refine s_aload_n C dX1_secondCost_0 rfl ?_
  refine s_getr (k := 3) (b := 47) C dX1_secondCost_1 fl_X1_21 (by decide) rfl (by decide) rfl ?_
  refine s_sipush C dX1_secondCost_4 (by decide) ?_
  refine s_iaload (n := 1153) C dX1_secondCost_7 (by decide) rfl rfl (by omega) (by omega) (by omega) (rfl) (fun r7 => ?_)
  exact s_ireturn C dX1_secondCost_8 (⟨_, rfl, rfl, rfl⟩)

set_option maxRecDepth 20000 in
set_option maxHeartbeats 4000000 in
theorem ct_X1_setEmpty (E : Ev) (M : Mm) (c : Int) (hc : 0 ≤ c ∧ c < 1153) : Ct E yX1_setEmpty cX1_setEmpty 2 none 0 [zr E 43, zi c] M (pV (fun M' => M' = fEmpty M c)) := by
  refine Ct.of (own := RX1) (lv0 := [some (zr E 43), some (zi c)]) (by decide) rfl (Nat.le_of_ble_eq_true rfl) rfl (fun κ C => ?_)
  refine s_aload_n C dX1_setEmpty_0 rfl ?_
  refine s_getr (k := 2) (b := 46) C dX1_setEmpty_1 fl_X1_18 (by decide) rfl (by decide) rfl ?_
  refine s_iload_n C dX1_setEmpty_4 rfl ?_
  refine s_ldc C dX1_setEmpty_5 kc_X1_53 ?_
  refine s_iastore (n := 1153) C dX1_setEmpty_7 (by decide) rfl rfl (by omega) (by omega) (by omega) (by decide) ?_
  refine s_aload_n C dX1_setEmpty_8 rfl ?_
  refine s_getr (k := 3) (b := 47) C dX1_setEmpty_9 fl_X1_21 (by decide) rfl (by decide) rfl ?_
  refine s_iload_n C dX1_setEmpty_12 rfl ?_
  refine s_ldc C dX1_setEmpty_13 kc_X1_53 ?_
  refine s_iastore (n := 1153) C dX1_setEmpty_15 (by decide) rfl rfl (by omega) (by omega) (by omega) (by decide) ?_
  refine s_aload_n C dX1_setEmpty_16 rfl ?_
  refine s_getr (k := 4) (b := 48) C dX1_setEmpty_17 fl_X1_24 (by decide) rfl (by decide) rfl ?_
  refine s_iload_n C dX1_setEmpty_20 rfl ?_
  refine s_lconst (z := 0) C dX1_setEmpty_21 rfl ?_
  refine s_lastore (n := 1153) C dX1_setEmpty_22 (by decide) rfl rfl (by omega) (by omega) (by omega) (by decide) ?_
  refine s_aload_n C dX1_setEmpty_23 rfl ?_
  refine s_getr (k := 5) (b := 49) C dX1_setEmpty_24 fl_X1_28 (by decide) rfl (by decide) rfl ?_
  refine s_iload_n C dX1_setEmpty_27 rfl ?_
  refine s_lconst (z := 0) C dX1_setEmpty_28 rfl ?_
  refine s_lastore (n := 1153) C dX1_setEmpty_29 (by decide) rfl rfl (by omega) (by omega) (by omega) (by decide) ?_
  exact s_return C dX1_setEmpty_30 (⟨rfl, rfl⟩)

set_option maxRecDepth 20000 in
set_option maxHeartbeats 4000000 in
theorem ct_X1_setAlone (E : Ev) (M : Mm) (c : Int) (hc : 0 ≤ c ∧ c < 1153) : Ct E yX1_setAlone cX1_setAlone 2 none 1 [zr E 43, zi c] M (pV (fun M' => M' = mput (fEmpty M c) 46 c 0)) := by
  refine Ct.of (own := RX1) (lv0 := [some (zr E 43), some (zi c)]) (by decide) rfl (Nat.le_of_ble_eq_true rfl) rfl (fun κ C => ?_)
  refine s_aload_n C dX1_setAlone_0 rfl ?_
  refine s_iload_n C dX1_setAlone_1 rfl ?_
  refine s_callV1 C dX1_setAlone_2 cy_X1_setEmpty cv_X1_setEmpty lk_X1_43 (ct_X1_setEmpty E M c hc) (by decide) (by decide) (by first | decide | (decide)) rfl (Nat.le_of_ble_eq_true rfl) (k_V (fun M2 q2 => ?_))
  subst q2
  refine s_aload_n C dX1_setAlone_5 rfl ?_
  refine s_getr (k := 2) (b := 46) C dX1_setAlone_6 fl_X1_18 (by decide) rfl (by decide) rfl ?_
  refine s_iload_n C dX1_setAlone_9 rfl ?_
  refine s_iconst C dX1_setAlone_10 ?_
  refine s_iastore (n := 1153) C dX1_setAlone_11 (by decide) rfl rfl (by omega) (by omega) (by omega) (by decide) ?_
  exact s_return C dX1_setAlone_12 (⟨rfl, rfl⟩)

set_option maxRecDepth 20000 in
set_option maxHeartbeats 4000000 in
theorem ct_X1_comesFirst (E : Ev) (M : Mm) (k c e t : Int) (hk : 0 ≤ k ∧ k < 1153) (hc : rg c) (he : rgl e) (ht : rgl t) : Ct E yX1_comesFirst cX1_comesFirst 7 (some .boolean) 0 [zr E 43, zi k, zi c, zl e, zl t] M (pP M (fun z => Bz z (lexLt c e t (M 46 k) (M 48 k) (M 49 k)))) := by
  refine Ct.of (own := RX1) (lv0 := [some (zr E 43), some (zi k), some (zi c), some (zl e), none, some (zl t), none]) (by decide) rfl (Nat.le_of_ble_eq_true rfl) rfl (fun κ C => ?_)
  refine s_iload_n C dX1_comesFirst_0 rfl ?_
  refine s_aload_n C dX1_comesFirst_1 rfl ?_
  refine s_getr (k := 2) (b := 46) C dX1_comesFirst_2 fl_X1_18 (by decide) rfl (by decide) rfl ?_
  refine s_iload_n C dX1_comesFirst_5 rfl ?_
  refine s_iaload (n := 1153) C dX1_comesFirst_6 (by decide) rfl rfl (by omega) (by omega) (by omega) (rfl) (fun r6 => ?_)
  refine s_icmp_eq (tgt := 26) C dX1_comesFirst_7 (by decide) (by omega) (by omega) (fun c7 => ?_) (fun c7 => ?_)
  · skip
    refine s_lload_n C dX1_comesFirst_26 rfl ?_
    refine s_aload_n C dX1_comesFirst_27 rfl ?_
    refine s_getr (k := 4) (b := 48) C dX1_comesFirst_28 fl_X1_24 (by decide) rfl (by decide) rfl ?_
    refine s_iload_n C dX1_comesFirst_31 rfl ?_
    refine s_laload (n := 1153) C dX1_comesFirst_32 (by decide) rfl rfl (by omega) (by omega) (by omega) (rfl) (fun r32 => ?_)
    refine s_lcmp C dX1_comesFirst_33 (by omega) (by omega) ?_
    have k33 := cmpI_spec e (M 48 k)
    refine s_if_eq (tgt := 54) C dX1_comesFirst_34 (by decide) (by omega) (fun c34 => ?_) (fun c34 => ?_)
    · skip
      refine s_lload C dX1_comesFirst_54 rfl ?_
      refine s_aload_n C dX1_comesFirst_56 rfl ?_
      refine s_getr (k := 5) (b := 49) C dX1_comesFirst_57 fl_X1_28 (by decide) rfl (by decide) rfl ?_
      refine s_iload_n C dX1_comesFirst_60 rfl ?_
      refine s_laload (n := 1153) C dX1_comesFirst_61 (by decide) rfl rfl (by omega) (by omega) (by omega) (rfl) (fun r61 => ?_)
      refine s_lcmp C dX1_comesFirst_62 (by omega) (by omega) ?_
      have k62 := cmpI_spec t (M 49 k)
      refine s_if_ge (tgt := 70) C dX1_comesFirst_63 (by decide) (by omega) (fun c63 => ?_) (fun c63 => ?_)
      · skip
        refine s_iconst C dX1_comesFirst_70 ?_
        exact s_zreturn C dX1_comesFirst_71 (by decide) (⟨_, rfl, rfl, by unfold lexLt; first | exact Bz.t (by omega) | exact Bz.f (by omega)⟩)
      · skip
        refine s_iconst C dX1_comesFirst_66 ?_
        refine s_goto (tgt := 71) C dX1_comesFirst_67 (by decide) ?_
        exact s_zreturn C dX1_comesFirst_71 (by decide) (⟨_, rfl, rfl, by unfold lexLt; first | exact Bz.t (by omega) | exact Bz.f (by omega)⟩)
    · skip
      refine s_lload_n C dX1_comesFirst_37 rfl ?_
      refine s_aload_n C dX1_comesFirst_38 rfl ?_
      refine s_getr (k := 4) (b := 48) C dX1_comesFirst_39 fl_X1_24 (by decide) rfl (by decide) rfl ?_
      refine s_iload_n C dX1_comesFirst_42 rfl ?_
      refine s_laload (n := 1153) C dX1_comesFirst_43 (by decide) rfl rfl (by omega) (by omega) (by omega) (rfl) (fun r43 => ?_)
      refine s_lcmp C dX1_comesFirst_44 (by omega) (by omega) ?_
      have k44 := cmpI_spec e (M 48 k)
      refine s_if_ge (tgt := 52) C dX1_comesFirst_45 (by decide) (by omega) (fun c45 => ?_) (fun c45 => ?_)
      · skip
        refine s_iconst C dX1_comesFirst_52 ?_
        exact s_zreturn C dX1_comesFirst_53 (by decide) (⟨_, rfl, rfl, by unfold lexLt; first | exact Bz.t (by omega) | exact Bz.f (by omega)⟩)
      · skip
        refine s_iconst C dX1_comesFirst_48 ?_
        refine s_goto (tgt := 53) C dX1_comesFirst_49 (by decide) ?_
        exact s_zreturn C dX1_comesFirst_53 (by decide) (⟨_, rfl, rfl, by unfold lexLt; first | exact Bz.t (by omega) | exact Bz.f (by omega)⟩)
  · skip
    refine s_iload_n C dX1_comesFirst_10 rfl ?_
    refine s_aload_n C dX1_comesFirst_11 rfl ?_
    refine s_getr (k := 2) (b := 46) C dX1_comesFirst_12 fl_X1_18 (by decide) rfl (by decide) rfl ?_
    refine s_iload_n C dX1_comesFirst_15 rfl ?_
    refine s_iaload (n := 1153) C dX1_comesFirst_16 (by decide) rfl rfl (by omega) (by omega) (by omega) (rfl) (fun r16 => ?_)
    refine s_icmp_ge (tgt := 24) C dX1_comesFirst_17 (by decide) (by omega) (by omega) (fun c17 => ?_) (fun c17 => ?_)
    · skip
      refine s_iconst C dX1_comesFirst_24 ?_
      exact s_zreturn C dX1_comesFirst_25 (by decide) (⟨_, rfl, rfl, by unfold lexLt; first | exact Bz.t (by omega) | exact Bz.f (by omega)⟩)
    · skip
      refine s_iconst C dX1_comesFirst_20 ?_
      refine s_goto (tgt := 25) C dX1_comesFirst_21 (by decide) ?_
      exact s_zreturn C dX1_comesFirst_25 (by decide) (⟨_, rfl, rfl, by unfold lexLt; first | exact Bz.t (by omega) | exact Bz.f (by omega)⟩)

set_option maxRecDepth 20000 in
set_option maxHeartbeats 4000000 in
theorem ct_X1_offer (E : Ev) (M : Mm) (c a b pr h d : Int) (hc : 0 ≤ c ∧ c < 1153) (ha : 0 ≤ a ∧ a < 1153) (hb : 0 ≤ b ∧ b < 1153) (hpr : 0 ≤ pr ∧ pr ≤ 2000) (hh : -1 ≤ h ∧ h < 24) (hd : 0 ≤ d ∧ d < 24) (a6 : 0 ≤ M 46 a ∧ M 46 a ≤ 100000) (a7 : 0 ≤ M 47 a ∧ M 47 a ≤ 268435456) (a8 : 0 ≤ M 48 a ∧ M 48 a < 1152921504606846976) (a9 : 0 ≤ M 49 a ∧ M 49 a < 1152921504606846976) (b6 : 0 ≤ M 46 b ∧ M 46 b ≤ 100000) (b7 : 0 ≤ M 47 b ∧ M 47 b ≤ 268435456) (b8 : 0 ≤ M 48 b ∧ M 48 b < 1152921504606846976) (b9 : 0 ≤ M 49 b ∧ M 49 b < 1152921504606846976) : Ct E yX1_offer cX1_offer 13 none 1 [zr E 43, zi c, zi a, zi b, zi pr, zi h, zi d] M (pV (fun M' => (lexLt (M 46 a + M 46 b + pr) (M 48 a + M 48 b + hiD d h) (M 49 a + M 49 b + loD d h) (M 46 c) (M 48 c) (M 49 c) → M' = fFirst M c (min (M 46 c) (min (M 46 a + M 47 b) (M 47 a + M 46 b) + pr)) (M 46 a + M 46 b + pr) (M 48 a + M 48 b + hiD d h) (M 49 a + M 49 b + loD d h)) ∧ (¬ lexLt (M 46 a + M 46 b + pr) (M 48 a + M 48 b + hiD d h) (M 49 a + M 49 b + loD d h) (M 46 c) (M 48 c) (M 49 c) → M' = mput M 47 c (min (M 47 c) (M 46 a + M 46 b + pr))))) := by
  refine Ct.of (own := RX1) (lv0 := [some (zr E 43), some (zi c), some (zi a), some (zi b), some (zi pr), some (zi h), some (zi d), none, none, none, none, none, none]) (by decide) rfl (Nat.le_of_ble_eq_true rfl) rfl (fun κ C => ?_)
  have hd1 := hiD_le (d := d) (h := h) hd hh
  have hd2 := loD_le (d := d) (h := h) hd hh
  have hb1 := HB_mono (show d + 1 ≤ 24 by omega)
  have hb2 := LB_mono (show d + 1 ≤ 24 by omega)
  have hb3 := HB_mono hd.1
  have hb4 := LB_mono hd.1
  have hb5 := HB_24
  have hb6 := LB_24
  rw [HB_0] at hb3
  rw [LB_0] at hb4
  have hB60 : B60 = 1152921504606846976 := rfl
  have L94 : ∀ (e1 t1 : Int) (u12 : Option Value) (he1 : e1 = (M 48 a + M 48 b + hiD d h)) (ht1 : t1 = (M 49 a + M 49 b + loD d h)), Gm E κ (pV (fun M' => (lexLt (M 46 a + M 46 b + pr) (M 48 a + M 48 b + hiD d h) (M 49 a + M 49 b + loD d h) (M 46 c) (M 48 c) (M 49 c) → M' = fFirst M c (min (M 46 c) (min (M 46 a + M 47 b) (M 47 a + M 46 b) + pr)) (M 46 a + M 46 b + pr) (M 48 a + M 48 b + hiD d h) (M 49 a + M 49 b + loD d h)) ∧ (¬ lexLt (M 46 a + M 46 b + pr) (M 48 a + M 48 b + hiD d h) (M 49 a + M 49 b + loD d h) (M 46 c) (M 48 c) (M 49 c) → M' = mput M 47 c (min (M 47 c) (M 46 a + M 46 b + pr))))) 13 94 [some (zr E 43), some (zi c), some (zi a), some (zi b), some (zi pr), some (zi h), some (zi d), some (zi (M 46 a + M 46 b + pr)), some (zl e1), none, some (zl t1), none, u12] [] M := by
    intro e1 t1 u12 he1 ht1
    subst he1; subst ht1
    refine s_aload_n C dX1_offer_94 rfl ?_
    refine s_iload_n C dX1_offer_95 rfl ?_
    refine s_iload C dX1_offer_96 rfl ?_
    refine s_lload C dX1_offer_98 rfl ?_
    refine s_lload C dX1_offer_100 rfl ?_
    refine s_callV4 C dX1_offer_102 cy_X1_comesFirst cv_X1_comesFirst lk_X1_54 (ct_X1_comesFirst E M c (M 46 a + M 46 b + pr) (M 48 a + M 48 b + hiD d h) (M 49 a + M 49 b + loD d h) hc (by omega) (by omega) (by omega)) (by decide) (by decide) (by first | decide | (decide)) rfl (Nat.le_of_ble_eq_true rfl) (k_P (fun z102 q102 => ?_))
    refine s_if_eq (tgt := 186) C dX1_offer_105 (by decide) (by rcases q102 with q | q <;> omega) (fun c105 => ?_) (fun c105 => ?_)
    · skip
      refine s_aload_n C dX1_offer_186 rfl ?_
      refine s_getr (k := 3) (b := 47) C dX1_offer_187 fl_X1_21 (by decide) rfl (by decide) rfl ?_
      refine s_iload_n C dX1_offer_190 rfl ?_
      refine s_aload_n C dX1_offer_191 rfl ?_
      refine s_getr (k := 3) (b := 47) C dX1_offer_192 fl_X1_21 (by decide) rfl (by decide) rfl ?_
      refine s_iload_n C dX1_offer_195 rfl ?_
      refine s_iaload (n := 1153) C dX1_offer_196 (by decide) rfl rfl (by omega) (by omega) (by omega) (rfl) (fun r196 => ?_)
      refine s_iload C dX1_offer_197 rfl ?_
      refine s_min C dX1_offer_199 lm_X1_58 js_min ji_Math jc_min (by decide) (Nat.le_of_ble_eq_true rfl) (by omega) (by omega) ?_
      refine s_iastore (n := 1153) C dX1_offer_202 (by decide) rfl rfl (by omega) (by omega) (by omega) (by omega) ?_
      exact s_return C dX1_offer_203 (⟨rfl, by first | exact ⟨fun _ => rfl, fun q => by rcases q102 with ⟨_, g⟩ | ⟨g, _⟩; exact absurd g q; exact absurd g c105⟩ | exact ⟨fun q => by rcases q102 with ⟨g, _⟩ | ⟨_, g⟩; omega; exact absurd q g, fun _ => rfl⟩⟩)
    · skip
      refine s_aload_n C dX1_offer_108 rfl ?_
      refine s_getr (k := 2) (b := 46) C dX1_offer_109 fl_X1_18 (by decide) rfl (by decide) rfl ?_
      refine s_iload_n C dX1_offer_112 rfl ?_
      refine s_iaload (n := 1153) C dX1_offer_113 (by decide) rfl rfl (by omega) (by omega) (by omega) (rfl) (fun r113 => ?_)
      refine s_aload_n C dX1_offer_114 rfl ?_
      refine s_getr (k := 3) (b := 47) C dX1_offer_115 fl_X1_21 (by decide) rfl (by decide) rfl ?_
      refine s_iload_n C dX1_offer_118 rfl ?_
      refine s_iaload (n := 1153) C dX1_offer_119 (by decide) rfl rfl (by omega) (by omega) (by omega) (rfl) (fun r119 => ?_)
      refine s_iadd C dX1_offer_120 ?_
      refine s_aload_n C dX1_offer_121 rfl ?_
      refine s_getr (k := 3) (b := 47) C dX1_offer_122 fl_X1_21 (by decide) rfl (by decide) rfl ?_
      refine s_iload_n C dX1_offer_125 rfl ?_
      refine s_iaload (n := 1153) C dX1_offer_126 (by decide) rfl rfl (by omega) (by omega) (by omega) (rfl) (fun r126 => ?_)
      refine s_aload_n C dX1_offer_127 rfl ?_
      refine s_getr (k := 2) (b := 46) C dX1_offer_128 fl_X1_18 (by decide) rfl (by decide) rfl ?_
      refine s_iload_n C dX1_offer_131 rfl ?_
      refine s_iaload (n := 1153) C dX1_offer_132 (by decide) rfl rfl (by omega) (by omega) (by omega) (rfl) (fun r132 => ?_)
      refine s_iadd C dX1_offer_133 ?_
      refine s_min C dX1_offer_134 lm_X1_58 js_min ji_Math jc_min (by decide) (Nat.le_of_ble_eq_true rfl) (by omega) (by omega) ?_
      refine s_iload C dX1_offer_137 rfl ?_
      refine s_iadd C dX1_offer_139 ?_
      refine s_istore (lv' := [_, _, _, _, _, _, _, _, _, _, _, _, _]) C dX1_offer_140 (by decide) rfl rfl ?_
      refine s_aload_n C dX1_offer_142 rfl ?_
      refine s_getr (k := 3) (b := 47) C dX1_offer_143 fl_X1_21 (by decide) rfl (by decide) rfl ?_
      refine s_iload_n C dX1_offer_146 rfl ?_
      refine s_aload_n C dX1_offer_147 rfl ?_
      refine s_getr (k := 2) (b := 46) C dX1_offer_148 fl_X1_18 (by decide) rfl (by decide) rfl ?_
      refine s_iload_n C dX1_offer_151 rfl ?_
      refine s_iaload (n := 1153) C dX1_offer_152 (by decide) rfl rfl (by omega) (by omega) (by omega) (rfl) (fun r152 => ?_)
      refine s_iload C dX1_offer_153 rfl ?_
      refine s_min C dX1_offer_155 lm_X1_58 js_min ji_Math jc_min (by decide) (Nat.le_of_ble_eq_true rfl) (by omega) (by omega) ?_
      refine s_iastore (n := 1153) C dX1_offer_158 (by decide) rfl rfl (by omega) (by omega) (by omega) (by omega) ?_
      refine s_aload_n C dX1_offer_159 rfl ?_
      refine s_getr (k := 2) (b := 46) C dX1_offer_160 fl_X1_18 (by decide) rfl (by decide) rfl ?_
      refine s_iload_n C dX1_offer_163 rfl ?_
      refine s_iload C dX1_offer_164 rfl ?_
      refine s_iastore (n := 1153) C dX1_offer_166 (by decide) rfl rfl (by omega) (by omega) (by omega) (by omega) ?_
      refine s_aload_n C dX1_offer_167 rfl ?_
      refine s_getr (k := 4) (b := 48) C dX1_offer_168 fl_X1_24 (by decide) rfl (by decide) rfl ?_
      refine s_iload_n C dX1_offer_171 rfl ?_
      refine s_lload C dX1_offer_172 rfl ?_
      refine s_lastore (n := 1153) C dX1_offer_174 (by decide) rfl rfl (by omega) (by omega) (by omega) (by omega) ?_
      refine s_aload_n C dX1_offer_175 rfl ?_
      refine s_getr (k := 5) (b := 49) C dX1_offer_176 fl_X1_28 (by decide) rfl (by decide) rfl ?_
      refine s_iload_n C dX1_offer_179 rfl ?_
      refine s_lload C dX1_offer_180 rfl ?_
      refine s_lastore (n := 1153) C dX1_offer_182 (by decide) rfl rfl (by omega) (by omega) (by omega) (by omega) ?_
      refine s_goto (tgt := 203) C dX1_offer_183 (by decide) ?_
      exact s_return C dX1_offer_203 (⟨rfl, by first | exact ⟨fun _ => rfl, fun q => by rcases q102 with ⟨_, g⟩ | ⟨g, _⟩; exact absurd g q; exact absurd g c105⟩ | exact ⟨fun q => by rcases q102 with ⟨g, _⟩ | ⟨_, g⟩; omega; exact absurd q g, fun _ => rfl⟩⟩)
  refine s_aload_n C dX1_offer_0 rfl ?_
  refine s_getr (k := 2) (b := 46) C dX1_offer_1 fl_X1_18 (by decide) rfl (by decide) rfl ?_
  refine s_iload_n C dX1_offer_4 rfl ?_
  refine s_iaload (n := 1153) C dX1_offer_5 (by decide) rfl rfl (by omega) (by omega) (by omega) (rfl) (fun r5 => ?_)
  refine s_aload_n C dX1_offer_6 rfl ?_
  refine s_getr (k := 2) (b := 46) C dX1_offer_7 fl_X1_18 (by decide) rfl (by decide) rfl ?_
  refine s_iload_n C dX1_offer_10 rfl ?_
  refine s_iaload (n := 1153) C dX1_offer_11 (by decide) rfl rfl (by omega) (by omega) (by omega) (rfl) (fun r11 => ?_)
  refine s_iadd C dX1_offer_12 ?_
  refine s_iload C dX1_offer_13 rfl ?_
  refine s_iadd C dX1_offer_15 ?_
  refine s_istore (lv' := [_, _, _, _, _, _, _, _, _, _, _, _, _]) C dX1_offer_16 (by decide) rfl rfl ?_
  refine s_aload_n C dX1_offer_18 rfl ?_
  refine s_getr (k := 4) (b := 48) C dX1_offer_19 fl_X1_24 (by decide) rfl (by decide) rfl ?_
  refine s_iload_n C dX1_offer_22 rfl ?_
  refine s_laload (n := 1153) C dX1_offer_23 (by decide) rfl rfl (by omega) (by omega) (by omega) (rfl) (fun r23 => ?_)
  refine s_aload_n C dX1_offer_24 rfl ?_
  refine s_getr (k := 4) (b := 48) C dX1_offer_25 fl_X1_24 (by decide) rfl (by decide) rfl ?_
  refine s_iload_n C dX1_offer_28 rfl ?_
  refine s_laload (n := 1153) C dX1_offer_29 (by decide) rfl rfl (by omega) (by omega) (by omega) (rfl) (fun r29 => ?_)
  refine s_ladd C dX1_offer_30 ?_
  refine s_lstore (lv' := [_, _, _, _, _, _, _, _, _, _, _, _, _]) C dX1_offer_31 (by decide) rfl rfl ?_
  refine s_aload_n C dX1_offer_33 rfl ?_
  refine s_getr (k := 5) (b := 49) C dX1_offer_34 fl_X1_28 (by decide) rfl (by decide) rfl ?_
  refine s_iload_n C dX1_offer_37 rfl ?_
  refine s_laload (n := 1153) C dX1_offer_38 (by decide) rfl rfl (by omega) (by omega) (by omega) (rfl) (fun r38 => ?_)
  refine s_aload_n C dX1_offer_39 rfl ?_
  refine s_getr (k := 5) (b := 49) C dX1_offer_40 fl_X1_28 (by decide) rfl (by decide) rfl ?_
  refine s_iload_n C dX1_offer_43 rfl ?_
  refine s_laload (n := 1153) C dX1_offer_44 (by decide) rfl rfl (by omega) (by omega) (by omega) (rfl) (fun r44 => ?_)
  refine s_ladd C dX1_offer_45 ?_
  refine s_lstore (lv' := [_, _, _, _, _, _, _, _, _, _, _, _, _]) C dX1_offer_46 (by decide) rfl rfl ?_
  refine s_iload C dX1_offer_48 rfl ?_
  refine s_bipush C dX1_offer_50 (by decide) ?_
  refine s_icmp_ge (tgt := 76) C dX1_offer_52 (by decide) (by omega) (by omega) (fun c52 => ?_) (fun c52 => ?_)
  · skip
    refine s_lload C dX1_offer_76 rfl ?_
    refine s_iload C dX1_offer_78 rfl ?_
    refine s_i2l C dX1_offer_80 (by omega) ?_
    refine s_lconst (z := 1) C dX1_offer_81 rfl ?_
    refine s_ladd C dX1_offer_82 ?_
    refine s_iconst C dX1_offer_83 ?_
    refine s_bipush C dX1_offer_84 (by decide) ?_
    refine s_iload C dX1_offer_86 rfl ?_
    refine s_isub C dX1_offer_88 ?_
    refine s_imul C dX1_offer_89 ?_
    refine s_lshl C dX1_offer_90 ?_
    refine s_ladd C dX1_offer_91 ?_
    rw [show zlshl (h + 1) (5 * (23 - d)) = loD d h from zlsh_lo ⟨by omega, hd.2⟩ hh]
    refine s_lstore (lv' := [_, _, _, _, _, _, _, _, _, _, _, _, _]) C dX1_offer_92 (by decide) rfl rfl ?_
    exact L94 _ _ _ (by unfold hiD; rw [if_neg (by omega)]; omega) (by omega)
  · skip
    refine s_lload C dX1_offer_55 rfl ?_
    refine s_iload C dX1_offer_57 rfl ?_
    refine s_i2l C dX1_offer_59 (by omega) ?_
    refine s_lconst (z := 1) C dX1_offer_60 rfl ?_
    refine s_ladd C dX1_offer_61 ?_
    refine s_iconst C dX1_offer_62 ?_
    refine s_bipush C dX1_offer_63 (by decide) ?_
    refine s_iload C dX1_offer_65 rfl ?_
    refine s_isub C dX1_offer_67 ?_
    refine s_imul C dX1_offer_68 ?_
    refine s_lshl C dX1_offer_69 ?_
    refine s_ladd C dX1_offer_70 ?_
    rw [show zlshl (h + 1) (5 * (11 - d)) = hiD d h from zlsh_hi ⟨hd.1, by omega⟩ hh]
    refine s_lstore (lv' := [_, _, _, _, _, _, _, _, _, _, _, _, _]) C dX1_offer_71 (by decide) rfl rfl ?_
    refine s_goto (tgt := 94) C dX1_offer_73 (by decide) ?_
    exact L94 _ _ _ (by omega) (by unfold loD; rw [if_pos (by omega)]; omega)
