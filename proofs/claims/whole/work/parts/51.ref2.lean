def fxM (M : Mm) (d h j : Int) : Mm := fun b => if b = 92 then (fun q => if 25 * d ≤ q ∧ q < 25 * d + j then (if q = 25 * d + (h + 1) then 0 else 1) else M 92 q) else M b
theorem fxM_92 (M : Mm) (d h j q : Int) : fxM M d h j 92 q = if 25 * d ≤ q ∧ q < 25 * d + j then (if q = 25 * d + (h + 1) then 0 else 1) else M 92 q := rfl
theorem fxM_ne {M : Mm} {d h j : Int} {a : Nat} (ha : a ≠ 92) : fxM M d h j a = M a := by simp [fxM, ha]
theorem fxM_0 (M : Mm) (d h : Int) : fxM M d h 0 = M := by
  funext b q
  by_cases hb : b = 92
  · subst hb; rw [fxM_92, if_neg (by omega)]
  · rw [fxM_ne hb]
theorem fxM_s (M : Mm) (d h j v : Int) (hj : 0 ≤ j) (hv : v = if j = h + 1 then 0 else 1) : mput (fxM M d h j) 92 (25 * d + j) v = fxM M d h (j + 1) := by
  funext b q
  by_cases hb : b = 92
  · subst hb
    rw [mput_at, fxM_92, fxM_92]
    by_cases hq : q = 25 * d + j
    · rw [if_pos hq, if_pos (by omega), hv]
      by_cases c : j = h + 1
      · rw [if_pos c, if_pos (by omega)]
      · rw [if_neg c, if_neg (by omega)]
    · rw [if_neg hq]
      by_cases c : 25 * d ≤ q ∧ q < 25 * d + j
      · rw [if_pos c, if_pos (show 25 * d ≤ q ∧ q < 25 * d + (j + 1) by omega)]
      · rw [if_neg c, if_neg (show ¬ (25 * d ≤ q ∧ q < 25 * d + (j + 1)) by omega)]
  · rw [mput_ne hb, fxM_ne hb, fxM_ne hb]

set_option maxRecDepth 20000 in
set_option maxHeartbeats 4000000 in
theorem ct_X11_weight (E : Ev) (M : Mm) (i v : Int) (hi : rg i) (hv : rg v) : Ct E yX11_weight cX11_weight 4 (some .int) 1 [zr E 66, zi i, zi v] M (pI (fun z M' => ((i < 0 ∨ 3 < i ∨ v < 0 ∨ 50 < v) ∧ z = -2 ∧ M' = M) ∨ ((0 ≤ i ∧ i ≤ 3 ∧ 0 ≤ v ∧ v ≤ 50) ∧ z = M 76 i ∧ M' = mput (mput M 76 i v) 66 32 0))) := by
  refine Ct.of (own := RX11) (lv0 := [some (zr E 66), some (zi i), some (zi v), none]) (by decide) rfl (Nat.le_of_ble_eq_true rfl) rfl (fun κ C => ?_)
  refine s_iload_n C dX11_weight_0 rfl ?_
  refine s_iconst C dX11_weight_1 ?_
  refine s_iconst C dX11_weight_2 ?_
  refine s_callS3 C dX11_weight_3 cy_X11_in cs_X11_in lk_X11_139 (ct_X11_in E M i 0 3 hi (by decide) (by decide)) (by decide) (Nat.le_of_ble_eq_true rfl) (k_P (fun z3 q3 => ?_))
  have k3 : (z3 = 1 ∧ 0 ≤ i ∧ i ≤ 3) ∨ (z3 = 0 ∧ ¬ (0 ≤ i ∧ i ≤ 3)) := q3
  clear q3
  refine s_if_eq (tgt := 19) C dX11_weight_6 (by decide) (by omega) (fun c6 => ?_) (fun c6 => ?_)
  · skip
    refine s_bipush C dX11_weight_19 (by decide) ?_
    exact s_ireturn C dX11_weight_21 (⟨_, rfl, Or.inl ⟨by omega, rfl, rfl⟩⟩)
  · skip
    refine s_iload_n C dX11_weight_9 rfl ?_
    refine s_iconst C dX11_weight_10 ?_
    refine s_bipush C dX11_weight_11 (by decide) ?_
    refine s_callS3 C dX11_weight_13 cy_X11_in cs_X11_in lk_X11_139 (ct_X11_in E M v 0 50 hv (by decide) (by decide)) (by decide) (Nat.le_of_ble_eq_true rfl) (k_P (fun z13 q13 => ?_))
    have k13 : (z13 = 1 ∧ 0 ≤ v ∧ v ≤ 50) ∨ (z13 = 0 ∧ ¬ (0 ≤ v ∧ v ≤ 50)) := q13
    clear q13
    refine s_if_ne (tgt := 22) C dX11_weight_16 (by decide) (by omega) (fun c16 => ?_) (fun c16 => ?_)
    · skip
      refine s_aload_n C dX11_weight_22 rfl ?_
      refine s_getr (k := 14) (b := 76) C dX11_weight_23 fl_X11_38 (by decide) rfl (by decide) rfl ?_
      refine s_iload_n C dX11_weight_26 rfl ?_
      refine s_iaload (n := 4) C dX11_weight_27 (by decide) rfl rfl (by omega) (by omega) (by omega) (rfl) (fun r27 => ?_)
      refine s_istore_n (lv' := [_, _, _, _]) C dX11_weight_28 (by decide) rfl rfl ?_
      refine s_aload_n C dX11_weight_29 rfl ?_
      refine s_getr (k := 14) (b := 76) C dX11_weight_30 fl_X11_38 (by decide) rfl (by decide) rfl ?_
      refine s_iload_n C dX11_weight_33 rfl ?_
      refine s_iload_n C dX11_weight_34 rfl ?_
      refine s_iastore (n := 4) C dX11_weight_35 (by decide) rfl rfl (by omega) (by omega) (by omega) (by omega) ?_
      refine s_aload_n C dX11_weight_36 rfl ?_
      refine s_iconst C dX11_weight_37 ?_
      refine s_putz (k := 32) (j := 32) C dX11_weight_38 fp_X11_176 (by decide) rfl rfl rfl (by decide) ?_
      refine s_iload_n C dX11_weight_41 rfl ?_
      exact s_ireturn C dX11_weight_42 (⟨_, rfl, Or.inr ⟨by omega, rfl, rfl⟩⟩)
    · skip
      refine s_bipush C dX11_weight_19 (by decide) ?_
      exact s_ireturn C dX11_weight_21 (⟨_, rfl, Or.inl ⟨by omega, rfl, rfl⟩⟩)

set_option maxRecDepth 20000 in
set_option maxHeartbeats 4000000 in
theorem ct_X11_allMay (E : Ev) (M : Mm) : Ct E yX11_allMay cX11_allMay 2 none 0 [zr E 66] M (pV (fun M' => M' = mfl M 92 600 0)) := by
  refine Ct.of (own := RX11) (lv0 := [some (zr E 66), none]) (by decide) rfl (Nat.le_of_ble_eq_true rfl) rfl (fun κ C => ?_)
  have L2 : ∀ (n9 : Nat) (k : Int) (hk : 0 ≤ k ∧ k ≤ 600) (hm : (600 - k).toNat < n9), Gm E κ (pV (fun M' => M' = mfl M 92 600 0)) 2 2 [some (zr E 66), some (zi k)] [] (mfl M 92 k 0) := by
    intro n9
    induction n9 with
    | zero => intro k  hk hm; exact absurd hm (Nat.not_lt_zero _)
    | succ n9 ih2 =>
      intro k  hk hm
      refine s_iload_n C dX11_allMay_2 rfl ?_
      refine s_sipush C dX11_allMay_3 (by decide) ?_
      refine s_icmp_ge (tgt := 22) C dX11_allMay_6 (by decide) (by omega) (by omega) (fun c6 => ?_) (fun c6 => ?_)
      · skip
        exact s_return C dX11_allMay_22 (⟨rfl, by rw [show k = 600 by omega]⟩)
      · skip
        refine s_aload_n C dX11_allMay_9 rfl ?_
        refine s_getr (k := 35) (b := 92) C dX11_allMay_10 fl_X11_90 (by decide) rfl (by decide) rfl ?_
        refine s_iload_n C dX11_allMay_13 rfl ?_
        refine s_iconst C dX11_allMay_14 ?_
        refine s_zastore (n := 600) C dX11_allMay_15 (by decide) rfl rfl (by omega) (by omega) (by omega) (by decide) ?_
        rw [mfl_s M 92 k 0 hk.1]
        refine s_iinc (lv' := [_, _]) C dX11_allMay_16 rfl (by decide) rfl rfl rfl ?_
        refine s_goto (tgt := 2) C dX11_allMay_19 (by decide) ?_
        exact ih2 _  (by first | assumption | omega) (by omega)
  refine s_iconst C dX11_allMay_0 ?_
  refine s_istore_n (lv' := [_, _]) C dX11_allMay_1 (by decide) rfl rfl ?_
  have h := L2 _ 0 (by omega) (Nat.lt_succ_self _)
  rw [mfl_0] at h
  exact h

set_option maxRecDepth 20000 in
set_option maxHeartbeats 4000000 in
theorem ct_X11_fix (E : Ev) (M : Mm) (d h : Int) (hd : 0 ≤ d ∧ d < 24) (hh : -1 ≤ h ∧ h < 24) (hn : 0 ≤ M 66 24 ∧ M 66 24 ≤ 24) : Ct E yX11_fix cX11_fix 4 none 0 [zr E 66, zi d, zi h] M (pV (fun M' => M' = fxM M d h (M 66 24 + 1))) := by
  refine Ct.of (own := RX11) (lv0 := [some (zr E 66), some (zi d), some (zi h), none]) (by decide) rfl (Nat.le_of_ble_eq_true rfl) rfl (fun κ C => ?_)
  have L2 : ∀ (n9 : Nat) (k : Int) (hk : 0 ≤ k ∧ k ≤ M 66 24 + 1) (hm : (M 66 24 + 1 - k).toNat < n9), Gm E κ (pV (fun M' => M' = fxM M d h (M 66 24 + 1))) 4 2 [some (zr E 66), some (zi d), some (zi h), some (zi k)] [] (fxM M d h k) := by
    intro n9
    induction n9 with
    | zero => intro k  hk hm; exact absurd hm (Nat.not_lt_zero _)
    | succ n9 ih2 =>
      intro k  hk hm
      have L33 : ∀  (hlt : k ≤ M 66 24), Gm E κ (pV (fun M' => M' = fxM M d h (M 66 24 + 1))) 4 33 [some (zr E 66), some (zi d), some (zi h), some (zi k)] [] (fxM M d h (k + 1)) := by
        intro   hlt
        refine s_iinc (lv' := [_, _, _, _]) C dX11_fix_33 rfl (by decide) rfl rfl rfl ?_
        refine s_goto (tgt := 2) C dX11_fix_36 (by decide) ?_
        exact ih2 _  (by first | assumption | omega) (by omega)
      refine s_iload_n C dX11_fix_2 rfl ?_
      refine s_aload_n C dX11_fix_3 rfl ?_
      refine s_geti (k := 24) (j := 24) (z := M 66 24) C dX11_fix_4 fl_X11_196 (by decide) rfl (by decide) rfl (by rw [fxM_ne (by decide)]) (fun r4 => ?_)
      refine s_icmp_gt (tgt := 39) C dX11_fix_7 (by decide) (by omega) (by omega) (fun c7 => ?_) (fun c7 => ?_)
      · skip
        exact s_return C dX11_fix_39 (⟨rfl, by rw [show k = M 66 24 + 1 by omega]⟩)
      · skip
        refine s_aload_n C dX11_fix_10 rfl ?_
        refine s_getr (k := 35) (b := 92) C dX11_fix_11 fl_X11_90 (by decide) rfl (by decide) rfl ?_
        refine s_bipush C dX11_fix_14 (by decide) ?_
        refine s_iload_n C dX11_fix_16 rfl ?_
        refine s_imul C dX11_fix_17 ?_
        refine s_iload_n C dX11_fix_18 rfl ?_
        refine s_iadd C dX11_fix_19 ?_
        refine s_iload_n C dX11_fix_20 rfl ?_
        refine s_iload_n C dX11_fix_21 rfl ?_
        refine s_iconst C dX11_fix_22 ?_
        refine s_iadd C dX11_fix_23 ?_
        refine s_icmp_eq (tgt := 31) C dX11_fix_24 (by decide) (by omega) (by omega) (fun c24 => ?_) (fun c24 => ?_)
        · skip
          refine s_iconst C dX11_fix_31 ?_
          refine s_zastore (n := 600) C dX11_fix_32 (by decide) rfl rfl (by omega) (by omega) (by omega) (by decide) ?_
          first
            | (rw [fxM_s M d h k 1 hk.1 (by rw [if_neg c24])]; exact L33 (by omega))
            | (rw [fxM_s M d h k 0 hk.1 (by rw [if_pos c24])]; exact L33 (by omega))
        · skip
          refine s_iconst C dX11_fix_27 ?_
          refine s_goto (tgt := 32) C dX11_fix_28 (by decide) ?_
          refine s_zastore (n := 600) C dX11_fix_32 (by decide) rfl rfl (by omega) (by omega) (by omega) (by decide) ?_
          first
            | (rw [fxM_s M d h k 1 hk.1 (by rw [if_neg c24])]; exact L33 (by omega))
            | (rw [fxM_s M d h k 0 hk.1 (by rw [if_pos c24])]; exact L33 (by omega))
  refine s_iconst C dX11_fix_0 ?_
  refine s_istore_n (lv' := [_, _, _, _]) C dX11_fix_1 (by decide) rfl rfl ?_
  have h := L2 _ 0 (by omega) (Nat.lt_succ_self _)
  rw [fxM_0] at h
  exact h

set_option maxRecDepth 20000 in
set_option maxHeartbeats 4000000 in
theorem ct_X11_hanging (E : Ev) (M : Mm) (h : Int) (hh : rg h) (hn : 0 ≤ M 66 24 ∧ M 66 24 ≤ 24) : Ct E yX11_hanging cX11_hanging 4 (some .int) 0 [zr E 66, zi h] M (pP M (fun z => z = bHu (M 95) h (M 66 24).toNat)) := by
  refine Ct.of (own := RX11) (lv0 := [some (zr E 66), some (zi h), none, none]) (by decide) rfl (Nat.le_of_ble_eq_true rfl) rfl (fun κ C => ?_)
  have L4 : ∀ (n9 : Nat) (k : Nat) (kk c : Int) (hkk : kk = (k : Int)) (hk : (k : Int) ≤ M 66 24) (hc : c = bHu (M 95) h k) (hm : (M 66 24 - kk).toNat < n9), Gm E κ (pP M (fun z => z = bHu (M 95) h (M 66 24).toNat)) 4 4 [some (zr E 66), some (zi h), some (zi c), some (zi kk)] [] M := by
    intro n9
    induction n9 with
    | zero => intro k kk c  hkk hk hc hm; exact absurd hm (Nat.not_lt_zero _)
    | succ n9 ih4 =>
      intro k kk c  hkk hk hc hm
      have L30 : ∀ (c2 : Int) (hlt : kk < M 66 24) (hc2 : c2 = bHu (M 95) h (k + 1)), Gm E κ (pP M (fun z => z = bHu (M 95) h (M 66 24).toNat)) 4 30 [some (zr E 66), some (zi h), some (zi c2), some (zi kk)] [] M := by
        intro c2  hlt hc2
        refine s_iinc (lv' := [_, _, _, _]) C dX11_hanging_30 rfl (by decide) rfl rfl rfl ?_
        refine s_goto (tgt := 4) C dX11_hanging_33 (by decide) ?_
        exact ih4 (k + 1) _ _ (by omega) (by omega) hc2 (by omega)
      refine s_iload_n C dX11_hanging_4 rfl ?_
      refine s_aload_n C dX11_hanging_5 rfl ?_
      refine s_geti (k := 24) (j := 24) C dX11_hanging_6 fl_X11_196 (by decide) rfl (by decide) rfl (rfl) (fun r6 => ?_)
      refine s_icmp_ge (tgt := 36) C dX11_hanging_9 (by decide) (by omega) (by omega) (fun c9 => ?_) (fun c9 => ?_)
      · skip
        refine s_iload_n C dX11_hanging_36 rfl ?_
        exact s_ireturn C dX11_hanging_37 (⟨_, rfl, rfl, by rw [hc, show k = (M 66 24).toNat by omega]⟩)
      · skip
        refine s_iload_n C dX11_hanging_12 rfl ?_
        refine s_aload_n C dX11_hanging_13 rfl ?_
        refine s_getr (k := 38) (b := 95) C dX11_hanging_14 fl_X11_100 (by decide) rfl (by decide) rfl ?_
        refine s_iload_n C dX11_hanging_17 rfl ?_
        refine s_iaload (n := 24) C dX11_hanging_18 (by decide) rfl rfl (by omega) (by omega) (by omega) (rfl) (fun r18 => ?_)
        refine s_iload_n C dX11_hanging_19 rfl ?_
        refine s_icmp_ne (tgt := 27) C dX11_hanging_20 (by decide) (by omega) (by omega) (fun c20 => ?_) (fun c20 => ?_)
        · skip
          refine s_iconst C dX11_hanging_27 ?_
          refine s_iadd C dX11_hanging_28 ?_
          refine s_istore_n (lv' := [_, _, _, _]) C dX11_hanging_29 (by decide) rfl rfl ?_
          exact L30 _  (by first | assumption | omega) (by unfold bHu at *; rw [cntB, ← hkk, hc]; simp [c20])
        · skip
          refine s_iconst C dX11_hanging_23 ?_
          refine s_goto (tgt := 28) C dX11_hanging_24 (by decide) ?_
          refine s_iadd C dX11_hanging_28 ?_
          refine s_istore_n (lv' := [_, _, _, _]) C dX11_hanging_29 (by decide) rfl rfl ?_
          exact L30 _  (by first | assumption | omega) (by unfold bHu at *; rw [cntB, ← hkk, hc]; simp [c20])
  refine s_iconst C dX11_hanging_0 ?_
  refine s_istore_n (lv' := [_, _, _, _]) C dX11_hanging_1 (by decide) rfl rfl ?_
  refine s_iconst C dX11_hanging_2 ?_
  refine s_istore_n (lv' := [_, _, _, _]) C dX11_hanging_3 (by decide) rfl rfl ?_
  exact L4 _ 0 0 0 rfl (by omega) rfl (Nat.lt_succ_self _)
