/-- the last row of a table comes where one goes away: byte by byte -/
def tAw (M : Mm) (x : Nat) (i j k : Int) : Mm := fun b => if b = x then (fun q => if 16 * i ≤ q ∧ q < 16 * i + k then M x (16 * j + (q - 16 * i)) else M x q) else M b
theorem tAw_x (M : Mm) (x : Nat) (i j k q : Int) : tAw M x i j k x q = if 16 * i ≤ q ∧ q < 16 * i + k then M x (16 * j + (q - 16 * i)) else M x q := by simp [tAw]
theorem tAw_ne {M : Mm} {x a : Nat} {i j k : Int} (h : a ≠ x) : tAw M x i j k a = M a := by simp [tAw, h]

set_option maxRecDepth 20000 in
set_option maxHeartbeats 4000000 in
theorem ct_X11_takeAway (E : Ev) (x w : Nat) (hx : x < NID ∧ kd x = 22 ∧ x ≠ w) (hw : w < NID ∧ kd w = 20 ∧ w ≠ x) (hl : ln x < 20000 ∧ ln w < 20000) (M : Mm) (i j : Int) (hi : 0 ≤ i ∧ i ≤ j) (hj : j < (ln w : Int) ∧ 16 * j + 16 ≤ (ln x : Int)) : Ct E yX11_takeAway cX11_takeAway 5 none 0 [zr E x, zr E w, zi i, zi j] M (pV (fun M' => M' = mput (tAw M x i j 16) w i (M w j))) := by
  refine Ct.of (own := RX11) (lv0 := [some (zr E x), some (zr E w), some (zi i), some (zi j), none]) (by decide) rfl (Nat.le_of_ble_eq_true rfl) rfl (fun κ C => ?_)
  have L3 : ∀ (n9 : Nat) (k : Int) (hk : 0 ≤ k ∧ k ≤ 16) (hm : (16 - k).toNat < n9), Gm E κ (pV (fun M' => M' = mput (tAw M x i j 16) w i (M w j))) 5 3 [some (zr E x), some (zr E w), some (zi i), some (zi j), some (zi k)] [] (tAw M x i j k) := by
    intro n9
    induction n9 with
    | zero => intro k  hk hm; exact absurd hm (Nat.not_lt_zero _)
    | succ n9 ih3 =>
      intro k  hk hm
      have ew : tAw M x i j k w = M w := tAw_ne hw.2.2
      refine s_iload C dX11_takeAway_3 rfl ?_
      refine s_bipush C dX11_takeAway_5 (by decide) ?_
      refine s_icmp_ge (tgt := 34) C dX11_takeAway_7 (by decide) (by omega) (by omega) (fun c7 => ?_) (fun c7 => ?_)
      · skip
        refine s_aload_n C dX11_takeAway_34 rfl ?_
        refine s_iload_n C dX11_takeAway_35 rfl ?_
        refine s_aload_n C dX11_takeAway_36 rfl ?_
        refine s_iload_n C dX11_takeAway_37 rfl ?_
        refine s_iaload (z := M w j) C dX11_takeAway_38 (by first | exact hw.1 | exact hw.2.1) (by first | exact hw.1 | exact hw.2.1) rfl (by omega) (by omega) (by omega) (by rw [ew]) (fun r38 => ?_)
        refine s_iastore C dX11_takeAway_39 (by first | exact hw.1 | exact hw.2.1) (by first | exact hw.1 | exact hw.2.1) rfl (by omega) (by omega) (by omega) (by omega) ?_
        exact s_return C dX11_takeAway_40 (⟨rfl, by rw [show k = 16 by omega]⟩)
      · skip
        refine s_aload_n C dX11_takeAway_10 rfl ?_
        refine s_bipush C dX11_takeAway_11 (by decide) ?_
        refine s_iload_n C dX11_takeAway_13 rfl ?_
        refine s_imul C dX11_takeAway_14 ?_
        refine s_iload C dX11_takeAway_15 rfl ?_
        refine s_iadd C dX11_takeAway_17 ?_
        refine s_aload_n C dX11_takeAway_18 rfl ?_
        refine s_bipush C dX11_takeAway_19 (by decide) ?_
        refine s_iload_n C dX11_takeAway_21 rfl ?_
        refine s_imul C dX11_takeAway_22 ?_
        refine s_iload C dX11_takeAway_23 rfl ?_
        refine s_iadd C dX11_takeAway_25 ?_
        refine s_baload (z := M x (16 * j + k)) C dX11_takeAway_26 (by first | exact hx.1 | exact hx.2.1) (by first | exact hx.1 | exact hx.2.1) rfl (by omega) (by omega) (by omega) (by
    rw [tAw_x]
    by_cases c : 16 * i ≤ 16 * j + k ∧ 16 * j + k < 16 * i + k
    · exfalso; omega
    · rw [if_neg c]) (fun r26 => ?_)
        refine s_bastore C dX11_takeAway_27 (by first | exact hx.1 | exact hx.2.1) (by first | exact hx.1 | exact hx.2.1) rfl (by omega) (by omega) (by omega) (by omega) (by omega) ?_
        rw [show mput (tAw M x i j k) x (16 * i + k) (M x (16 * j + k)) = tAw M x i j (k + 1) from by
          funext b q
          by_cases hb : b = x
          · subst hb
            rw [mput_at, tAw_x, tAw_x]
            by_cases hq : q = 16 * i + k
            · rw [if_pos hq, if_pos (by omega), show 16 * j + (q - 16 * i) = 16 * j + k by omega]
            · rw [if_neg hq]
              by_cases c : 16 * i ≤ q ∧ q < 16 * i + k
              · rw [if_pos c, if_pos (by omega)]
              · rw [if_neg c, if_neg (by omega)]
          · rw [mput_ne hb, tAw_ne hb, tAw_ne hb]]
        refine s_iinc (lv' := [_, _, _, _, _]) C dX11_takeAway_28 rfl (by decide) rfl rfl rfl ?_
        refine s_goto (tgt := 3) C dX11_takeAway_31 (by decide) ?_
        exact ih3 _  (by first | assumption | omega) (by omega)
  refine s_iconst C dX11_takeAway_0 ?_
  refine s_istore (lv' := [_, _, _, _, _]) C dX11_takeAway_1 (by decide) rfl rfl ?_
  have h := L3 _ 0 (by omega) (Nat.lt_succ_self _)
  rw [show tAw M x i j 0 = M from by
    funext b q
    by_cases hb : b = x
    · subst hb; rw [tAw_x, if_neg (by omega)]
    · rw [tAw_ne hb]] at h
  exact h

set_option maxRecDepth 20000 in
set_option maxHeartbeats 4000000 in
theorem ct_X11_ordered (E : Ev) (M : Mm) (i : Int) (hi : rg i) (h7 : 0 ≤ M 66 52 ∧ M 66 52 ≤ 10) : Ct E yX11_ordered cX11_ordered 2 (some .int) 1 [zr E 66, zi i] M (pP M (fun z => z = if 0 ≤ i ∧ i < M 66 52 then M 104 i else -1)) := by
  refine Ct.of (own := RX11) (lv0 := [some (zr E 66), some (zi i)]) (by decide) rfl (Nat.le_of_ble_eq_true rfl) rfl (fun κ C => ?_)
  refine s_iload_n C dX11_ordered_0 rfl ?_
  refine s_iconst C dX11_ordered_1 ?_
  refine s_aload_n C dX11_ordered_2 rfl ?_
  refine s_geti (k := 52) (j := 52) C dX11_ordered_3 fl_X11_289 (by decide) rfl (by decide) rfl (rfl) (fun r3 => ?_)
  refine s_iconst C dX11_ordered_6 ?_
  refine s_isub C dX11_ordered_7 ?_
  refine s_callS3 C dX11_ordered_8 cy_X11_in cs_X11_in lk_X11_139 (ct_X11_in E M i 0 (M 66 52 - 1) hi (by decide) (by omega)) (by decide) (Nat.le_of_ble_eq_true rfl) (k_P (fun z8 q8 => ?_))
  have k8 : (z8 = 1 ∧ 0 ≤ i ∧ i ≤ M 66 52 - 1) ∨ (z8 = 0 ∧ ¬ (0 ≤ i ∧ i ≤ M 66 52 - 1)) := q8
  clear q8
  refine s_if_eq (tgt := 23) C dX11_ordered_11 (by decide) (by omega) (fun c11 => ?_) (fun c11 => ?_)
  · skip
    refine s_iconst C dX11_ordered_23 ?_
    exact s_ireturn C dX11_ordered_24 (⟨_, rfl, rfl, by first | (rw [if_pos (by omega)]; done) | (rw [if_neg (by omega)]; done)⟩)
  · skip
    refine s_aload_n C dX11_ordered_14 rfl ?_
    refine s_getr (k := 51) (b := 104) C dX11_ordered_15 fl_X11_127 (by decide) rfl (by decide) rfl ?_
    refine s_iload_n C dX11_ordered_18 rfl ?_
    refine s_iaload (n := 10) C dX11_ordered_19 (by decide) rfl rfl (by omega) (by omega) (by omega) (rfl) (fun r19 => ?_)
    refine s_goto (tgt := 24) C dX11_ordered_20 (by decide) ?_
    exact s_ireturn C dX11_ordered_24 (⟨_, rfl, rfl, by first | (rw [if_pos (by omega)]; done) | (rw [if_neg (by omega)]; done)⟩)
