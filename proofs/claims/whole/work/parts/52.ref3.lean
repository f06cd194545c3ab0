theorem zb_id {x : Int} (h : -128 ≤ x ∧ x < 128) : zb x = x := by
  unfold zb
  rw [Int8.toInt_toInt32, Int32.toInt_toInt8, toInt_zi ⟨by omega, by omega⟩]
  exact Int.bmod_eq_of_le (by omega) (by omega)
theorem low_b {x : Int} (h : -128 ≤ x ∧ x < 128) : -128 ≤ low x ∧ low x < 128 := by unfold low; split <;> omega
/-- the reference's tape is a word -/
def mWd (M : Mm) (L : Int) : Prop := 1 ≤ M 66 1 ∧ M 66 1 ≤ L ∧ ∀ p, 0 ≤ p → p < M 66 1 → ofM (M 67 p)
/-- the reference's tape is taken -/
def mTk (M M' : Mm) : Prop := Sm M M' [66, 68] ∧ M' 66 1 = 0 ∧ ∀ k, k ≠ 1 → k ≠ 3 → M' 66 k = M 66 k

set_option maxRecDepth 20000 in
set_option maxHeartbeats 4000000 in
theorem ct_X11_takeWord (E : Ev) (M : Mm) (L : Int) (hL : 0 ≤ L ∧ L ≤ 16) (hs : 0 ≤ M 66 1 ∧ M 66 1 ≤ 3000) : Ct E yX11_takeWord cX11_takeWord 4 (some .boolean) 1 [zr E 66, zi L] M (pI (fun z M' => mTk M M' ∧ ((z = 0 ∧ ¬ mWd M L) ∨ (z = 1 ∧ mWd M L ∧ M' 66 3 = M 66 1 ∧ ∀ p, 0 ≤ p → p < M 66 1 → M' 68 p = low (M 67 p))))) := by
  refine Ct.of (own := RX11) (lv0 := [some (zr E 66), some (zi L), none, none]) (by decide) rfl (Nat.le_of_ble_eq_true rfl) rfl (fun κ C => ?_)
  have L23 : ∀ (n9 : Nat) (A : Mm) (p : Int) (hp : 0 ≤ p ∧ p ≤ M 66 1) (hn : 1 ≤ M 66 1 ∧ M 66 1 ≤ L) (hT : mTk M A) (hlo : ∀ q, 0 ≤ q → q < p → A 68 q = low (M 67 q) ∧ ofM (M 67 q)) (hm : (M 66 1 - p).toNat < n9), Gm E κ (pI (fun z M' => mTk M M' ∧ ((z = 0 ∧ ¬ mWd M L) ∨ (z = 1 ∧ mWd M L ∧ M' 66 3 = M 66 1 ∧ ∀ p, 0 ≤ p → p < M 66 1 → M' 68 p = low (M 67 p))))) 4 23 [some (zr E 66), some (zi L), some (zi (M 66 1)), some (zi p)] [] A := by
    intro n9
    induction n9 with
    | zero => intro A p  hp hn hT hlo hm; exact absurd hm (Nat.not_lt_zero _)
    | succ n9 ih23 =>
      intro A p  hp hn hT hlo hm
      have e67 : A 67 = M 67 := hT.1 67 (by decide)
      refine s_iload_n C dX11_takeWord_23 rfl ?_
      refine s_iload_n C dX11_takeWord_24 rfl ?_
      refine s_icmp_ge (tgt := 64) C dX11_takeWord_25 (by decide) (by omega) (by omega) (fun c25 => ?_) (fun c25 => ?_)
      · skip
        refine s_aload_n C dX11_takeWord_64 rfl ?_
        refine s_iload_n C dX11_takeWord_65 rfl ?_
        refine s_puti (k := 3) (j := 3) C dX11_takeWord_66 fp_X11_151 (by decide) rfl rfl rfl (by omega) ?_
        refine s_iconst C dX11_takeWord_69 ?_
        exact s_zreturn C dX11_takeWord_70 (by decide) (⟨_, rfl, ⟨hT.1.put (by decide), by rw [mput_nk (by decide)]; exact hT.2.1, fun k h1 h3 => by rw [mput_nk h3]; exact hT.2.2 k h1 h3⟩, Or.inr ⟨rfl, ⟨hn.1, hn.2, fun q h1 h2 => (hlo q h1 (by omega)).2⟩, mput_eq, fun q h1 h2 => by rw [mput_ne (by decide)]; exact (hlo q h1 (by omega)).1⟩⟩)
      · skip
        refine s_aload_n C dX11_takeWord_28 rfl ?_
        refine s_getr (k := 0) (b := 67) C dX11_takeWord_29 fl_X11_7 (by decide) rfl (by decide) rfl ?_
        refine s_iload_n C dX11_takeWord_32 rfl ?_
        refine s_baload (n := 3000) (z := M 67 p) C dX11_takeWord_33 (by decide) rfl rfl (by omega) (by omega) (by omega) (by rw [e67]) (fun r33 => ?_)
        refine s_callS1 C dX11_takeWord_34 cy_X11_isOfWord cs_X11_isOfWord lk_X11_143 (ct_X11_isOfWord E A (M 67 p) (by omega)) (by decide) (Nat.le_of_ble_eq_true rfl) (k_P (fun z34 q34 => ?_))
        refine s_if_ne (tgt := 42) C dX11_takeWord_37 (by decide) (by rcases q34 with ⟨g, _⟩ | ⟨g, _⟩ <;> omega) (fun c37 => ?_) (fun c37 => ?_)
        · skip
          refine s_aload_n C dX11_takeWord_42 rfl ?_
          refine s_getr (k := 2) (b := 68) C dX11_takeWord_43 fl_X11_13 (by decide) rfl (by decide) rfl ?_
          refine s_iload_n C dX11_takeWord_46 rfl ?_
          refine s_aload_n C dX11_takeWord_47 rfl ?_
          refine s_getr (k := 0) (b := 67) C dX11_takeWord_48 fl_X11_7 (by decide) rfl (by decide) rfl ?_
          refine s_iload_n C dX11_takeWord_51 rfl ?_
          refine s_baload (n := 3000) (z := M 67 p) C dX11_takeWord_52 (by decide) rfl rfl (by omega) (by omega) (by omega) (by rw [e67]) (fun r52 => ?_)
          refine s_callS1 C dX11_takeWord_53 cy_X11_small cs_X11_small lk_X11_147 (ct_X11_small E A (M 67 p) (by omega)) (by decide) (Nat.le_of_ble_eq_true rfl) (k_P (fun z53 q53 => ?_))
          subst q53
          refine s_i2b C dX11_takeWord_56 ?_
          rw [zb_id (low_b (by omega))]
          have hlb := low_b (x := M 67 p) (by omega)
          refine s_bastore (n := 16) C dX11_takeWord_57 (by decide) rfl rfl (by omega) (by omega) (by omega) (by omega) (by omega) ?_
          refine s_iinc (lv' := [_, _, _, _]) C dX11_takeWord_58 rfl (by decide) rfl rfl rfl ?_
          refine s_goto (tgt := 23) C dX11_takeWord_61 (by decide) ?_
          exact ih23 _ _  (by first | assumption | omega) (by first | assumption | omega) (⟨hT.1.put (by decide), by rw [mput_ne (by decide)]; exact hT.2.1, fun k h1 h3 => by rw [mput_ne (by decide)]; exact hT.2.2 k h1 h3⟩) (fun q h1 h2 => by
        by_cases c : q = p
        · subst c; rw [mput_eq]; exact ⟨rfl, by rcases q34 with ⟨_, g⟩ | ⟨g, _⟩; exact g; exact absurd g c37⟩
        · rw [mput_nk c]; exact hlo q h1 (by omega)) (by omega)
        · skip
          refine s_iconst C dX11_takeWord_40 ?_
          exact s_zreturn C dX11_takeWord_41 (by decide) (⟨_, rfl, hT, Or.inl ⟨rfl, fun q => by rcases q34 with ⟨g, _⟩ | ⟨_, g⟩; omega; exact g (q.2.2 p hp.1 (by omega))⟩⟩)
  refine s_aload_n C dX11_takeWord_0 rfl ?_
  refine s_geti (k := 1) (j := 1) C dX11_takeWord_1 fl_X11_136 (by decide) rfl (by decide) rfl (rfl) (fun r1 => ?_)
  refine s_istore_n (lv' := [_, _, _, _]) C dX11_takeWord_4 (by decide) rfl rfl ?_
  refine s_aload_n C dX11_takeWord_5 rfl ?_
  refine s_iconst C dX11_takeWord_6 ?_
  refine s_puti (k := 1) (j := 1) C dX11_takeWord_7 fp_X11_136 (by decide) rfl rfl rfl (by decide) ?_
  refine s_iload_n C dX11_takeWord_10 rfl ?_
  refine s_iconst C dX11_takeWord_11 ?_
  refine s_iload_n C dX11_takeWord_12 rfl ?_
  refine s_callS3 C dX11_takeWord_13 cy_X11_in cs_X11_in lk_X11_139 (ct_X11_in E _ (M 66 1) 1 L (by omega) (by decide) (by omega)) (by decide) (Nat.le_of_ble_eq_true rfl) (k_P (fun z13 q13 => ?_))
  have k13 : (z13 = 1 ∧ 1 ≤ M 66 1 ∧ M 66 1 ≤ L) ∨ (z13 = 0 ∧ ¬ (1 ≤ M 66 1 ∧ M 66 1 ≤ L)) := q13
  clear q13
  have hT0 : mTk M (mput M 66 1 0) := ⟨(Sm.rf M _).put (by decide), mput_eq, fun k h1 h3 => mput_nk h1⟩
  refine s_if_ne (tgt := 21) C dX11_takeWord_16 (by decide) (by omega) (fun c16 => ?_) (fun c16 => ?_)
  · skip
    refine s_iconst C dX11_takeWord_21 ?_
    refine s_istore_n (lv' := [_, _, _, _]) C dX11_takeWord_22 (by decide) rfl rfl ?_
    exact L23 _ _ _  (by first | assumption | omega) (by first | assumption | omega) (hT0) (fun q h1 h2 => by omega) (Nat.lt_succ_self _)
  · skip
    refine s_iconst C dX11_takeWord_19 ?_
    exact s_zreturn C dX11_takeWord_20 (by decide) (⟨_, rfl, hT0, Or.inl ⟨rfl, fun q => by have h1 := q.1; have h2 := q.2.1; omega⟩⟩)

set_option maxRecDepth 20000 in
set_option maxHeartbeats 4000000 in
theorem ct_X11_put (E : Ev) (x w : Nat) (hx : x < NID ∧ kd x = 22 ∧ x ≠ 68 ∧ x ≠ 66) (hw : w < NID ∧ kd w = 20 ∧ w ≠ 66) (hl : ln x < 20000 ∧ ln w < 20000) (M : Mm) (i : Int) (hi : 0 ≤ i ∧ i < (ln w : Int) ∧ 16 * i + 16 ≤ (ln x : Int)) (h3 : 0 ≤ M 66 3 ∧ M 66 3 ≤ 16) : Ct E yX11_put cX11_put 5 none 0 [zr E 66, zr E x, zr E w, zi i] M (pV (fun M' => M' = mput (mcopy M 68 0 x (16 * i) (M 66 3)) w i (M 66 3))) := by
  refine Ct.of (own := RX11) (lv0 := [some (zr E 66), some (zr E x), some (zr E w), some (zi i), none]) (by decide) rfl (Nat.le_of_ble_eq_true rfl) rfl (fun κ C => ?_)
  have L3 : ∀ (n9 : Nat) (k : Int) (hk : 0 ≤ k ∧ k ≤ M 66 3) (hm : (M 66 3 - k).toNat < n9), Gm E κ (pV (fun M' => M' = mput (mcopy M 68 0 x (16 * i) (M 66 3)) w i (M 66 3))) 5 3 [some (zr E 66), some (zr E x), some (zr E w), some (zi i), some (zi k)] [] (mcopy M 68 0 x (16 * i) k) := by
    intro n9
    induction n9 with
    | zero => intro k  hk hm; exact absurd hm (Nat.not_lt_zero _)
    | succ n9 ih3 =>
      intro k  hk hm
      have e66 : mcopy M 68 0 x (16 * i) k 66 = M 66 := mcopy_ne (by omega)
      have e68 : mcopy M 68 0 x (16 * i) k 68 = M 68 := mcopy_ne (by omega)
      refine s_iload C dX11_put_3 rfl ?_
      refine s_aload_n C dX11_put_5 rfl ?_
      refine s_geti (k := 3) (j := 3) (z := M 66 3) C dX11_put_6 fl_X11_151 (by decide) rfl (by decide) rfl (by rw [e66]) (fun r6 => ?_)
      refine s_icmp_ge (tgt := 34) C dX11_put_9 (by decide) (by omega) (by omega) (fun c9 => ?_) (fun c9 => ?_)
      · skip
        refine s_aload_n C dX11_put_34 rfl ?_
        refine s_iload_n C dX11_put_35 rfl ?_
        refine s_aload_n C dX11_put_36 rfl ?_
        refine s_geti (k := 3) (j := 3) (z := M 66 3) C dX11_put_37 fl_X11_151 (by decide) rfl (by decide) rfl (by rw [e66]) (fun r37 => ?_)
        refine s_iastore C dX11_put_40 (by first | exact hw.1 | exact hw.2.1) (by first | exact hw.1 | exact hw.2.1) rfl (by omega) (by omega) (by omega) (by omega) ?_
        exact s_return C dX11_put_41 (⟨rfl, by rw [show k = M 66 3 by omega]⟩)
      · skip
        refine s_aload_n C dX11_put_12 rfl ?_
        refine s_bipush C dX11_put_13 (by decide) ?_
        refine s_iload_n C dX11_put_15 rfl ?_
        refine s_imul C dX11_put_16 ?_
        refine s_iload C dX11_put_17 rfl ?_
        refine s_iadd C dX11_put_19 ?_
        refine s_aload_n C dX11_put_20 rfl ?_
        refine s_getr (k := 2) (b := 68) C dX11_put_21 fl_X11_13 (by decide) rfl (by decide) rfl ?_
        refine s_iload C dX11_put_24 rfl ?_
        refine s_baload (n := 16) (z := M 68 k) C dX11_put_26 (by decide) rfl rfl (by omega) (by omega) (by omega) (by rw [e68]) (fun r26 => ?_)
        refine s_bastore C dX11_put_27 (by first | exact hx.1 | exact hx.2.1) (by first | exact hx.1 | exact hx.2.1) rfl (by omega) (by omega) (by omega) (by omega) (by omega) ?_
        rw [show mput (mcopy M 68 0 x (16 * i) k) x (16 * i + k) (M 68 k) = mcopy M 68 0 x (16 * i) (k + 1) from by
          funext b q
          by_cases hb : b = x
          · subst hb
            rw [mput_at, mcopy_at, mcopy_at]
            by_cases hq : q = 16 * i + k
            · rw [if_pos hq, if_pos (by omega), show 0 + (q - 16 * i) = k by omega]
            · rw [if_neg hq]
              by_cases c : 16 * i ≤ q ∧ q < 16 * i + k
              · rw [if_pos c, if_pos (by omega)]
              · rw [if_neg c, if_neg (by omega)]
          · rw [mput_ne hb, mcopy_ne hb, mcopy_ne hb]]
        refine s_iinc (lv' := [_, _, _, _, _]) C dX11_put_28 rfl (by decide) rfl rfl rfl ?_
        refine s_goto (tgt := 3) C dX11_put_31 (by decide) ?_
        exact ih3 _  (by first | assumption | omega) (by omega)
  refine s_iconst C dX11_put_0 ?_
  refine s_istore (lv' := [_, _, _, _, _]) C dX11_put_1 (by decide) rfl rfl ?_
  have h := L3 _ 0 (by omega) (Nat.lt_succ_self _)
  rw [show mcopy M 68 0 x (16 * i) 0 = M from by
    funext b q
    by_cases hb : b = x
    · subst hb; rw [mcopy_at, if_neg (by omega)]
    · rw [mcopy_ne hb]] at h
  exact h
