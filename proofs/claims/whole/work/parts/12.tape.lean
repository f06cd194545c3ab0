/-- the byte of v at the shift s -/
def byt (v s : Int) : Int := zand (zushr v s) 255
/-- j bytes of v are behind the tape -/
def mapp (M : Mm) (v j : Int) : Mm := fun b => if b = 1 then (fun k => if k = 1 then M 1 1 + j else M 1 k) else if b = 2 then (fun k => if M 1 1 ≤ k ∧ k < M 1 1 + j then byt v (24 - 8 * (k - M 1 1)) else M 2 k) else M b
theorem mapp_11 (M : Mm) (v j : Int) : mapp M v j 1 1 = M 1 1 + j := rfl
theorem mapp_2 (M : Mm) (v j k : Int) : mapp M v j 2 k = if M 1 1 ≤ k ∧ k < M 1 1 + j then byt v (24 - 8 * (k - M 1 1)) else M 2 k := rfl
theorem mapp_ne {M : Mm} {v j : Int} {a : Nat} (h1 : a ≠ 1) (h2 : a ≠ 2) : mapp M v j a = M a := by simp [mapp, h1, h2]
theorem mapp_0 (M : Mm) (v : Int) : mapp M v 0 = M := by
  funext b k
  simp only [mapp]
  by_cases h1 : b = 1
  · subst h1; simp only [if_pos]; split
    · next h => rw [h]; omega
    · rfl
  · rw [if_neg h1]
    by_cases h2 : b = 2
    · subst h2; rw [if_pos rfl, if_neg (by omega)]
    · rw [if_neg h2]
theorem mapp_s (M : Mm) (v j : Int) (hj : 0 ≤ j) : mput (mput (mapp M v j) 2 (M 1 1 + j) (byt v (24 - 8 * j))) 1 1 (M 1 1 + j + 1) = mapp M v (j + 1) := by
  funext b k
  by_cases h1 : b = 1
  · subst h1
    rw [mput_at]
    simp only [mapp, if_pos]
    split
    · omega
    · next h => first | (rw [mput_ne (by decide)]; simp [mapp, h]; done) | simp [mput, h]
  · rw [mput_ne h1]
    by_cases h2 : b = 2
    · subst h2
      rw [mput_at, mapp_2, mapp_2]
      by_cases hk : k = M 1 1 + j
      · rw [if_pos hk, if_pos (by omega), show k - M 1 1 = j by omega]
      · rw [if_neg hk]
        by_cases c : M 1 1 ≤ k ∧ k < M 1 1 + j
        · rw [if_pos c, if_pos (by omega)]
        · rw [if_neg c, if_neg (by omega)]
    · rw [mput_ne h2, mapp_ne h1 h2, mapp_ne h1 h2]
theorem rg_zand (x y : Int) : rg (zand x y) := rg_toInt _
/-- the tape is a word of at most L bytes -/
def tWd (M : Mm) (L : Int) : Prop := 1 ≤ M 1 1 ∧ M 1 1 ≤ L ∧ ∀ p, 0 ≤ p → p < M 1 1 → ofW (low (M 2 p))
theorem rg_low {x : Int} (h : rg x) : rg (low x) := by unfold low; split <;> omega
theorem mput_same (M : Mm) (a : Nat) (k : Int) : mput M a k (M a k) = M := by
  funext b j
  by_cases hb : b = a
  · subst hb; rw [mput_at]; split
    · next h => rw [h]
    · rfl
  · rw [mput_ne hb]

set_option maxRecDepth 20000 in
set_option maxHeartbeats 4000000 in
theorem ct_X7_append (E : Ev) (M : Mm) (v : Int) (hs : 0 ≤ M 1 1 ∧ M 1 1 ≤ 2996) : Ct E yX7_append cX7_append 3 none 0 [zr E 1, zi v] M (pV (fun M' => M' = mapp M v 4)) := by
  refine Ct.of (own := RX7) (lv0 := [some (zr E 1), some (zi v), none]) (by decide) rfl (Nat.le_of_ble_eq_true rfl) rfl (fun κ C => ?_)
  have L3 : ∀ (n9 : Nat) (j : Int) (hj : 0 ≤ j ∧ j ≤ 4) (hm : (4 - j).toNat < n9), Gm E κ (pV (fun M' => M' = mapp M v 4)) 3 3 [some (zr E 1), some (zi v), some (zi (24 - 8 * j))] [] (mapp M v j) := by
    intro n9
    induction n9 with
    | zero => intro j  hj hm; exact absurd hm (Nat.not_lt_zero _)
    | succ n9 ih3 =>
      intro j  hj hm
      refine s_iload_n C dX7_append_3 rfl ?_
      refine s_if_lt (tgt := 49) C dX7_append_4 (by decide) (by omega) (fun c4 => ?_) (fun c4 => ?_)
      · skip
        exact s_return C dX7_append_49 (⟨rfl, by rw [show j = 4 by omega]⟩)
      · skip
        refine s_aload_n C dX7_append_7 rfl ?_
        refine s_geti (k := 1) (j := 1) (z := M 1 1 + j) C dX7_append_8 fl_X7_15 (by decide) rfl (by decide) rfl (rfl) (fun r8 => ?_)
        refine s_sipush C dX7_append_11 (by decide) ?_
        refine s_icmp_ge (tgt := 43) C dX7_append_14 (by decide) (by omega) (by omega) (fun c14 => ?_) (fun c14 => ?_)
        · skip
          omega
        · skip
          refine s_aload_n C dX7_append_17 rfl ?_
          refine s_getr (k := 0) (b := 2) C dX7_append_18 fl_X7_9 (by decide) rfl (by decide) rfl ?_
          refine s_aload_n C dX7_append_21 rfl ?_
          refine s_geti (k := 1) (j := 1) (z := M 1 1 + j) C dX7_append_22 fl_X7_15 (by decide) rfl (by decide) rfl (rfl) (fun r22 => ?_)
          refine s_iload_n C dX7_append_25 rfl ?_
          refine s_iload_n C dX7_append_26 rfl ?_
          refine s_iushr C dX7_append_27 ?_
          refine s_sipush C dX7_append_28 (by decide) ?_
          refine s_iand C dX7_append_31 ?_
          refine s_iastore (n := 3000) C dX7_append_32 (by decide) rfl rfl (by omega) (by omega) (by omega) (rg_zand _ _) ?_
          refine s_aload_n C dX7_append_33 rfl ?_
          refine s_dup C dX7_append_34 rfl ?_
          refine s_geti (k := 1) (j := 1) (z := M 1 1 + j) C dX7_append_35 fl_X7_15 (by decide) rfl (by decide) rfl (rfl) (fun r35 => ?_)
          refine s_iconst C dX7_append_38 ?_
          refine s_iadd C dX7_append_39 ?_
          refine s_puti (k := 1) (j := 1) C dX7_append_40 fp_X7_15 (by decide) rfl rfl rfl (by omega) ?_
          rw [show mput (mput (mapp M v j) 2 (M 1 1 + j) (zand (zushr v (24 - 8 * j)) 255)) 1 1 (M 1 1 + j + 1) = mapp M v (j + 1) from mapp_s M v j hj.1]
          refine s_iinc (lv' := [_, _, _]) C dX7_append_43 rfl (by decide) rfl rfl rfl ?_
          rw [show 24 - 8 * j + -8 = 24 - 8 * (j + 1) by omega]
          refine s_goto (tgt := 3) C dX7_append_46 (by decide) ?_
          exact ih3 _  (by first | assumption | omega) (by omega)
  refine s_bipush C dX7_append_0 (by decide) ?_
  refine s_istore_n (lv' := [_, _, _]) C dX7_append_2 (by decide) rfl rfl ?_
  have h := L3 _ 0 (by omega) (Nat.lt_succ_self _)
  rw [mapp_0] at h
  exact h

set_option maxRecDepth 20000 in
set_option maxHeartbeats 4000000 in
theorem ct_X7_takeWord (E : Ev) (M : Mm) (L : Int) (hL : 0 ≤ L ∧ L ≤ 16) (hs : 0 ≤ M 1 1 ∧ M 1 1 ≤ 3000) : Ct E yX7_takeWord cX7_takeWord 4 (some .int) 1 [zr E 1, zi L] M (pI (fun z M' => Sm M M' [1, 2] ∧ M' 1 1 = 0 ∧ ((z = 0 ∧ ¬ tWd M L) ∨ (z = M 1 1 ∧ tWd M L ∧ ∀ p, 0 ≤ p → p < z → M' 2 p = low (M 2 p))))) := by
  refine Ct.of (own := RX7) (lv0 := [some (zr E 1), some (zi L), none, none]) (by decide) rfl (Nat.le_of_ble_eq_true rfl) rfl (fun κ C => ?_)
  have L26 : ∀ (n9 : Nat) (Mp : Mm) (p : Int) (hp : 0 ≤ p ∧ p ≤ M 1 1) (hle : M 1 1 ≤ L) (hSm : Sm M Mp [1, 2]) (h11 : Mp 1 1 = 0) (hlo : ∀ q, 0 ≤ q → q < p → Mp 2 q = low (M 2 q) ∧ ofW (low (M 2 q))) (hhi : ∀ q, p ≤ q → Mp 2 q = M 2 q) (hm : (M 1 1 - p).toNat < n9), Gm E κ (pI (fun z M' => Sm M M' [1, 2] ∧ M' 1 1 = 0 ∧ ((z = 0 ∧ ¬ tWd M L) ∨ (z = M 1 1 ∧ tWd M L ∧ ∀ p, 0 ≤ p → p < z → M' 2 p = low (M 2 p))))) 4 26 [some (zr E 1), some (zi L), some (zi (M 1 1)), some (zi p)] [] Mp := by
    intro n9
    induction n9 with
    | zero => intro Mp p  hp hle hSm h11 hlo hhi hm; exact absurd hm (Nat.not_lt_zero _)
    | succ n9 ih26 =>
      intro Mp p  hp hle hSm h11 hlo hhi hm
      refine s_iload_n C dX7_takeWord_26 rfl ?_
      refine s_iload_n C dX7_takeWord_27 rfl ?_
      refine s_icmp_ge (tgt := 66) C dX7_takeWord_28 (by decide) (by omega) (by omega) (fun c28 => ?_) (fun c28 => ?_)
      · skip
        refine s_iload_n C dX7_takeWord_66 rfl ?_
        exact s_ireturn C dX7_takeWord_67 (⟨_, rfl, hSm, h11, by
      by_cases c : M 1 1 = 0
      · exact Or.inl ⟨c, fun q => by have := q.1; omega⟩
      · exact Or.inr ⟨rfl, ⟨by omega, hle, fun q h1 h2 => (hlo q h1 (by omega)).2⟩, fun q h1 h2 => (hlo q h1 (by omega)).1⟩⟩)
      · skip
        refine s_aload_n C dX7_takeWord_31 rfl ?_
        refine s_getr (k := 0) (b := 2) C dX7_takeWord_32 fl_X7_9 (by decide) rfl (by decide) rfl ?_
        refine s_iload_n C dX7_takeWord_35 rfl ?_
        refine s_aload_n C dX7_takeWord_36 rfl ?_
        refine s_getr (k := 0) (b := 2) C dX7_takeWord_37 fl_X7_9 (by decide) rfl (by decide) rfl ?_
        refine s_iload_n C dX7_takeWord_40 rfl ?_
        refine s_iaload (n := 3000) (z := M 2 p) C dX7_takeWord_41 (by decide) rfl rfl (by omega) (by omega) (by omega) (hhi p (Int.le_refl p)) (fun r41 => ?_)
        refine s_callS1 C dX7_takeWord_42 cy_X10_smallLetter cs_X10_smallLetter lk_X7_19 (ct_X10_smallLetter E _ (M 2 p) (by omega)) (by decide) (Nat.le_of_ble_eq_true rfl) (k_P (fun z42 q42 => ?_))
        subst q42
        refine s_iastore (n := 3000) C dX7_takeWord_45 (by decide) rfl rfl (by omega) (by omega) (by omega) (rg_low (by omega)) ?_
        refine s_aload_n C dX7_takeWord_46 rfl ?_
        refine s_getr (k := 0) (b := 2) C dX7_takeWord_47 fl_X7_9 (by decide) rfl (by decide) rfl ?_
        refine s_iload_n C dX7_takeWord_50 rfl ?_
        refine s_iaload (n := 3000) (z := low (M 2 p)) C dX7_takeWord_51 (by decide) rfl rfl (by omega) (by omega) (by omega) (mput_eq) (fun r51 => ?_)
        refine s_callS1 C dX7_takeWord_52 cy_X10_isOfWords cs_X10_isOfWords lk_X7_23 (ct_X10_isOfWords E _ (low (M 2 p)) (by omega)) (by decide) (Nat.le_of_ble_eq_true rfl) (k_P (fun z52 q52 => ?_))
        refine s_if_ne (tgt := 60) C dX7_takeWord_55 (by decide) (by rcases q52 with q | q <;> omega) (fun c55 => ?_) (fun c55 => ?_)
        · skip
          refine s_iinc (lv' := [_, _, _, _]) C dX7_takeWord_60 rfl (by decide) rfl rfl rfl ?_
          refine s_goto (tgt := 26) C dX7_takeWord_63 (by decide) ?_
          exact ih26 _ _  (by first | assumption | omega) (by first | assumption | omega) (hSm.put (by decide)) (by rw [mput_ne (by decide)]; exact h11) (fun q h1 h2 => by
          by_cases c : q = p
          · subst c; rw [mput_eq]; exact ⟨rfl, by rcases q52 with ⟨_, g⟩ | ⟨g, _⟩; exact g; omega⟩
          · rw [mput_nk c]; exact hlo q h1 (by omega)) (fun q h => by rw [mput_nk (by omega)]; exact hhi q (by omega)) (by omega)
        · skip
          refine s_iconst C dX7_takeWord_58 ?_
          exact s_ireturn C dX7_takeWord_59 (⟨_, rfl, hSm.put (by decide), by rw [mput_ne (by decide)]; exact h11, Or.inl ⟨rfl, fun q => by rcases q52 with ⟨g, _⟩ | ⟨_, g⟩; omega; exact g (q.2.2 p hp.1 (by omega))⟩⟩)
  refine s_aload_n C dX7_takeWord_0 rfl ?_
  refine s_geti (k := 1) (j := 1) C dX7_takeWord_1 fl_X7_15 (by decide) rfl (by decide) rfl (rfl) (fun r1 => ?_)
  refine s_istore_n (lv' := [_, _, _, _]) C dX7_takeWord_4 (by decide) rfl rfl ?_
  refine s_aload_n C dX7_takeWord_5 rfl ?_
  refine s_iconst C dX7_takeWord_6 ?_
  refine s_puti (k := 1) (j := 1) C dX7_takeWord_7 fp_X7_15 (by decide) rfl rfl rfl (by omega) ?_
  refine s_iload_n C dX7_takeWord_10 rfl ?_
  refine s_iload_n C dX7_takeWord_11 rfl ?_
  refine s_icmp_gt (tgt := 22) C dX7_takeWord_12 (by decide) (by omega) (by omega) (fun c12 => ?_) (fun c12 => ?_)
  · skip
    refine s_iconst C dX7_takeWord_22 ?_
    exact s_ireturn C dX7_takeWord_23 (⟨_, rfl, (Sm.rf M _).put (by decide), mput_eq, Or.inl ⟨rfl, fun q => by have := q.2.1; omega⟩⟩)
  · skip
    refine s_iload_n C dX7_takeWord_15 rfl ?_
    refine s_sipush C dX7_takeWord_16 (by decide) ?_
    refine s_icmp_le (tgt := 24) C dX7_takeWord_19 (by decide) (by omega) (by omega) (fun c19 => ?_) (fun c19 => ?_)
    · skip
      refine s_iconst C dX7_takeWord_24 ?_
      refine s_istore_n (lv' := [_, _, _, _]) C dX7_takeWord_25 (by decide) rfl rfl ?_
      exact L26 _ _ _  (by first | assumption | omega) (by first | assumption | omega) ((Sm.rf M _).put (by decide)) (mput_eq) (fun q h1 h2 => by omega) (fun q h => by rw [mput_ne (by decide)]) (Nat.lt_succ_self _)
    · skip
      omega
