/-- how many of 0 .. n - 1 are so -/
def cntB (f : Int → Bool) : Nat → Int
  | 0 => 0
  | n + 1 => cntB f n + (if f (n : Int) then 1 else 0)
theorem cntB_nn (f : Int → Bool) : ∀ n, 0 ≤ cntB f n ∧ cntB f n ≤ (n : Int) := by
  intro n
  induction n with
  | zero => simp [cntB]
  | succ n ih => rw [cntB]; split <;> omega
theorem cntB_le {f g : Int → Bool} : ∀ n : Nat, (∀ p : Int, 0 ≤ p → p < (n : Int) → g p = true → f p = true) → cntB g n ≤ cntB f n := by
  intro n
  induction n with
  | zero => intro _; simp [cntB]
  | succ n ih =>
    intro h
    have h1 := ih (fun p h1 h2 => h p h1 (by omega))
    have h2 := h (n : Int) (by omega) (by omega)
    rw [cntB, cntB]
    by_cases c : g (n : Int) = true
    · rw [if_pos c, if_pos (h2 c)]; omega
    · rw [if_neg c]; split <;> omega
theorem cntB_lt {f g : Int → Bool} : ∀ n : Nat, (∀ p : Int, 0 ≤ p → p < (n : Int) → g p = true → f p = true) → (∃ q : Int, 0 ≤ q ∧ q < (n : Int) ∧ f q = true ∧ g q = false) → cntB g n < cntB f n := by
  intro n
  induction n with
  | zero => intro _ ⟨q, h1, h2, _⟩; omega
  | succ n ih =>
    intro h ⟨q, q1, q2, q3, q4⟩
    have hle := cntB_le (f := f) (g := g) n (fun p h1 h2 => h p h1 (by omega))
    have h2 := h (n : Int) (by omega) (by omega)
    rw [cntB, cntB]
    by_cases c : q = (n : Int)
    · subst c
      rw [q3, q4]
      simp
      omega
    · have := ih (fun p h1 h2 => h p h1 (by omega)) ⟨q, q1, by omega, q3, q4⟩
      by_cases d : g (n : Int) = true
      · rw [if_pos d, if_pos (h2 d)]; omega
      · rw [if_neg d]; split <;> omega
theorem cntB_congr {f g : Int → Bool} : ∀ n : Nat, (∀ p : Int, 0 ≤ p → p < (n : Int) → g p = f p) → cntB g n = cntB f n := by
  intro n
  induction n with
  | zero => intro _; rfl
  | succ n ih =>
    intro h
    rw [cntB, cntB, ih (fun p h1 h2 => h p h1 (by omega)), h (n : Int) (by omega) (by omega)]
/-- places: the first n hold their own numbers -/
def plReset (M : Mm) (n j : Int) : Mm := fun b => if b = 40 then (fun k => if k = 2 then n else M 40 k) else if b = 41 then (fun k => if 0 ≤ k ∧ k < j then k else M 41 k) else M b
theorem plReset_ne {M : Mm} {n j : Int} {a : Nat} (h1 : a ≠ 40) (h2 : a ≠ 41) : plReset M n j a = M a := by simp [plReset, h1, h2]
theorem plReset_40 (M : Mm) (n j k : Int) : plReset M n j 40 k = if k = 2 then n else M 40 k := rfl
theorem plReset_41 (M : Mm) (n j k : Int) : plReset M n j 41 k = if 0 ≤ k ∧ k < j then k else M 41 k := rfl
theorem plReset_0 (M : Mm) (n : Int) : mput M 40 2 n = plReset M n 0 := by
  funext b k
  by_cases h1 : b = 40
  · subst h1; rw [mput_at, plReset_40]
  · rw [mput_ne h1]
    by_cases h2 : b = 41
    · subst h2; rw [plReset_41, if_neg (by omega)]
    · rw [plReset_ne h1 h2]
theorem plReset_s (M : Mm) (n j : Int) (hj : 0 ≤ j) : mput (plReset M n j) 41 j j = plReset M n (j + 1) := by
  funext b k
  by_cases h2 : b = 41
  · subst h2
    rw [mput_at, plReset_41, plReset_41]
    by_cases hk : k = j
    · rw [if_pos hk, if_pos (by omega), hk]
    · rw [if_neg hk]
      by_cases c : 0 ≤ k ∧ k < j
      · rw [if_pos c, if_pos (by omega)]
      · rw [if_neg c, if_neg (by omega)]
  · rw [mput_ne h2]
    by_cases h1 : b = 40
    · subst h1; rfl
    · rw [plReset_ne h1 h2, plReset_ne h1 h2]
def plPut (M : Mm) (first j : Int) : Mm := fun b => if b = 40 then (fun k => if k = 3 then M 40 3 + j else M 40 k) else if b = 42 then (fun k => if M 40 3 ≤ k ∧ k < M 40 3 + j then M 41 (first + (k - M 40 3)) else M 42 k) else M b
theorem plPut_ne {M : Mm} {f j : Int} {a : Nat} (h1 : a ≠ 40) (h2 : a ≠ 42) : plPut M f j a = M a := by simp [plPut, h1, h2]
theorem plPut_40 (M : Mm) (f j k : Int) : plPut M f j 40 k = if k = 3 then M 40 3 + j else M 40 k := rfl
theorem plPut_42 (M : Mm) (f j k : Int) : plPut M f j 42 k = if M 40 3 ≤ k ∧ k < M 40 3 + j then M 41 (f + (k - M 40 3)) else M 42 k := rfl
theorem plPut_0 (M : Mm) (f : Int) : plPut M f 0 = M := by
  funext b k
  by_cases h1 : b = 40
  · subst h1; rw [plPut_40]; split
    · next h => rw [h]; omega
    · rfl
  · by_cases h2 : b = 42
    · subst h2; rw [plPut_42, if_neg (by omega)]
    · rw [plPut_ne h1 h2]
theorem plPut_s (M : Mm) (f j : Int) (hj : 0 ≤ j) : mput (mput (plPut M f j) 42 (M 40 3 + j) (M 41 (f + j))) 40 3 (M 40 3 + j + 1) = plPut M f (j + 1) := by
  funext b k
  by_cases h1 : b = 40
  · subst h1
    rw [mput_at, mput_ne (by decide), plPut_40, plPut_40]
    by_cases hk : k = 3
    · rw [if_pos hk, if_pos hk]; omega
    · rw [if_neg hk, if_neg hk, if_neg hk]
  · rw [mput_ne h1]
    by_cases h2 : b = 42
    · subst h2
      rw [mput_at, plPut_42, plPut_42]
      by_cases hk : k = M 40 3 + j
      · rw [if_pos hk, if_pos (by omega), show k - M 40 3 = j by omega]
      · rw [if_neg hk]
        by_cases c : M 40 3 ≤ k ∧ k < M 40 3 + j
        · rw [if_pos c, if_pos (by omega)]
        · rw [if_neg c, if_neg (by omega)]
    · rw [mput_ne h2, plPut_ne h1 h2, plPut_ne h1 h2]
/-- b can be come to from a, by pairs -/
def Rch (f s : Int → Int) (m : Int) (a b : Int) : Prop := ∀ S : Int → Prop, S a → (∀ p, 0 ≤ p → p < m → S (f p) → S (s p)) → S b
theorem Rch.rf (f s : Int → Int) (m a : Int) : Rch f s m a a := fun _ h _ => h
theorem Rch.st {f s : Int → Int} {m a p : Int} (h : Rch f s m a (f p)) (h0 : 0 ≤ p) (h1 : p < m) : Rch f s m a (s p) := fun S ha hc => hc p h0 h1 (h S ha hc)
theorem zor_same {x k : Int} (hx : 0 ≤ x ∧ x < 2147483648) (hk : 0 ≤ k ∧ k < 31) (h : inS x k) : zor x (zshl 1 k) = x := by
  have h2 : (2 : Nat) ^ k.toNat < 2 ^ 31 := Nat.pow_lt_pow_right (by decide) (by omega)
  have e : zshl 1 k = ((2 ^ k.toNat : Nat) : Int) := by
    have := zshl1 k.toNat (by omega)
    rwa [Int.toNat_of_nonneg hk.1] at this
  rw [e, zor_n hx (by generalize 2 ^ k.toNat = P at *; omega), Int.toNat_natCast]
  have : x.toNat ||| 2 ^ k.toNat = x.toNat := by
    apply Nat.eq_of_testBit_eq
    intro j
    rw [Nat.testBit_or, Nat.testBit_two_pow]
    by_cases c : k.toNat = j
    · subst c; rw [show x.toNat.testBit k.toNat = true from h]; rfl
    · simp [c]
  rw [this]
  omega

set_option maxRecDepth 20000 in
set_option maxHeartbeats 4000000 in
theorem ct_X5_reset (E : Ev) (M : Mm) (n : Int) (hn : 0 ≤ n ∧ n ≤ 24) : Ct E yX5_reset cX5_reset 3 none 1 [zr E 40, zi n] M (pV (fun M' => M' = plReset M n n)) := by
  refine Ct.of (own := RX5) (lv0 := [some (zr E 40), some (zi n), none]) (by decide) rfl (Nat.le_of_ble_eq_true rfl) rfl (fun κ C => ?_)
  have L12 : ∀ (n9 : Nat) (j : Int) (hj : 0 ≤ j ∧ j ≤ n) (hm : (n - j).toNat < n9), Gm E κ (pV (fun M' => M' = plReset M n n)) 3 12 [some (zr E 40), some (zi n), some (zi j)] [] (plReset M n j) := by
    intro n9
    induction n9 with
    | zero => intro j  hj hm; exact absurd hm (Nat.not_lt_zero _)
    | succ n9 ih12 =>
      intro j  hj hm
      refine s_iload_n C dX5_reset_12 rfl ?_
      refine s_aload_n C dX5_reset_13 rfl ?_
      refine s_geti (k := 2) (j := 2) (z := n) C dX5_reset_14 fl_X5_24 (by decide) rfl (by decide) rfl (rfl) (fun r14 => ?_)
      refine s_icmp_ge (tgt := 33) C dX5_reset_17 (by decide) (by omega) (by omega) (fun c17 => ?_) (fun c17 => ?_)
      · skip
        exact s_return C dX5_reset_33 (⟨rfl, by rw [show j = n by omega]⟩)
      · skip
        refine s_aload_n C dX5_reset_20 rfl ?_
        refine s_getr (k := 0) (b := 41) C dX5_reset_21 fl_X5_9 (by decide) rfl (by decide) rfl ?_
        refine s_iload_n C dX5_reset_24 rfl ?_
        refine s_iload_n C dX5_reset_25 rfl ?_
        refine s_iastore (n := 24) C dX5_reset_26 (by decide) rfl rfl (by omega) (by omega) (by omega) (by omega) ?_
        rw [plReset_s M n j hj.1]
        refine s_iinc (lv' := [_, _, _]) C dX5_reset_27 rfl (by decide) rfl rfl rfl ?_
        refine s_goto (tgt := 12) C dX5_reset_30 (by decide) ?_
        exact ih12 _  (by first | assumption | omega) (by omega)
  refine s_aload_n C dX5_reset_0 rfl ?_
  refine s_iload_n C dX5_reset_1 rfl ?_
  refine s_bipush C dX5_reset_2 (by decide) ?_
  refine s_min C dX5_reset_4 lm_X5_18 js_min ji_Math jc_min (by decide) (Nat.le_of_ble_eq_true rfl) (by omega) (by omega) ?_
  refine s_top (z' := n) (by omega) ?_
  refine s_puti (k := 2) (j := 2) C dX5_reset_7 fp_X5_24 (by decide) rfl rfl rfl (by omega) ?_
  refine s_iconst C dX5_reset_10 ?_
  refine s_istore_n (lv' := [_, _, _]) C dX5_reset_11 (by decide) rfl rfl ?_
  rw [plReset_0]
  exact L12 _ 0 (by omega) (Nat.lt_succ_self _)

set_option maxRecDepth 20000 in
set_option maxHeartbeats 4000000 in
theorem ct_X5_placeOf (E : Ev) (M : Mm) (d : Int) (hd : rg d) (hs : 0 ≤ M 40 2 ∧ M 40 2 ≤ 24) : Ct E yX5_placeOf cX5_placeOf 3 (some .int) 0 [zr E 40, zi d] M (pP M (fun z => (z = -1 ∧ ∀ i, 0 ≤ i → i < M 40 2 → M 41 i ≠ d) ∨ (0 ≤ z ∧ z < M 40 2 ∧ M 41 z = d))) := by
  refine Ct.of (own := RX5) (lv0 := [some (zr E 40), some (zi d), none]) (by decide) rfl (Nat.le_of_ble_eq_true rfl) rfl (fun κ C => ?_)
  have L2 : ∀ (n9 : Nat) (j : Int) (hj : 0 ≤ j ∧ j ≤ M 40 2) (hno : ∀ i, 0 ≤ i → i < j → M 41 i ≠ d) (hm : (M 40 2 - j).toNat < n9), Gm E κ (pP M (fun z => (z = -1 ∧ ∀ i, 0 ≤ i → i < M 40 2 → M 41 i ≠ d) ∨ (0 ≤ z ∧ z < M 40 2 ∧ M 41 z = d))) 3 2 [some (zr E 40), some (zi d), some (zi j)] [] M := by
    intro n9
    induction n9 with
    | zero => intro j  hj hno hm; exact absurd hm (Nat.not_lt_zero _)
    | succ n9 ih2 =>
      intro j  hj hno hm
      refine s_iload_n C dX5_placeOf_2 rfl ?_
      refine s_aload_n C dX5_placeOf_3 rfl ?_
      refine s_geti (k := 2) (j := 2) C dX5_placeOf_4 fl_X5_24 (by decide) rfl (by decide) rfl (rfl) (fun r4 => ?_)
      refine s_icmp_ge (tgt := 28) C dX5_placeOf_7 (by decide) (by omega) (by omega) (fun c7 => ?_) (fun c7 => ?_)
      · skip
        refine s_iconst C dX5_placeOf_28 ?_
        exact s_ireturn C dX5_placeOf_29 (⟨_, rfl, rfl, Or.inl ⟨rfl, fun i h1 h2 => hno i h1 (by omega)⟩⟩)
      · skip
        refine s_aload_n C dX5_placeOf_10 rfl ?_
        refine s_getr (k := 0) (b := 41) C dX5_placeOf_11 fl_X5_9 (by decide) rfl (by decide) rfl ?_
        refine s_iload_n C dX5_placeOf_14 rfl ?_
        refine s_iaload (n := 24) C dX5_placeOf_15 (by decide) rfl rfl (by omega) (by omega) (by omega) (rfl) (fun r15 => ?_)
        refine s_iload_n C dX5_placeOf_16 rfl ?_
        refine s_icmp_ne (tgt := 22) C dX5_placeOf_17 (by decide) (by omega) (by omega) (fun c17 => ?_) (fun c17 => ?_)
        · skip
          refine s_iinc (lv' := [_, _, _]) C dX5_placeOf_22 rfl (by decide) rfl rfl rfl ?_
          refine s_goto (tgt := 2) C dX5_placeOf_25 (by decide) ?_
          exact ih2 _  (by first | assumption | omega) (fun i h1 h2 => by
        by_cases c : i = j
        · rw [c]; exact c17
        · exact hno i h1 (by omega)) (by omega)
        · skip
          refine s_iload_n C dX5_placeOf_20 rfl ?_
          exact s_ireturn C dX5_placeOf_21 (⟨_, rfl, rfl, Or.inr ⟨hj.1, by omega, c17⟩⟩)
  refine s_iconst C dX5_placeOf_0 ?_
  refine s_istore_n (lv' := [_, _, _]) C dX5_placeOf_1 (by decide) rfl rfl ?_
  exact L2 _ _  (by first | assumption | omega) (fun i h1 h2 => by omega) (Nat.lt_succ_self _)

set_option maxRecDepth 20000 in
set_option maxHeartbeats 4000000 in
theorem ct_X5_start (E : Ev) (M : Mm) (p : Int) (hp : rg p) (hs : 0 ≤ M 40 2 ∧ M 40 2 ≤ 24) : Ct E yX5_start cX5_start 2 none 1 [zr E 40, zi p] M (pV (fun M' => M' = mput (mcopy M 41 0 42 0 (M 40 2)) 40 3 p)) := by
  refine Ct.of (own := RX5) (lv0 := [some (zr E 40), some (zi p)]) (by decide) rfl (Nat.le_of_ble_eq_true rfl) rfl (fun κ C => ?_)
  refine s_aload_n C dX5_start_0 rfl ?_
  refine s_getr (k := 0) (b := 41) C dX5_start_1 fl_X5_9 (by decide) rfl (by decide) rfl ?_
  refine s_iconst C dX5_start_4 ?_
  refine s_aload_n C dX5_start_5 rfl ?_
  refine s_getr (k := 1) (b := 42) C dX5_start_6 fl_X5_15 (by decide) rfl (by decide) rfl ?_
  refine s_iconst C dX5_start_9 ?_
  refine s_aload_n C dX5_start_10 rfl ?_
  refine s_geti (k := 2) (j := 2) C dX5_start_11 fl_X5_24 (by decide) rfl (by decide) rfl (rfl) (fun r11 => ?_)
  refine s_copy (n0 := 24) (n1 := 24) C dX5_start_14 lm_X5_28 jn_arraycopy js_arraycopy ji_System (by decide) (Nat.le_of_ble_eq_true rfl) (by decide) rfl rfl (by decide) rfl rfl (by omega) (by omega) (by omega) (by omega) (by omega) (by decide) (by decide) ?_
  refine s_aload_n C dX5_start_17 rfl ?_
  refine s_iload_n C dX5_start_18 rfl ?_
  refine s_puti (k := 3) (j := 3) C dX5_start_19 fp_X5_34 (by decide) rfl rfl rfl (by omega) ?_
  exact s_return C dX5_start_22 (⟨rfl, rfl⟩)

set_option maxRecDepth 20000 in
set_option maxHeartbeats 4000000 in
theorem ct_X5_put (E : Ev) (M : Mm) (f n : Int) (hn : 0 ≤ n) (hs : M 40 2 ≤ 24) (h3 : 0 ≤ M 40 3 ∧ M 40 3 + n ≤ M 40 2) (hf : 0 ≤ f ∧ f + n ≤ M 40 2) : Ct E yX5_put cX5_put 4 none 0 [zr E 40, zi f, zi n] M (pV (fun M' => M' = plPut M f n)) := by
  refine Ct.of (own := RX5) (lv0 := [some (zr E 40), some (zi f), some (zi n), none]) (by decide) rfl (Nat.le_of_ble_eq_true rfl) rfl (fun κ C => ?_)
  have L2 : ∀ (n9 : Nat) (j : Int) (hj : 0 ≤ j ∧ j ≤ n) (hm : (n - j).toNat < n9), Gm E κ (pV (fun M' => M' = plPut M f n)) 4 2 [some (zr E 40), some (zi f), some (zi n), some (zi j)] [] (plPut M f j) := by
    intro n9
    induction n9 with
    | zero => intro j  hj hm; exact absurd hm (Nat.not_lt_zero _)
    | succ n9 ih2 =>
      intro j  hj hm
      refine s_iload_n C dX5_put_2 rfl ?_
      refine s_iload_n C dX5_put_3 rfl ?_
      refine s_icmp_ge (tgt := 72) C dX5_put_4 (by decide) (by omega) (by omega) (fun c4 => ?_) (fun c4 => ?_)
      · skip
        exact s_return C dX5_put_72 (⟨rfl, by rw [show j = n by omega]⟩)
      · skip
        refine s_aload_n C dX5_put_7 rfl ?_
        refine s_geti (k := 3) (j := 3) (z := M 40 3 + j) C dX5_put_8 fl_X5_34 (by decide) rfl (by decide) rfl (rfl) (fun r8 => ?_)
        refine s_if_lt (tgt := 66) C dX5_put_11 (by decide) (by omega) (fun c11 => ?_) (fun c11 => ?_)
        · skip
          omega
        · skip
          refine s_aload_n C dX5_put_14 rfl ?_
          refine s_geti (k := 3) (j := 3) (z := M 40 3 + j) C dX5_put_15 fl_X5_34 (by decide) rfl (by decide) rfl (rfl) (fun r15 => ?_)
          refine s_aload_n C dX5_put_18 rfl ?_
          refine s_geti (k := 2) (j := 2) (z := M 40 2) C dX5_put_19 fl_X5_24 (by decide) rfl (by decide) rfl (rfl) (fun r19 => ?_)
          refine s_icmp_ge (tgt := 66) C dX5_put_22 (by decide) (by omega) (by omega) (fun c22 => ?_) (fun c22 => ?_)
          · skip
            omega
          · skip
            refine s_iload_n C dX5_put_25 rfl ?_
            refine s_if_lt (tgt := 66) C dX5_put_26 (by decide) (by omega) (fun c26 => ?_) (fun c26 => ?_)
            · skip
              omega
            · skip
              refine s_iload_n C dX5_put_29 rfl ?_
              refine s_iload_n C dX5_put_30 rfl ?_
              refine s_iadd C dX5_put_31 ?_
              refine s_aload_n C dX5_put_32 rfl ?_
              refine s_geti (k := 2) (j := 2) (z := M 40 2) C dX5_put_33 fl_X5_24 (by decide) rfl (by decide) rfl (rfl) (fun r33 => ?_)
              refine s_icmp_ge (tgt := 66) C dX5_put_36 (by decide) (by omega) (by omega) (fun c36 => ?_) (fun c36 => ?_)
              · skip
                omega
              · skip
                refine s_aload_n C dX5_put_39 rfl ?_
                refine s_getr (k := 1) (b := 42) C dX5_put_40 fl_X5_15 (by decide) rfl (by decide) rfl ?_
                refine s_aload_n C dX5_put_43 rfl ?_
                refine s_geti (k := 3) (j := 3) (z := M 40 3 + j) C dX5_put_44 fl_X5_34 (by decide) rfl (by decide) rfl (rfl) (fun r44 => ?_)
                refine s_aload_n C dX5_put_47 rfl ?_
                refine s_getr (k := 0) (b := 41) C dX5_put_48 fl_X5_9 (by decide) rfl (by decide) rfl ?_
                refine s_iload_n C dX5_put_51 rfl ?_
                refine s_iload_n C dX5_put_52 rfl ?_
                refine s_iadd C dX5_put_53 ?_
                refine s_iaload (n := 24) (z := M 41 (f + j)) C dX5_put_54 (by decide) rfl rfl (by omega) (by omega) (by omega) (rfl) (fun r54 => ?_)
                refine s_iastore (n := 24) C dX5_put_55 (by decide) rfl rfl (by omega) (by omega) (by omega) (by omega) ?_
                refine s_aload_n C dX5_put_56 rfl ?_
                refine s_dup C dX5_put_57 rfl ?_
                refine s_geti (k := 3) (j := 3) (z := M 40 3 + j) C dX5_put_58 fl_X5_34 (by decide) rfl (by decide) rfl (rfl) (fun r58 => ?_)
                refine s_iconst C dX5_put_61 ?_
                refine s_iadd C dX5_put_62 ?_
                refine s_puti (k := 3) (j := 3) C dX5_put_63 fp_X5_34 (by decide) rfl rfl rfl (by omega) ?_
                rw [plPut_s M f j hj.1]
                refine s_iinc (lv' := [_, _, _, _]) C dX5_put_66 rfl (by decide) rfl rfl rfl ?_
                refine s_goto (tgt := 2) C dX5_put_69 (by decide) ?_
                exact ih2 _  (by first | assumption | omega) (by omega)
  refine s_iconst C dX5_put_0 ?_
  refine s_istore_n (lv' := [_, _, _, _]) C dX5_put_1 (by decide) rfl rfl ?_
  have h := L2 _ 0 (by omega) (Nat.lt_succ_self _)
  rw [plPut_0] at h
  exact h

set_option maxRecDepth 20000 in
set_option maxHeartbeats 4000000 in
theorem ct_X5_take (E : Ev) (M : Mm) (hs : 0 ≤ M 40 2 ∧ M 40 2 ≤ 24) : Ct E yX5_take cX5_take 3 (some .int) 0 [zr E 40] M (pI (fun z M' => z = cntB (fun i => M 41 i != M 42 i) (M 40 2).toNat ∧ M' = mcopy M 42 0 41 0 (M 40 2))) := by
  refine Ct.of (own := RX5) (lv0 := [some (zr E 40), none, none]) (by decide) rfl (Nat.le_of_ble_eq_true rfl) rfl (fun κ C => ?_)
  have L4 : ∀ (n9 : Nat) (k : Nat) (c i : Int) (hi : i = (k : Int)) (hk : (k : Int) ≤ M 40 2) (hc : c = cntB (fun i => M 41 i != M 42 i) k) (hm : (M 40 2 - i).toNat < n9), Gm E κ (pI (fun z M' => z = cntB (fun i => M 41 i != M 42 i) (M 40 2).toNat ∧ M' = mcopy M 42 0 41 0 (M 40 2))) 3 4 [some (zr E 40), some (zi c), some (zi i)] [] (mcopy M 42 0 41 0 (k : Int)) := by
    intro n9
    induction n9 with
    | zero => intro k c i  hi hk hc hm; exact absurd hm (Nat.not_lt_zero _)
    | succ n9 ih4 =>
      intro k c i  hi hk hc hm
      have hnn := cntB_nn (fun i => M 41 i != M 42 i) k
      have e41 : mcopy M 42 0 41 0 (k : Int) 41 i = M 41 i := by rw [mcopy_at, if_neg (by omega)]
      have L30 : ∀ (c2 : Int) (hlt : i < M 40 2) (hc2 : c2 = cntB (fun i => M 41 i != M 42 i) (k + 1)), Gm E κ (pI (fun z M' => z = cntB (fun i => M 41 i != M 42 i) (M 40 2).toNat ∧ M' = mcopy M 42 0 41 0 (M 40 2))) 3 30 [some (zr E 40), some (zi c2), some (zi i)] [] (mcopy M 42 0 41 0 (k : Int)) := by
        intro c2  hlt hc2
        refine s_aload_n C dX5_take_30 rfl ?_
        refine s_getr (k := 0) (b := 41) C dX5_take_31 fl_X5_9 (by decide) rfl (by decide) rfl ?_
        refine s_iload_n C dX5_take_34 rfl ?_
        refine s_aload_n C dX5_take_35 rfl ?_
        refine s_getr (k := 1) (b := 42) C dX5_take_36 fl_X5_15 (by decide) rfl (by decide) rfl ?_
        refine s_iload_n C dX5_take_39 rfl ?_
        refine s_iaload (n := 24) (z := M 42 i) C dX5_take_40 (by decide) rfl rfl (by omega) (by omega) (by omega) (by rw [mcopy_ne (by decide)]) (fun r40 => ?_)
        refine s_iastore (n := 24) C dX5_take_41 (by decide) rfl rfl (by omega) (by omega) (by omega) (by omega) ?_
        rw [show mput (mcopy M 42 0 41 0 (k : Int)) 41 i (M 42 i) = mcopy M 42 0 41 0 ((k + 1 : Nat) : Int) from by
          funext b q
          by_cases hb : b = 41
          · subst hb
            rw [mput_at, mcopy_at, mcopy_at]
            by_cases hq : q = i
            · rw [if_pos hq, if_pos (by omega), show 0 + (q - 0) = i by omega]
            · rw [if_neg hq]
              by_cases c : 0 ≤ q ∧ q < 0 + (k : Int)
              · rw [if_pos c, if_pos (by omega)]
              · rw [if_neg c, if_neg (by omega)]
          · rw [mput_ne hb, mcopy_ne hb, mcopy_ne hb]]
        refine s_iinc (lv' := [_, _, _]) C dX5_take_42 rfl (by decide) rfl rfl rfl ?_
        refine s_goto (tgt := 4) C dX5_take_45 (by decide) ?_
        exact ih4 (k + 1) _ _ (by omega) (by omega) hc2 (by omega)
      refine s_iload_n C dX5_take_4 rfl ?_
      refine s_aload_n C dX5_take_5 rfl ?_
      refine s_geti (k := 2) (j := 2) (z := M 40 2) C dX5_take_6 fl_X5_24 (by decide) rfl (by decide) rfl (by rw [mcopy_ne (by decide)]) (fun r6 => ?_)
      refine s_icmp_ge (tgt := 48) C dX5_take_9 (by decide) (by omega) (by omega) (fun c9 => ?_) (fun c9 => ?_)
      · skip
        refine s_iload_n C dX5_take_48 rfl ?_
        exact s_ireturn C dX5_take_49 (⟨_, rfl, by rw [hc, show k = (M 40 2).toNat by omega], by rw [show (k : Int) = M 40 2 by omega]⟩)
      · skip
        refine s_aload_n C dX5_take_12 rfl ?_
        refine s_getr (k := 0) (b := 41) C dX5_take_13 fl_X5_9 (by decide) rfl (by decide) rfl ?_
        refine s_iload_n C dX5_take_16 rfl ?_
        refine s_iaload (n := 24) (z := M 41 i) C dX5_take_17 (by decide) rfl rfl (by omega) (by omega) (by omega) (e41) (fun r17 => ?_)
        refine s_aload_n C dX5_take_18 rfl ?_
        refine s_getr (k := 1) (b := 42) C dX5_take_19 fl_X5_15 (by decide) rfl (by decide) rfl ?_
        refine s_iload_n C dX5_take_22 rfl ?_
        refine s_iaload (n := 24) (z := M 42 i) C dX5_take_23 (by decide) rfl rfl (by omega) (by omega) (by omega) (by rw [mcopy_ne (by decide)]) (fun r23 => ?_)
        refine s_icmp_eq (tgt := 30) C dX5_take_24 (by decide) (by omega) (by omega) (fun c24 => ?_) (fun c24 => ?_)
        · skip
          exact L30 _  (by first | assumption | omega) (by rw [cntB, ← hi, hc]; simp [c24])
        · skip
          refine s_iinc (lv' := [_, _, _]) C dX5_take_27 rfl (by decide) rfl rfl rfl ?_
          exact L30 _  (by first | assumption | omega) (by rw [cntB, ← hi, hc]; simp [c24])
  refine s_iconst C dX5_take_0 ?_
  refine s_istore_n (lv' := [_, _, _]) C dX5_take_1 (by decide) rfl rfl ?_
  refine s_iconst C dX5_take_2 ?_
  refine s_istore_n (lv' := [_, _, _]) C dX5_take_3 (by decide) rfl rfl ?_
  have h := L4 _ 0 0 0 rfl (by omega) rfl (Nat.lt_succ_self _)
  rw [show mcopy M 42 0 41 0 ((0 : Nat) : Int) = M from by
    funext b q
    by_cases hb : b = 41
    · subst hb; rw [mcopy_at, if_neg (by omega)]
    · rw [mcopy_ne hb]] at h
  exact h

set_option maxRecDepth 20000 in
set_option maxHeartbeats 4000000 in
theorem ct_X4_has (E : Ev) (M : Mm) (a b : Int) (ha : rg a) (hb : rg b) (hs : 0 ≤ M 55 2 ∧ M 55 2 ≤ 20) : Ct E yX4_has cX4_has 4 (some .boolean) 0 [zr E 55, zi a, zi b] M (pP M (fun z => Bz z (∃ p, 0 ≤ p ∧ p < M 55 2 ∧ M 56 p = a ∧ M 57 p = b))) := by
  refine Ct.of (own := RX4) (lv0 := [some (zr E 55), some (zi a), some (zi b), none]) (by decide) rfl (Nat.le_of_ble_eq_true rfl) rfl (fun κ C => ?_)
  have L2 : ∀ (n9 : Nat) (j : Int) (hj : 0 ≤ j ∧ j ≤ M 55 2) (hno : ∀ i, 0 ≤ i → i < j → ¬ (M 56 i = a ∧ M 57 i = b)) (hm : (M 55 2 - j).toNat < n9), Gm E κ (pP M (fun z => Bz z (∃ p, 0 ≤ p ∧ p < M 55 2 ∧ M 56 p = a ∧ M 57 p = b))) 4 2 [some (zr E 55), some (zi a), some (zi b), some (zi j)] [] M := by
    intro n9
    induction n9 with
    | zero => intro j  hj hno hm; exact absurd hm (Nat.not_lt_zero _)
    | succ n9 ih2 =>
      intro j  hj hno hm
      have L32 : ∀  (hlt : j < M 55 2) (hn1 : ¬ (M 56 j = a ∧ M 57 j = b)), Gm E κ (pP M (fun z => Bz z (∃ p, 0 ≤ p ∧ p < M 55 2 ∧ M 56 p = a ∧ M 57 p = b))) 4 32 [some (zr E 55), some (zi a), some (zi b), some (zi j)] [] M := by
        intro   hlt hn1
        refine s_iinc (lv' := [_, _, _, _]) C dX4_has_32 rfl (by decide) rfl rfl rfl ?_
        refine s_goto (tgt := 2) C dX4_has_35 (by decide) ?_
        exact ih2 _  (by first | assumption | omega) (fun i h1 h2 => by
        by_cases c : i = j
        · rw [c]; exact hn1
        · exact hno i h1 (by omega)) (by omega)
      refine s_iload_n C dX4_has_2 rfl ?_
      refine s_aload_n C dX4_has_3 rfl ?_
      refine s_geti (k := 2) (j := 2) C dX4_has_4 fl_X4_18 (by decide) rfl (by decide) rfl (rfl) (fun r4 => ?_)
      refine s_icmp_ge (tgt := 38) C dX4_has_7 (by decide) (by omega) (by omega) (fun c7 => ?_) (fun c7 => ?_)
      · skip
        refine s_iconst C dX4_has_38 ?_
        exact s_zreturn C dX4_has_39 (by decide) (⟨_, rfl, rfl, Bz.f (fun ⟨p, h1, h2, h3⟩ => hno p h1 (by omega) h3)⟩)
      · skip
        refine s_aload_n C dX4_has_10 rfl ?_
        refine s_getr (k := 0) (b := 56) C dX4_has_11 fl_X4_9 (by decide) rfl (by decide) rfl ?_
        refine s_iload_n C dX4_has_14 rfl ?_
        refine s_iaload (n := 20) C dX4_has_15 (by decide) rfl rfl (by omega) (by omega) (by omega) (rfl) (fun r15 => ?_)
        refine s_iload_n C dX4_has_16 rfl ?_
        refine s_icmp_ne (tgt := 32) C dX4_has_17 (by decide) (by omega) (by omega) (fun c17 => ?_) (fun c17 => ?_)
        · skip
          exact L32   (by first | assumption | omega) (fun q => c17 q.1)
        · skip
          refine s_aload_n C dX4_has_20 rfl ?_
          refine s_getr (k := 1) (b := 57) C dX4_has_21 fl_X4_15 (by decide) rfl (by decide) rfl ?_
          refine s_iload_n C dX4_has_24 rfl ?_
          refine s_iaload (n := 20) C dX4_has_25 (by decide) rfl rfl (by omega) (by omega) (by omega) (rfl) (fun r25 => ?_)
          refine s_iload_n C dX4_has_26 rfl ?_
          refine s_icmp_ne (tgt := 32) C dX4_has_27 (by decide) (by omega) (by omega) (fun c27 => ?_) (fun c27 => ?_)
          · skip
            exact L32   (by first | assumption | omega) (fun q => c27 q.2)
          · skip
            refine s_iconst C dX4_has_30 ?_
            exact s_zreturn C dX4_has_31 (by decide) (⟨_, rfl, rfl, Bz.t ⟨j, hj.1, by omega, c17, c27⟩⟩)
  refine s_iconst C dX4_has_0 ?_
  refine s_istore_n (lv' := [_, _, _, _]) C dX4_has_1 (by decide) rfl rfl ?_
  exact L2 _ _  (by first | assumption | omega) (fun i h1 h2 => by omega) (Nat.lt_succ_self _)

set_option maxRecDepth 20000 in
set_option maxHeartbeats 4000000 in
theorem ct_X4_add (E : Ev) (M : Mm) (a b : Int) (ha : rg a) (hb : rg b) (hs : 0 ≤ M 55 2 ∧ M 55 2 < 20) : Ct E yX4_add cX4_add 3 none 0 [zr E 55, zi a, zi b] M (pV (fun M' => M' = mput (mput (mput M 56 (M 55 2) a) 57 (M 55 2) b) 55 2 (M 55 2 + 1))) := by
  refine Ct.of (own := RX4) (lv0 := [some (zr E 55), some (zi a), some (zi b)]) (by decide) rfl (Nat.le_of_ble_eq_true rfl) rfl (fun κ C => ?_)
  refine s_aload_n C dX4_add_0 rfl ?_
  refine s_geti (k := 2) (j := 2) C dX4_add_1 fl_X4_18 (by decide) rfl (by decide) rfl (rfl) (fun r1 => ?_)
  refine s_bipush C dX4_add_4 (by decide) ?_
  refine s_icmp_ge (tgt := 39) C dX4_add_6 (by decide) (by omega) (by omega) (fun c6 => ?_) (fun c6 => ?_)
  · skip
    omega
  · skip
    refine s_aload_n C dX4_add_9 rfl ?_
    refine s_getr (k := 0) (b := 56) C dX4_add_10 fl_X4_9 (by decide) rfl (by decide) rfl ?_
    refine s_aload_n C dX4_add_13 rfl ?_
    refine s_geti (k := 2) (j := 2) C dX4_add_14 fl_X4_18 (by decide) rfl (by decide) rfl (rfl) (fun r14 => ?_)
    refine s_iload_n C dX4_add_17 rfl ?_
    refine s_iastore (n := 20) C dX4_add_18 (by decide) rfl rfl (by omega) (by omega) (by omega) (by omega) ?_
    refine s_aload_n C dX4_add_19 rfl ?_
    refine s_getr (k := 1) (b := 57) C dX4_add_20 fl_X4_15 (by decide) rfl (by decide) rfl ?_
    refine s_aload_n C dX4_add_23 rfl ?_
    refine s_geti (k := 2) (j := 2) C dX4_add_24 fl_X4_18 (by decide) rfl (by decide) rfl (by first | (simp (disch := omega) only [mput_ne, mput_nk, mput_eq, mcopy_ne]; done) | (simp (disch := omega) only [mput_ne, mput_nk, mput_eq, mcopy_ne]; rfl) | rfl) (fun r24 => ?_)
    refine s_iload_n C dX4_add_27 rfl ?_
    refine s_iastore (n := 20) C dX4_add_28 (by decide) rfl rfl (by omega) (by omega) (by omega) (by omega) ?_
    refine s_aload_n C dX4_add_29 rfl ?_
    refine s_dup C dX4_add_30 rfl ?_
    refine s_geti (k := 2) (j := 2) C dX4_add_31 fl_X4_18 (by decide) rfl (by decide) rfl (by first | (simp (disch := omega) only [mput_ne, mput_nk, mput_eq, mcopy_ne]; done) | (simp (disch := omega) only [mput_ne, mput_nk, mput_eq, mcopy_ne]; rfl) | rfl) (fun r31 => ?_)
    refine s_iconst C dX4_add_34 ?_
    refine s_iadd C dX4_add_35 ?_
    refine s_puti (k := 2) (j := 2) C dX4_add_36 fp_X4_18 (by decide) rfl rfl rfl (by omega) ?_
    exact s_return C dX4_add_39 (⟨rfl, rfl⟩)

set_option maxRecDepth 20000 in
set_option maxHeartbeats 4000000 in
theorem ct_X8_paragraphs (E : Ev) (t : Nat) (ht : t = 17 ∨ t = 24) (M : Mm) (h7 : 0 ≤ M t 7 ∧ M t 7 ≤ 24) : Ct E yX8_paragraphs cX8_paragraphs 1 (some .int) 0 [zr E t] M (pP M (fun z => z = if M t 7 = 0 then 0 else M (t + 6) (M t 7 - 1) + 1)) := by
  refine Ct.of (own := RX8) (lv0 := [some (zr E t)]) (by decide) rfl (Nat.le_of_ble_eq_true rfl) rfl (fun κ C => ?_)
  obtain ⟨l1, l2, l3, l4, l5, l6⟩ := lnT ht
  refine s_aload_n C dX8_paragraphs_0 rfl ?_
  refine s_geti (k := 7) (j := 7) C dX8_paragraphs_1 fl_X8_30 (by rcases ht with rfl | rfl <;> decide) (by rcases ht with rfl | rfl <;> decide) (by decide) rfl (rfl) (fun r1 => ?_)
  refine s_if_ne (tgt := 11) C dX8_paragraphs_4 (by decide) (by omega) (fun c4 => ?_) (fun c4 => ?_)
  · skip
    refine s_aload_n C dX8_paragraphs_11 rfl ?_
    refine s_getr (k := 5) (b := t + 6) C dX8_paragraphs_12 fl_X8_27 (by rcases ht with rfl | rfl <;> decide) (by rcases ht with rfl | rfl <;> decide) (by decide) (by rcases ht with rfl | rfl <;> decide) ?_
    refine s_aload_n C dX8_paragraphs_15 rfl ?_
    refine s_geti (k := 7) (j := 7) C dX8_paragraphs_16 fl_X8_30 (by rcases ht with rfl | rfl <;> decide) (by rcases ht with rfl | rfl <;> decide) (by decide) rfl (rfl) (fun r16 => ?_)
    refine s_iconst C dX8_paragraphs_19 ?_
    refine s_isub C dX8_paragraphs_20 ?_
    refine s_iaload C dX8_paragraphs_21 (by rcases ht with rfl | rfl <;> decide) (by rcases ht with rfl | rfl <;> decide) rfl (by omega) (by omega) (by omega) (rfl) (fun r21 => ?_)
    refine s_iconst C dX8_paragraphs_22 ?_
    refine s_iadd C dX8_paragraphs_23 ?_
    exact s_ireturn C dX8_paragraphs_24 (⟨_, rfl, rfl, by first | (rw [if_pos (by omega)]; done) | (rw [if_neg (by omega)]; done)⟩)
  · skip
    refine s_iconst C dX8_paragraphs_7 ?_
    refine s_goto (tgt := 24) C dX8_paragraphs_8 (by decide) ?_
    exact s_ireturn C dX8_paragraphs_24 (⟨_, rfl, rfl, by first | (rw [if_pos (by omega)]; done) | (rw [if_neg (by omega)]; done)⟩)

set_option maxRecDepth 20000 in
set_option maxHeartbeats 4000000 in
theorem ct_X4_mustBeAhead (E : Ev) (M : Mm) (a b : Int) (ha : 0 ≤ a ∧ a < 24) (hb : 0 ≤ b ∧ b < 24) (hs : 0 ≤ M 55 2 ∧ M 55 2 ≤ 20) (hp : ∀ p, 0 ≤ p → p < M 55 2 → (0 ≤ M 56 p ∧ M 56 p < 24) ∧ (0 ≤ M 57 p ∧ M 57 p < 24)) : Ct E yX4_mustBeAhead cX4_mustBeAhead 6 (some .boolean) 0 [zr E 55, zi a, zi b] M (pP M (fun z => Bz z (Rch (M 56) (M 57) (M 55 2) a b))) := by
  refine Ct.of (own := RX4) (lv0 := [some (zr E 55), some (zi a), some (zi b), none, none, none]) (by decide) rfl (Nat.le_of_ble_eq_true rfl) rfl (fun κ C => ?_)
  have hok : ∀ X : Int, (∀ j, 0 ≤ j → j < 24 → inS X j → Rch (M 56) (M 57) (M 55 2) a j) → (∀ p, 0 ≤ p → p < M 55 2 → inS X (M 56 p) → inS X (M 57 p)) → inS X a → (inS X b ↔ Rch (M 56) (M 57) (M 55 2) a b) := by
    intro X h1 h2 h3
    exact ⟨fun h => h1 b hb.1 hb.2 h, fun h => h (fun j => inS X j) h3 h2⟩
  have L7 : ∀ (n9 : Nat) (X r : Int) (u5 : Option Value) (hX : 0 ≤ X ∧ X < 2147483648) (hr : 0 ≤ r ∧ r ≤ M 55 2) (hXa : inS X a) (hXR : ∀ j, 0 ≤ j → j < 24 → inS X j → Rch (M 56) (M 57) (M 55 2) a j) (hcl : (∀ p, 0 ≤ p → p < M 55 2 → inS X (M 56 p) → inS X (M 57 p)) ∨ cntB (fun p => !decide (inS X (M 57 p))) (M 55 2).toNat + r ≤ M 55 2) (hm : (M 55 2 - r).toNat < n9), Gm E κ (pP M (fun z => Bz z (Rch (M 56) (M 57) (M 55 2) a b))) 6 7 [some (zr E 55), some (zi a), some (zi b), some (zi X), some (zi r), u5] [] M := by
    intro n9
    induction n9 with
    | zero => intro X r u5 hX hr hXa hXR hcl hm; exact absurd hm (Nat.not_lt_zero _)
    | succ n9 ih7 =>
      intro X r u5 hX hr hXa hXR hcl hm
      have L19 : ∀ (n9 : Nat) (Y p : Int) (hY : 0 ≤ Y ∧ Y < 2147483648) (hrlt : r < M 55 2) (hpp : 0 ≤ p ∧ p ≤ M 55 2) (hYR : ∀ j, 0 ≤ j → j < 24 → inS Y j → Rch (M 56) (M 57) (M 55 2) a j) (hXY : ∀ j, 0 ≤ j → inS X j → inS Y j) (hchg : (Y = X ∧ ∀ q, 0 ≤ q → q < p → inS X (M 56 q) → inS X (M 57 q)) ∨ (¬ (∀ p, 0 ≤ p → p < M 55 2 → inS X (M 56 p) → inS X (M 57 p)) ∧ ∃ q, 0 ≤ q ∧ q < M 55 2 ∧ ¬ inS X (M 57 q) ∧ inS Y (M 57 q))) (hm : (M 55 2 - p).toNat < n9), Gm E κ (pP M (fun z => Bz z (Rch (M 56) (M 57) (M 55 2) a b))) 6 19 [some (zr E 55), some (zi a), some (zi b), some (zi Y), some (zi r), some (zi p)] [] M := by
        intro n9
        induction n9 with
        | zero => intro Y p  hY hrlt hpp hYR hXY hchg hm; exact absurd hm (Nat.not_lt_zero _)
        | succ n9 ih19 =>
          intro Y p  hY hrlt hpp hYR hXY hchg hm
          have L54 : ∀ (Z : Int) (hZ : 0 ≤ Z ∧ Z < 2147483648) (hplt : p < M 55 2) (hZR : ∀ j, 0 ≤ j → j < 24 → inS Z j → Rch (M 56) (M 57) (M 55 2) a j) (hXZ : ∀ j, 0 ≤ j → inS X j → inS Z j) (hchz : (Z = X ∧ ∀ q, 0 ≤ q → q < p + 1 → inS X (M 56 q) → inS X (M 57 q)) ∨ (¬ (∀ p, 0 ≤ p → p < M 55 2 → inS X (M 56 p) → inS X (M 57 p)) ∧ ∃ q, 0 ≤ q ∧ q < M 55 2 ∧ ¬ inS X (M 57 q) ∧ inS Z (M 57 q))), Gm E κ (pP M (fun z => Bz z (Rch (M 56) (M 57) (M 55 2) a b))) 6 54 [some (zr E 55), some (zi a), some (zi b), some (zi Z), some (zi r), some (zi p)] [] M := by
            intro Z  hZ hplt hZR hXZ hchz
            refine s_iinc (lv' := [_, _, _, _, _, _]) C dX4_mustBeAhead_54 rfl (by decide) rfl rfl rfl ?_
            refine s_goto (tgt := 19) C dX4_mustBeAhead_57 (by decide) ?_
            exact ih19 _ _ hZ hrlt (by clear hchg hchz; omega) hZR hXZ hchz (by clear hchg hchz; omega)
          refine s_iload C dX4_mustBeAhead_19 rfl ?_
          refine s_aload_n C dX4_mustBeAhead_21 rfl ?_
          refine s_geti (k := 2) (j := 2) C dX4_mustBeAhead_22 fl_X4_18 (by decide) rfl (by decide) rfl (rfl) (fun r22 => ?_)
          refine s_icmp_ge (tgt := 60) C dX4_mustBeAhead_25 (by decide) (by first | omega | exact rg_zand _ _) (by first | omega | exact rg_zand _ _) (fun c25 => ?_) (fun c25 => ?_)
          · skip
            refine s_iinc (lv' := [_, _, _, _, _, _]) C dX4_mustBeAhead_60 rfl (by decide) rfl rfl rfl ?_
            refine s_goto (tgt := 7) C dX4_mustBeAhead_63 (by decide) ?_
            exact ih7 _ _ _ (hY) (by clear hchg; omega) (hXY a ha.1 hXa) (hYR) (by
          rcases hchg with ⟨e, h⟩ | ⟨nc, q, q1, q2, q3, q4⟩
          · rw [e]; exact Or.inl (fun q h1 h2 h3 => h q h1 (by omega) h3)
          · rcases hcl with h | h
            · exact absurd h nc
            · refine Or.inr ?_
              have := cntB_lt (f := fun p => !decide (inS X (M 57 p))) (g := fun p => !decide (inS Y (M 57 p))) (M 55 2).toNat (fun p h1 h2 h3 => by
                have : ¬ inS Y (M 57 p) := by simpa using h3
                by_cases q : inS X (M 57 p)
                · exact absurd (hXY _ (hp p h1 (by omega)).2.1 q) this
                · simp [q]) ⟨q, q1, by omega, by simp [q3], by simp [q4]⟩
              omega) (by clear hchg; omega)
          · skip
            obtain ⟨⟨f0, f1⟩, s0, s1⟩ := hp p hpp.1 (by omega)
            have hbit := zbitS (x := Y) hY (k := M 56 p) (by omega)
            refine s_iload_n C dX4_mustBeAhead_28 rfl ?_
            refine s_aload_n C dX4_mustBeAhead_29 rfl ?_
            refine s_getr (k := 0) (b := 56) C dX4_mustBeAhead_30 fl_X4_9 (by decide) rfl (by decide) rfl ?_
            refine s_iload C dX4_mustBeAhead_33 rfl ?_
            refine s_iaload (n := 20) C dX4_mustBeAhead_35 (by decide) rfl rfl (by omega) (by omega) (by omega) (rfl) (fun r35 => ?_)
            refine s_ishr C dX4_mustBeAhead_36 ?_
            refine s_iconst C dX4_mustBeAhead_37 ?_
            refine s_iand C dX4_mustBeAhead_38 ?_
            refine s_if_eq (tgt := 54) C dX4_mustBeAhead_39 (by decide) (rg_zand _ _) (fun c39 => ?_) (fun c39 => ?_)
            · skip
              exact L54 _  (by first | assumption | omega) (by first | assumption | omega) (by first | assumption | omega) (by first | assumption | omega) (by
          rcases hchg with ⟨e, h⟩ | h
          · refine Or.inl ⟨e, fun q h1 h2 h3 => ?_⟩
            by_cases c : q = p
            · subst c; rw [e] at hbit; rcases hbit with ⟨_, g⟩ | ⟨g, _⟩
              · rw [e] at c39; omega
              · exact absurd h3 g
            · exact h q h1 (by omega) h3
          · exact Or.inr h)
            · skip
              refine s_iload_n C dX4_mustBeAhead_42 rfl ?_
              refine s_iconst C dX4_mustBeAhead_43 ?_
              refine s_aload_n C dX4_mustBeAhead_44 rfl ?_
              refine s_getr (k := 1) (b := 57) C dX4_mustBeAhead_45 fl_X4_15 (by decide) rfl (by decide) rfl ?_
              refine s_iload C dX4_mustBeAhead_48 rfl ?_
              refine s_iaload (n := 20) C dX4_mustBeAhead_50 (by decide) rfl rfl (by omega) (by omega) (by omega) (rfl) (fun r50 => ?_)
              refine s_ishl C dX4_mustBeAhead_51 ?_
              refine s_ior C dX4_mustBeAhead_52 ?_
              refine s_istore_n (lv' := [_, _, _, _, _, _]) C dX4_mustBeAhead_53 (by decide) rfl rfl ?_
              exact L54 _  (zor_rg hY (by omega)) (by first | assumption | omega) (fun j h1 h2 h3 => by
          rcases (inS_or hY (by omega) j).mp h3 with h | h
          · exact hYR j h1 h2 h
          · rw [show j = M 57 p by omega]
            refine Rch.st (hYR _ f0 f1 ?_) hpp.1 (by omega)
            rcases hbit with ⟨g, _⟩ | ⟨_, g⟩
            · exact g
            · exact absurd g c39) (fun j h1 h => (inS_or hY (by omega) j).mpr (Or.inl (hXY j h1 h))) (by
          have hin : inS (zor Y (zshl 1 (M 57 p))) (M 57 p) := (inS_or hY (by omega) _).mpr (Or.inr rfl)
          by_cases cX : inS X (M 57 p)
          · rcases hchg with ⟨e, h⟩ | ⟨nc, q, q1, q2, q3, q4⟩
            · refine Or.inl ⟨?_, fun q h1 h2 h3 => ?_⟩
              · rw [e]; exact zor_same (by omega) (by omega) cX
              · by_cases c : q = p
                · rw [c]; exact cX
                · exact h q h1 (by omega) h3
            · exact Or.inr ⟨nc, q, q1, q2, q3, (inS_or hY (by omega) _).mpr (Or.inl q4)⟩
          · refine Or.inr ⟨?_, p, hpp.1, by omega, cX, hin⟩
            rcases hchg with ⟨e, h⟩ | ⟨nc, _⟩
            · intro hc
              refine cX (hc p hpp.1 (by omega) ?_)
              rw [← e]
              rcases hbit with ⟨g, _⟩ | ⟨_, g⟩
              · exact g
              · exact absurd g c39
            · exact nc)
      refine s_iload C dX4_mustBeAhead_7 rfl ?_
      refine s_aload_n C dX4_mustBeAhead_9 rfl ?_
      refine s_geti (k := 2) (j := 2) C dX4_mustBeAhead_10 fl_X4_18 (by decide) rfl (by decide) rfl (rfl) (fun r10 => ?_)
      refine s_icmp_ge (tgt := 66) C dX4_mustBeAhead_13 (by decide) (by first | omega | exact rg_zand _ _) (by first | omega | exact rg_zand _ _) (fun c13 => ?_) (fun c13 => ?_)
      · skip
        have hclX : ∀ p, 0 ≤ p → p < M 55 2 → inS X (M 56 p) → inS X (M 57 p) := by
          rcases hcl with h | h
          · exact h
          · intro p h1 h2 _
            by_cases c : inS X (M 57 p)
            · exact c
            · exfalso
              have h0 := cntB_nn (fun p => !decide (inS X (M 57 p))) (M 55 2).toNat
              have h3 := cntB_lt (f := fun p => !decide (inS X (M 57 p))) (g := fun _ => false) (M 55 2).toNat (fun _ _ _ q => by cases q) ⟨p, h1, by omega, by simp [c], rfl⟩
              have h4 := cntB_nn (fun _ => false) (M 55 2).toNat
              omega
        have hfin := hok X hXR hclX hXa
        have hbit := zbitS (x := X) hX (k := b) (by omega)
        refine s_iload_n C dX4_mustBeAhead_66 rfl ?_
        refine s_iload_n C dX4_mustBeAhead_67 rfl ?_
        refine s_ishr C dX4_mustBeAhead_68 ?_
        refine s_iconst C dX4_mustBeAhead_69 ?_
        refine s_iand C dX4_mustBeAhead_70 ?_
        refine s_if_eq (tgt := 78) C dX4_mustBeAhead_71 (by decide) (rg_zand _ _) (fun c71 => ?_) (fun c71 => ?_)
        · skip
          refine s_iconst C dX4_mustBeAhead_78 ?_
          exact s_zreturn C dX4_mustBeAhead_79 (by decide) (⟨_, rfl, rfl, by first | exact Bz.t (hfin.mp (by rcases hbit with ⟨g, _⟩ | ⟨_, g⟩; exact g; exact absurd g c71)) | exact Bz.f (fun q => by rcases hbit with ⟨_, g⟩ | ⟨g, _⟩; omega; exact g (hfin.mpr q))⟩)
        · skip
          refine s_iconst C dX4_mustBeAhead_74 ?_
          refine s_goto (tgt := 79) C dX4_mustBeAhead_75 (by decide) ?_
          exact s_zreturn C dX4_mustBeAhead_79 (by decide) (⟨_, rfl, rfl, by first | exact Bz.t (hfin.mp (by rcases hbit with ⟨g, _⟩ | ⟨_, g⟩; exact g; exact absurd g c71)) | exact Bz.f (fun q => by rcases hbit with ⟨_, g⟩ | ⟨g, _⟩; omega; exact g (hfin.mpr q))⟩)
      · skip
        refine s_iconst C dX4_mustBeAhead_16 ?_
        refine s_istore (lv' := [_, _, _, _, _, _]) C dX4_mustBeAhead_17 (by decide) rfl rfl ?_
        exact L19 _ _ _  (by first | assumption | omega) (by first | assumption | omega) (by first | assumption | omega) (by first | assumption | omega) (fun j _ h => h) (Or.inl ⟨rfl, fun q h1 h2 => by omega⟩) (Nat.lt_succ_self _)
  refine s_iconst C dX4_mustBeAhead_0 ?_
  refine s_iload_n C dX4_mustBeAhead_1 rfl ?_
  refine s_ishl C dX4_mustBeAhead_2 ?_
  refine s_istore_n (lv' := [_, _, _, _, _, _]) C dX4_mustBeAhead_3 (by decide) rfl rfl ?_
  refine s_iconst C dX4_mustBeAhead_4 ?_
  refine s_istore (lv' := [_, _, _, _, _, _]) C dX4_mustBeAhead_5 (by decide) rfl rfl ?_
  exact L7 _ _ _ _ (zshl1_rg (by omega)) (by first | assumption | omega) ((inS_one (by omega) _).mpr rfl) (fun j h1 h2 h3 => by rw [show j = a by have := (inS_one (by omega) _).mp h3; omega]; exact Rch.rf _ _ _ _) (Or.inr (by have := (cntB_nn (fun p => !decide (inS (zshl 1 a) (M 57 p))) (M 55 2).toNat).2; omega)) (Nat.lt_succ_self _)
