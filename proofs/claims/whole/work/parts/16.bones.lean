/-- the chain of heads from d on, at most so many -/
def chn (h : Int → Int) (n : Int) : Nat → Int → List Int
  | 0, _ => []
  | k + 1, d => if 0 ≤ d ∧ d < n then d :: chn h n k (h d) else []
theorem chn_len (h : Int → Int) (n : Int) : ∀ k d, (chn h n k d).length ≤ k := by
  intro k
  induction k with
  | zero => intro d; simp [chn]
  | succ k ih =>
    intro d
    rw [chn]
    split
    · simp; exact ih _
    · simp
def cuMem (M : Mm) (d : Int) (l : List Int) : Mm := fun b => if b = 54 then (fun k => M 54 k + (l.count k : Int)) else if b = 53 then (fun k => if k ∈ l then min (M 53 k) d else M 53 k) else M b
theorem cuMem_54 (M : Mm) (d : Int) (l : List Int) (k : Int) : cuMem M d l 54 k = M 54 k + (l.count k : Int) := rfl
theorem cuMem_53 (M : Mm) (d : Int) (l : List Int) (k : Int) : cuMem M d l 53 k = if k ∈ l then min (M 53 k) d else M 53 k := rfl
theorem cuMem_ne {M : Mm} {d : Int} {l : List Int} {a : Nat} (h1 : a ≠ 53) (h2 : a ≠ 54) : cuMem M d l a = M a := by simp [cuMem, h1, h2]
theorem cuMem_0 (M : Mm) (d : Int) : cuMem M d [] = M := by
  funext b k
  by_cases h1 : b = 54
  · subst h1; rw [cuMem_54]; simp
  · by_cases h2 : b = 53
    · subst h2; rw [cuMem_53]; simp
    · rw [cuMem_ne h2 h1]
theorem cuMem_s (M : Mm) (d : Int) (l : List Int) (u : Int) : mput (mput (cuMem M d l) 54 u (cuMem M d l 54 u + 1)) 53 u (min (cuMem M d l 53 u) d) = cuMem M d (l ++ [u]) := by
  funext b k
  by_cases h2 : b = 53
  · subst h2
    rw [mput_at, cuMem_53 M d (l ++ [u])]
    by_cases hk : k = u
    · subst hk
      rw [if_pos rfl, if_pos (List.mem_append_right _ List.mem_cons_self), cuMem_53]
      split <;> omega
    · rw [if_neg hk, mput_ne (by decide), cuMem_53]
      by_cases c : k ∈ l
      · rw [if_pos c, if_pos (by simp [c])]
      · rw [if_neg c, if_neg (by simp [c, hk])]
  · rw [mput_ne h2]
    by_cases h1 : b = 54
    · subst h1
      rw [mput_at, cuMem_54 M d (l ++ [u])]
      by_cases hk : k = u
      · subst hk
        rw [if_pos rfl, List.count_append, cuMem_54]
        simp
        omega
      · rw [if_neg hk, cuMem_54, List.count_append, List.count_singleton]
        simp [Ne.symm hk]
    · rw [mput_ne h1, cuMem_ne h2 h1, cuMem_ne h2 h1]
def sumI (f : Int → Int) : Nat → Int
  | 0 => 0
  | n + 1 => sumI f n + f (n : Int)
def mnF (p : Int → Prop) (dec : ∀ i, Decidable (p i)) (i : Int) : Nat → Int
  | 0 => i
  | n + 1 => if p (n : Int) then min (mnF p dec i n) (n : Int) else mnF p dec i n
/-- a sentence's part: how many, where it begins; the root; how many hang on one -/
def bSz (h : Int → Int) (n : Int) (i : Int) (k : Nat) : Int := sumI (fun d => ((chn h n n.toNat d).count i : Int)) k
theorem bSz_le (h : Int → Int) {n : Int} (hn : n ≤ 24) (i : Int) : ∀ k, 0 ≤ bSz h n i k ∧ bSz h n i k ≤ 24 * (k : Int) := by
  intro k
  unfold bSz
  induction k with
  | zero => simp [sumI]
  | succ k ih =>
    rw [sumI]
    have h1 := chn_len h n n.toNat (k : Int)
    have h2 : (chn h n n.toNat (k : Int)).count i ≤ (chn h n n.toNat (k : Int)).length := List.count_le_length
    omega
def bFi (h : Int → Int) (n : Int) (i : Int) : Nat → Int
  | 0 => i
  | k + 1 => if i ∈ chn h n n.toNat (k : Int) then min (bFi h n i k) (k : Int) else bFi h n i k
def bRt (h : Int → Int) (n : Int) : Nat → Int
  | 0 => -1
  | k + 1 => if 0 ≤ h (k : Int) ∧ h (k : Int) < n then bRt h n k else (k : Int)
def bHu (h : Int → Int) (i : Int) (k : Nat) : Int := cntB (fun d => h d == i) k

set_option maxRecDepth 20000 in
set_option maxHeartbeats 4000000 in
theorem ct_X0_countUpwards (E : Ev) (M : Mm) (d n : Int) (hd : 0 ≤ d ∧ d < n) (hn : n ≤ 24) (h54 : ∀ k, 0 ≤ k → k < n → 0 ≤ M 54 k ∧ M 54 k ≤ 1000) : Ct E yX0_countUpwards cX0_countUpwards 5 none 1 [zr E 50, zi d, zi n] M (pV (fun M' => M' = cuMem M d (chn (M 51) n n.toNat d))) := by
  refine Ct.of (own := RX0) (lv0 := [some (zr E 50), some (zi d), some (zi n), none, none]) (by decide) rfl (Nat.le_of_ble_eq_true rfl) rfl (fun κ C => ?_)
  have L5 : ∀ (n9 : Nat) (l : List Int) (k : Nat) (u s : Int) (hu : rg u) (hs : 0 ≤ s ∧ s + (k : Int) = n) (hl : chn (M 51) n n.toNat d = l ++ chn (M 51) n k u) (hm : k < n9), Gm E κ (pV (fun M' => M' = cuMem M d (chn (M 51) n n.toNat d))) 5 5 [some (zr E 50), some (zi d), some (zi n), some (zi u), some (zi s)] [] (cuMem M d l) := by
    intro n9
    induction n9 with
    | zero => intro l k u s  hu hs hl hm; exact absurd hm (Nat.not_lt_zero _)
    | succ n9 ih5 =>
      intro l k u s  hu hs hl hm
      have hlen : l.length ≤ 24 := by
        have h1 := chn_len (M 51) n n.toNat d
        rw [hl, List.length_append] at h1
        omega
      have hc : (l.count u) ≤ l.length := List.count_le_length
      refine s_iload C dX0_countUpwards_5 rfl ?_
      refine s_iload_n C dX0_countUpwards_7 rfl ?_
      refine s_icmp_ge (tgt := 59) C dX0_countUpwards_8 (by decide) (by omega) (by omega) (fun c8 => ?_) (fun c8 => ?_)
      · skip
        exact s_return C dX0_countUpwards_59 (⟨rfl, by
      have e : chn (M 51) n k u = [] := by
        cases k with
        | zero => rfl
        | succ j => rw [chn, if_neg (by omega)]
      rw [hl, e, List.append_nil]⟩)
      · skip
        refine s_iload_n C dX0_countUpwards_11 rfl ?_
        refine s_if_lt (tgt := 59) C dX0_countUpwards_12 (by decide) (by omega) (fun c12 => ?_) (fun c12 => ?_)
        · skip
          exact s_return C dX0_countUpwards_59 (⟨rfl, by
      have e : chn (M 51) n k u = [] := by
        cases k with
        | zero => rfl
        | succ j => rw [chn, if_neg (by omega)]
      rw [hl, e, List.append_nil]⟩)
        · skip
          refine s_iload_n C dX0_countUpwards_15 rfl ?_
          refine s_iload_n C dX0_countUpwards_16 rfl ?_
          refine s_icmp_ge (tgt := 59) C dX0_countUpwards_17 (by decide) (by omega) (by omega) (fun c17 => ?_) (fun c17 => ?_)
          · skip
            exact s_return C dX0_countUpwards_59 (⟨rfl, by
      have e : chn (M 51) n k u = [] := by
        cases k with
        | zero => rfl
        | succ j => rw [chn, if_neg (by omega)]
      rw [hl, e, List.append_nil]⟩)
          · skip
            have h5 := h54 u (by omega) (by omega)
            refine s_aload_n C dX0_countUpwards_20 rfl ?_
            refine s_getr (k := 3) (b := 54) C dX0_countUpwards_21 fl_X0_21 (by decide) rfl (by decide) rfl ?_
            refine s_iload_n C dX0_countUpwards_24 rfl ?_
            refine s_dup2 C dX0_countUpwards_25 rfl rfl ?_
            refine s_iaload (n := 24) (z := M 54 u + (l.count u : Int)) C dX0_countUpwards_26 (by decide) rfl rfl (by omega) (by omega) (by omega) (rfl) (fun r26 => ?_)
            refine s_iconst C dX0_countUpwards_27 ?_
            refine s_iadd C dX0_countUpwards_28 ?_
            refine s_iastore (n := 24) C dX0_countUpwards_29 (by decide) rfl rfl (by omega) (by omega) (by omega) (by omega) ?_
            refine s_aload_n C dX0_countUpwards_30 rfl ?_
            refine s_getr (k := 2) (b := 53) C dX0_countUpwards_31 fl_X0_18 (by decide) rfl (by decide) rfl ?_
            refine s_iload_n C dX0_countUpwards_34 rfl ?_
            refine s_aload_n C dX0_countUpwards_35 rfl ?_
            refine s_getr (k := 2) (b := 53) C dX0_countUpwards_36 fl_X0_18 (by decide) rfl (by decide) rfl ?_
            refine s_iload_n C dX0_countUpwards_39 rfl ?_
            refine s_iaload (n := 24) (z := cuMem M d l 53 u) C dX0_countUpwards_40 (by decide) rfl rfl (by omega) (by omega) (by omega) (by rw [mput_ne (by decide)]) (fun r40 => ?_)
            refine s_iload_n C dX0_countUpwards_41 rfl ?_
            skip
            refine s_min C dX0_countUpwards_42 lm_X0_32 js_min ji_Math jc_min (by decide) (Nat.le_of_ble_eq_true rfl) (by omega) (by omega) ?_
            refine s_iastore (n := 24) C dX0_countUpwards_45 (by decide) rfl rfl (by omega) (by omega) (by omega) (by omega) ?_
            refine s_aload_n C dX0_countUpwards_46 rfl ?_
            refine s_getr (k := 0) (b := 51) C dX0_countUpwards_47 fl_X0_9 (by decide) rfl (by decide) rfl ?_
            refine s_iload_n C dX0_countUpwards_50 rfl ?_
            refine s_iaload (n := 24) (z := M 51 u) C dX0_countUpwards_51 (by decide) rfl rfl (by omega) (by omega) (by omega) (by rw [mput_ne (by decide), mput_ne (by decide), cuMem_ne (by decide) (by decide)]) (fun r51 => ?_)
            refine s_istore_n (lv' := [_, _, _, _, _]) C dX0_countUpwards_52 (by decide) rfl rfl ?_
            rw [show mput (mput (cuMem M d l) 54 u (M 54 u + (l.count u : Int) + 1)) 53 u (min (cuMem M d l 53 u) d) = cuMem M d (l ++ [u]) from cuMem_s M d l u]
            refine s_iinc (lv' := [_, _, _, _, _]) C dX0_countUpwards_53 rfl (by decide) rfl rfl rfl ?_
            refine s_goto (tgt := 5) C dX0_countUpwards_56 (by decide) ?_
            obtain ⟨j, rfl⟩ : ∃ j, k = j + 1 := ⟨k - 1, by omega⟩
            refine ih5 (l ++ [u]) j _ _ r51 (by omega) ?_ (by omega)
            rw [hl, chn, if_pos ⟨by omega, by omega⟩]
            simp
  refine s_iload_n C dX0_countUpwards_0 rfl ?_
  refine s_istore_n (lv' := [_, _, _, _, _]) C dX0_countUpwards_1 (by decide) rfl rfl ?_
  refine s_iconst C dX0_countUpwards_2 ?_
  refine s_istore (lv' := [_, _, _, _, _]) C dX0_countUpwards_3 (by decide) rfl rfl ?_
  have h := L5 _ [] n.toNat d 0 (by omega) (by omega) (by simp) (Nat.lt_succ_self _)
  rw [cuMem_0] at h
  exact h

set_option maxRecDepth 20000 in
set_option maxHeartbeats 4000000 in
theorem ct_X0_measure (E : Ev) (M : Mm) (n : Int) (hn : 0 ≤ n ∧ n ≤ 24) : Ct E yX0_measure cX0_measure 4 none 2 [zr E 50, zi n] M (pV (fun M' => M' 51 = M 51 ∧ Sm M M' [50, 52, 53, 54] ∧ M' 50 4 = bRt (M 51) n n.toNat ∧ ∀ i, 0 ≤ i → i < n → M' 52 i = bHu (M 51) i n.toNat ∧ M' 53 i = bFi (M 51) n i n.toNat ∧ M' 54 i = bSz (M 51) n i n.toNat)) := by
  refine Ct.of (own := RX0) (lv0 := [some (zr E 50), some (zi n), none, none]) (by decide) rfl (Nat.le_of_ble_eq_true rfl) rfl (fun κ C => ?_)
  have L41 : ∀ (n9 : Nat) (A : Mm) (k : Nat) (d : Int) (u3 : Option Value) (hd : d = (k : Int)) (hk : (k : Int) ≤ n) (hSm : Sm M A [50, 52, 53, 54]) (hrt : A 50 4 = bRt (M 51) n k) (hz : ∀ i, 0 ≤ i → i < n → A 52 i = bHu (M 51) i k ∧ A 53 i = bFi (M 51) n i k ∧ A 54 i = bSz (M 51) n i k) (hm : (n - d).toNat < n9), Gm E κ (pV (fun M' => M' 51 = M 51 ∧ Sm M M' [50, 52, 53, 54] ∧ M' 50 4 = bRt (M 51) n n.toNat ∧ ∀ i, 0 ≤ i → i < n → M' 52 i = bHu (M 51) i n.toNat ∧ M' 53 i = bFi (M 51) n i n.toNat ∧ M' 54 i = bSz (M 51) n i n.toNat)) 4 41 [some (zr E 50), some (zi n), some (zi d), u3] [] A := by
    intro n9
    induction n9 with
    | zero => intro A k d u3 hd hk hSm hrt hz hm; exact absurd hm (Nat.not_lt_zero _)
    | succ n9 ih41 =>
      intro A k d u3 hd hk hSm hrt hz hm
      have e51 : A 51 = M 51 := hSm 51 (by decide)
      have L80 : ∀ (B : Mm) (u3 : Option Value) (hlt : d < n) (hSmB : Sm M B [50, 52, 53, 54]) (hrtB : B 50 4 = bRt (M 51) n (k + 1)) (hzB : ∀ i, 0 ≤ i → i < n → B 52 i = bHu (M 51) i (k + 1) ∧ B 53 i = bFi (M 51) n i k ∧ B 54 i = bSz (M 51) n i k), Gm E κ (pV (fun M' => M' 51 = M 51 ∧ Sm M M' [50, 52, 53, 54] ∧ M' 50 4 = bRt (M 51) n n.toNat ∧ ∀ i, 0 ≤ i → i < n → M' 52 i = bHu (M 51) i n.toNat ∧ M' 53 i = bFi (M 51) n i n.toNat ∧ M' 54 i = bSz (M 51) n i n.toNat)) 4 80 [some (zr E 50), some (zi n), some (zi d), u3] [] B := by
        intro B u3 hlt hSmB hrtB hzB
        refine s_aload_n C dX0_measure_80 rfl ?_
        refine s_iload_n C dX0_measure_81 rfl ?_
        refine s_iload_n C dX0_measure_82 rfl ?_
        refine s_callV2 C dX0_measure_83 cy_X0_countUpwards cv_X0_countUpwards lk_X0_28 (ct_X0_countUpwards E B d n (by omega) hn.2 (fun q h1 h2 => by have h3 := bSz_le (M 51) hn.2 q k; rw [(hzB q h1 h2).2.2]; omega)) (by decide) (by decide) (by first | decide | (decide)) rfl (Nat.le_of_ble_eq_true rfl) (k_V (fun M83 q83 => ?_))
        refine s_iinc (lv' := [_, _, _, _]) C dX0_measure_86 rfl (by decide) rfl rfl rfl ?_
        refine s_goto (tgt := 41) C dX0_measure_89 (by decide) ?_
        have e51B : B 51 = M 51 := hSmB 51 (by decide)
        refine ih41 _ (k + 1) _ _ (by omega) (by omega) ?_ ?_ ?_ (by omega)
        · intro a ha
          rw [q83, cuMem_ne (fun q => ha (by rw [q]; decide)) (fun q => ha (by rw [q]; decide))]
          exact hSmB a ha
        · rw [q83, cuMem_ne (by decide) (by decide)]; exact hrtB
        · intro i h1 h2
          obtain ⟨g1, g2, g3⟩ := hzB i h1 h2
          rw [q83, cuMem_ne (by decide) (by decide), cuMem_53, cuMem_54, g2, g3, e51B]
          refine ⟨g1, ?_, ?_⟩
          · rw [bFi, ← hd]
          · unfold bSz; rw [sumI, ← hd]
      refine s_iload_n C dX0_measure_41 rfl ?_
      refine s_iload_n C dX0_measure_42 rfl ?_
      refine s_icmp_ge (tgt := 92) C dX0_measure_43 (by decide) (by omega) (by omega) (fun c43 => ?_) (fun c43 => ?_)
      · skip
        exact s_return C dX0_measure_92 (⟨rfl, by
      have e : k = n.toNat := by omega
      subst e
      exact ⟨e51, hSm, hrt, hz⟩⟩)
      · skip
        refine s_aload_n C dX0_measure_46 rfl ?_
        refine s_getr (k := 0) (b := 51) C dX0_measure_47 fl_X0_9 (by decide) rfl (by decide) rfl ?_
        refine s_iload_n C dX0_measure_50 rfl ?_
        refine s_iaload (n := 24) (z := M 51 d) C dX0_measure_51 (by decide) rfl rfl (by omega) (by omega) (by omega) (by rw [e51]) (fun r51 => ?_)
        refine s_istore_n (lv' := [_, _, _, _]) C dX0_measure_52 (by decide) rfl rfl ?_
        refine s_iload_n C dX0_measure_53 rfl ?_
        refine s_if_lt (tgt := 75) C dX0_measure_54 (by decide) (by omega) (fun c54 => ?_) (fun c54 => ?_)
        · skip
          refine s_aload_n C dX0_measure_75 rfl ?_
          refine s_iload_n C dX0_measure_76 rfl ?_
          refine s_puti (k := 4) (j := 4) C dX0_measure_77 fp_X0_24 (by decide) rfl rfl rfl (by omega) ?_
          exact L80 _ _ (by first | assumption | omega) (hSm.put (by decide)) (by rw [mput_eq, bRt, if_neg (by rw [← hd]; omega), hd]) (fun i h1 h2 => by
          rw [mput_ne (by decide), mput_ne (by decide), mput_ne (by decide)]
          obtain ⟨g1, g2, g3⟩ := hz i h1 h2
          refine ⟨?_, g2, g3⟩
          unfold bHu at g1 ⊢
          rw [cntB, ← hd, g1]
          have c : M 51 d ≠ i := by omega
          simp [c])
        · skip
          refine s_iload_n C dX0_measure_57 rfl ?_
          refine s_iload_n C dX0_measure_58 rfl ?_
          refine s_icmp_ge (tgt := 75) C dX0_measure_59 (by decide) (by omega) (by omega) (fun c59 => ?_) (fun c59 => ?_)
          · skip
            refine s_aload_n C dX0_measure_75 rfl ?_
            refine s_iload_n C dX0_measure_76 rfl ?_
            refine s_puti (k := 4) (j := 4) C dX0_measure_77 fp_X0_24 (by decide) rfl rfl rfl (by omega) ?_
            exact L80 _ _ (by first | assumption | omega) (hSm.put (by decide)) (by rw [mput_eq, bRt, if_neg (by rw [← hd]; omega), hd]) (fun i h1 h2 => by
          rw [mput_ne (by decide), mput_ne (by decide), mput_ne (by decide)]
          obtain ⟨g1, g2, g3⟩ := hz i h1 h2
          refine ⟨?_, g2, g3⟩
          unfold bHu at g1 ⊢
          rw [cntB, ← hd, g1]
          have c : M 51 d ≠ i := by omega
          simp [c])
          · skip
            refine s_aload_n C dX0_measure_62 rfl ?_
            refine s_getr (k := 1) (b := 52) C dX0_measure_63 fl_X0_15 (by decide) rfl (by decide) rfl ?_
            refine s_iload_n C dX0_measure_66 rfl ?_
            have hu := (hz (M 51 d) (by omega) (by omega)).1
            have hc := cntB_nn (fun q => M 51 q == M 51 d) k
            unfold bHu at hu
            refine s_dup2 C dX0_measure_67 rfl rfl ?_
            refine s_iaload (n := 24) (z := A 52 (M 51 d)) C dX0_measure_68 (by decide) rfl rfl (by omega) (by omega) (by omega) (rfl) (fun r68 => ?_)
            refine s_iconst C dX0_measure_69 ?_
            refine s_iadd C dX0_measure_70 ?_
            refine s_iastore (n := 24) C dX0_measure_71 (by decide) rfl rfl (by omega) (by omega) (by omega) (by omega) ?_
            refine s_goto (tgt := 80) C dX0_measure_72 (by decide) ?_
            exact L80 _ _ (by first | assumption | omega) (hSm.put (by decide)) (by rw [mput_ne (by decide), hrt, bRt, if_pos (by rw [← hd]; omega)]) (fun i h1 h2 => by
          rw [mput_at, mput_ne (by decide), mput_ne (by decide)]
          obtain ⟨g1, g2, g3⟩ := hz i h1 h2
          refine ⟨?_, g2, g3⟩
          unfold bHu at g1 ⊢
          rw [cntB, ← hd]
          by_cases c : i = M 51 d
          · rw [if_pos c, hu, c]; simp
          · rw [if_neg c, g1]; simp [Ne.symm c])
  have L7 : ∀ (n9 : Nat) (A : Mm) (j : Int) (u3 : Option Value) (hj : 0 ≤ j ∧ j ≤ n) (hSm : Sm M A [50, 52, 53, 54]) (hrt : A 50 4 = -1) (hz : ∀ i, 0 ≤ i → i < j → A 52 i = 0 ∧ A 53 i = i ∧ A 54 i = 0) (hm : (n - j).toNat < n9), Gm E κ (pV (fun M' => M' 51 = M 51 ∧ Sm M M' [50, 52, 53, 54] ∧ M' 50 4 = bRt (M 51) n n.toNat ∧ ∀ i, 0 ≤ i → i < n → M' 52 i = bHu (M 51) i n.toNat ∧ M' 53 i = bFi (M 51) n i n.toNat ∧ M' 54 i = bSz (M 51) n i n.toNat)) 4 7 [some (zr E 50), some (zi n), some (zi j), u3] [] A := by
    intro n9
    induction n9 with
    | zero => intro A j u3 hj hSm hrt hz hm; exact absurd hm (Nat.not_lt_zero _)
    | succ n9 ih7 =>
      intro A j u3 hj hSm hrt hz hm
      refine s_iload_n C dX0_measure_7 rfl ?_
      refine s_iload_n C dX0_measure_8 rfl ?_
      refine s_icmp_ge (tgt := 39) C dX0_measure_9 (by decide) (by omega) (by omega) (fun c9 => ?_) (fun c9 => ?_)
      · skip
        refine s_iconst C dX0_measure_39 ?_
        refine s_istore_n (lv' := [_, _, _, _]) C dX0_measure_40 (by decide) rfl rfl ?_
        exact L41 _ A 0 0 _ rfl (by omega) hSm hrt (fun i h1 h2 => hz i h1 (by omega)) (Nat.lt_succ_self _)
      · skip
        refine s_aload_n C dX0_measure_12 rfl ?_
        refine s_getr (k := 1) (b := 52) C dX0_measure_13 fl_X0_15 (by decide) rfl (by decide) rfl ?_
        refine s_iload_n C dX0_measure_16 rfl ?_
        refine s_iconst C dX0_measure_17 ?_
        refine s_iastore (n := 24) C dX0_measure_18 (by decide) rfl rfl (by omega) (by omega) (by omega) (by omega) ?_
        refine s_aload_n C dX0_measure_19 rfl ?_
        refine s_getr (k := 2) (b := 53) C dX0_measure_20 fl_X0_18 (by decide) rfl (by decide) rfl ?_
        refine s_iload_n C dX0_measure_23 rfl ?_
        refine s_iload_n C dX0_measure_24 rfl ?_
        refine s_iastore (n := 24) C dX0_measure_25 (by decide) rfl rfl (by omega) (by omega) (by omega) (by omega) ?_
        refine s_aload_n C dX0_measure_26 rfl ?_
        refine s_getr (k := 3) (b := 54) C dX0_measure_27 fl_X0_21 (by decide) rfl (by decide) rfl ?_
        refine s_iload_n C dX0_measure_30 rfl ?_
        refine s_iconst C dX0_measure_31 ?_
        refine s_iastore (n := 24) C dX0_measure_32 (by decide) rfl rfl (by omega) (by omega) (by omega) (by omega) ?_
        refine s_iinc (lv' := [_, _, _, _]) C dX0_measure_33 rfl (by decide) rfl rfl rfl ?_
        refine s_goto (tgt := 7) C dX0_measure_36 (by decide) ?_
        exact ih7 _ _ _ (by first | assumption | omega) (((hSm.put (by decide)).put (by decide)).put (by decide)) (by rw [mput_ne (by decide), mput_ne (by decide), mput_ne (by decide)]; exact hrt) (fun i h1 h2 => by
        simp (disch := decide) only [mput_ne, mput_at]
        by_cases c : i = j
        · rw [if_pos c, if_pos c, if_pos c, c]; exact ⟨rfl, rfl, rfl⟩
        · rw [if_neg c, if_neg c, if_neg c]; exact hz i h1 (by omega)) (by omega)
  refine s_aload_n C dX0_measure_0 rfl ?_
  refine s_iconst C dX0_measure_1 ?_
  refine s_puti (k := 4) (j := 4) C dX0_measure_2 fp_X0_24 (by decide) rfl rfl rfl (by omega) ?_
  refine s_iconst C dX0_measure_5 ?_
  refine s_istore_n (lv' := [_, _, _, _]) C dX0_measure_6 (by decide) rfl rfl ?_
  exact L7 _ _ _ _ (by first | assumption | omega) ((Sm.rf M _).put (by decide)) (mput_eq) (fun i h1 h2 => by omega) (Nat.lt_succ_self _)
