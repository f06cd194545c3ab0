/-- what an item is: the head, or one that hangs on it -/
theorem TI.of {M A : Mm} {r h : Int} (t : TI M A r h (M 66 24).toNat) {k : Int} (h0 : 0 ≤ k) (h1 : k < A 66 47) : (k = 0 ∧ A 98 k = h ∧ A 99 k = 1 ∧ A 100 k = 0) ∨ (1 ≤ k ∧ ∃ q : Nat, (q : Int) < M 66 24 ∧ M 95 (q : Int) = h ∧ k = 1 + bHu (M 95) h q ∧ A 98 k = (q : Int) ∧ ∀ l u, Iv (M 95) (M 66 24) r (q : Int) l u → A 99 k = u - l + 1 ∧ A 100 k = (q : Int) - l) := by
  obtain ⟨t1, t2, t3, t4, t5⟩ := t
  by_cases c : k = 0
  · subst c; exact Or.inl ⟨rfl, t4⟩
  · obtain ⟨q, q1, q2, q3⟩ := bHu_at (M 95) h (M 66 24).toNat (k - 1) (by omega) (by omega)
    have e : 1 + bHu (M 95) h q = k := by omega
    have g := t5 q q1 q2
    rw [e] at g
    exact Or.inr ⟨by omega, q, by omega, q2, e.symm, g⟩
theorem TM.ro {M A : Mm} {r h p : Int} {al be : Int → Int} (hn : 1 ≤ M 66 24 ∧ M 66 24 ≤ 24) (hT : TT (M 95) (M 66 24) r) (hh : 0 ≤ h ∧ h < M 66 24) (h9 : bHu (M 95) h (M 66 24).toNat ≤ 9) (t : TM M A r h al be p) : RO A := by
  obtain ⟨⟨B, tB, sB⟩, _, t3⟩ := t
  have e66 : A 66 = B 66 := sB 66 (by decide)
  have e47 := tB.2.2.1
  have hb := bHu_le (M 95) h (M 66 24).toNat
  refine ⟨by rw [e66]; omega, fun k k0 k1 => ?_⟩
  have g3 := (t3 k k0 k1).1
  rw [sB 98 (by decide), sB 99 (by decide), sB 100 (by decide)]
  rw [e66] at k1
  rcases tB.of k0 k1 with ⟨_, g1, g2, g4⟩ | ⟨_, q, q1, q2, q3, q4, q5⟩
  · rw [g1, g2, g4]; omega
  · obtain ⟨l, u, hv⟩ := hT.iv (i := (q : Int)) (by omega)
    have hv1 := hv.1
    have q6 := q5 l u hv
    rw [q6.1, q6.2, q4]; omega
theorem TI.sum {M A : Mm} {r h : Int} (hT : TT (M 95) (M 66 24) r) (t : TI M A r h (M 66 24).toNat) : ∀ d : Nat, (d : Int) ≤ M 66 24 → sumI (A 99) (1 + bHu (M 95) h d).toNat = 1 + chS (M 95) r (M 66 24) h d := by
  intro d
  obtain ⟨t1, t2, t3, t4, t5⟩ := t
  induction d with
  | zero =>
    intro _
    have e : (1 + bHu (M 95) h 0).toNat = 0 + 1 := rfl
    rw [e, sumI, sumI, show ((0 : Nat) : Int) = 0 from rfl, t4.2.1]; rfl
  | succ d ih =>
    intro hd
    have i2 := ih (by omega)
    have hb := bHu_le (M 95) h d
    rw [chS_s]
    by_cases c : M 95 (d : Int) = h
    · have e : (1 + bHu (M 95) h (d + 1)).toNat = (1 + bHu (M 95) h d).toNat + 1 := by rw [bHu_s, if_pos c]; omega
      obtain ⟨l, u, hv⟩ := hT.iv (i := (d : Int)) (by omega)
      have g := ((t5 d (by omega) c).2 l u hv).1
      rw [e, sumI, i2, if_pos c, Int.toNat_of_nonneg (by omega), g, hv.pz]; omega
    · have e : bHu (M 95) h (d + 1) = bHu (M 95) h d := by rw [bHu_s, if_neg c]; omega
      rw [e, i2, if_neg c]; omega
theorem ssz_or {M : Mm} {s u : Int} (hs : 0 ≤ s ∧ s < 1024) (hu : 0 ≤ u ∧ u < 10) (hn : ¬ inS s u) : ∀ k : Nat, ssz M (zor s (zshl 1 u)) k = ssz M s k + (if u < (k : Int) then M 99 u else 0) := by
  intro k
  induction k with
  | zero => rw [if_neg (by omega)]; rfl
  | succ k ih =>
    have h := inS_or (x := s) (by omega) (k := u) (by omega) (k : Int)
    rw [ssz_s, ssz_s, ih]
    by_cases c : (k : Int) = u
    · have b1 : (zor s (zshl 1 u)).toNat.testBit k = true := h.mpr (Or.inr (by omega))
      have b2 : ¬ s.toNat.testBit k = true := by rw [← c] at hn; exact hn
      rw [if_pos b1, if_neg b2, if_neg (by omega), if_pos (by omega), c]; try omega
    · have b3 : (zor s (zshl 1 u)).toNat.testBit k = s.toNat.testBit k := by
        by_cases c2 : s.toNat.testBit k = true
        · rw [c2]; exact h.mpr (Or.inl c2)
        · have c3 : ¬ (zor s (zshl 1 u)).toNat.testBit k = true := fun g => (h.mp g).elim c2 (fun g => by omega)
          rw [Bool.eq_false_iff.mpr c2, Bool.eq_false_iff.mpr c3]
      rw [b3]
      by_cases c4 : u < (k : Int)
      · rw [if_pos c4, if_pos (show u < ((k + 1 : Nat) : Int) by omega)]; omega
      · rw [if_neg c4, if_neg (show ¬ u < ((k + 1 : Nat) : Int) by omega)]; omega
theorem ssz_le {M : Mm} (h : RO M) (s : Int) : ∀ k : Nat, (k : Int) ≤ M 66 47 → ssz M s k ≤ sumI (M 99) k := by
  intro k
  induction k with
  | zero => intro _; exact Int.le_refl _
  | succ k ih =>
    intro hk
    have i2 := ih (by omega)
    have b := (h.2 (k : Int) (by omega) (by omega)).1
    rw [ssz_s, sumI]
    split <;> omega
theorem row_sum {M : Mm} {g r : Int → Int} {n : Nat} (hO : RO M) (hr : rRow M g r n) : ∀ k : Nat, k ≤ n → sumI (fun j => M 99 (r j)) k = ssz M (sq r k) (M 66 47).toNat := by
  intro k
  have hm := hO.1
  have r2 := r2n_le hO
  induction k with
  | zero =>
    intro _
    rw [sq]
    have : ∀ j : Nat, ssz M 0 j = 0 := by
      intro j
      induction j with
      | zero => rfl
      | succ j ih => rw [ssz_s, ih, if_neg (by simp)]; rfl
    rw [this]; rfl
  | succ k ih =>
    intro hk
    have q := hr k (by omega)
    have hs := sq_rgR hO k (r := r) (fun j hj => (hr j (by omega)).1)
    rw [sumI, ih (by omega), sq, ssz_or (by omega) (by omega) q.2.1.1.1, if_pos (by omega)]
/-- parts fit into the part of h -/
theorem row_fit {M A : Mm} {r h l u p : Int} {al be g rw : Int → Int} {n : Nat} (hn : 1 ≤ M 66 24 ∧ M 66 24 ≤ 24) (hT : TT (M 95) (M 66 24) r) (hh : 0 ≤ h ∧ h < M 66 24) (h9 : bHu (M 95) h (M 66 24).toNat ≤ 9) (t : TM M A r h al be p) (hv : Iv (M 95) (M 66 24) r h l u) (hr : rRow A g rw n) : ∀ k : Nat, k ≤ n → 0 ≤ sumI (fun j => A 99 (rw j)) k ∧ sumI (fun j => A 99 (rw j)) k ≤ u - l + 1 := by
  intro k hk
  have hO := t.ro hn hT hh h9
  have hm := hO.1
  rw [row_sum hO hr k hk]
  obtain ⟨⟨B, tB, sB⟩, _, _⟩ := t
  have e1 := ssz_le hO (sq rw k) (A 66 47).toNat (by omega)
  have e0 := (ssz_rg hO (sq rw k) (A 66 47).toNat (by omega)).1
  have e2 := tB.sum hT (M 66 24).toNat (by omega)
  have e3 : A 66 47 = 1 + bHu (M 95) h (M 66 24).toNat := by rw [sB 66 (by decide)]; exact tB.2.2.1
  rw [← e3, ← sB 99 (by decide), ← hT.sum hh, hv.pz] at e2
  omega
/-- what order and arrange of the reference go through -/
def RKp (M1 M2 M3 : Mm) (r h : Int) (al be : Int → Int) : Prop := TM M1 M2 r h al be (M1 66 41) ∧ Sm M2 M3 [102, 103, 105] ∧ rEq M2 (M3 103)
def roF (M2 M3 : Mm) (j : Int) : Int := M2 98 (M3 105 j) - M2 100 (M3 105 j)
def roS (M2 M3 : Mm) (j : Int) : Int := M2 99 (M3 105 j)

def odR (M2 M3 M' : Mm) (z : Int) : Prop := z = M3 103 0 ∧ Sm M3 M' [66, 104] ∧ (∀ k : Int, k ≠ 52 → M' 66 k = M3 66 k) ∧ M' 66 52 = M2 66 47 ∧ ∀ i, 0 ≤ i → i < M2 66 47 → M' 104 i = M2 98 (M3 105 i)

set_option maxRecDepth 20000 in
set_option maxHeartbeats 4000000 in
theorem ct_X11_order (E : Ev) (M : Mm) (hI : RI M) (h : Int) (hh : rg h) : Ct E yX11_order cX11_order 4 (some .int) 6 [zr E 66, zi h] M (pI (fun z M' => (¬ (0 ≤ h ∧ h < M 66 24) ∧ z = -2 ∧ M' = M) ∨ ((0 ≤ h ∧ h < M 66 24) ∧ ∃ M1 r, Tfs M M1 ∧ TT (M1 95) (M1 66 24) r ∧ ((9 < bHu (M1 95) h (M1 66 24).toNat ∧ z = -1 ∧ M' = M1) ∨ (bHu (M1 95) h (M1 66 24).toNat ≤ 9 ∧ ∃ al be M2 M3, RKp M1 M2 M3 r h al be ∧ ((1000000 ≤ M3 103 0 ∧ z = -1 ∧ M' = M3) ∨ (M3 103 0 < 1000000 ∧ rRow M2 (M3 103) (M3 105) (M2 66 47).toNat ∧ odR M2 M3 M' z))))))) := by
  refine Ct.of (own := RX11) (lv0 := [some (zr E 66), some (zi h), none, none]) (by decide) rfl (Nat.le_of_ble_eq_true rfl) rfl (fun κ C => ?_)
  have L48 : ∀ (n9 : Nat) (i : Int) (A M1 M2 M3 : Mm) (r : Int) (al be : Int → Int) (hi : 0 ≤ i ∧ i ≤ M2 66 47) (hhe : 0 ≤ h ∧ h < M 66 24) (hQ : Tfs M M1) (hT : TT (M1 95) (M1 66 24) r) (h9 : bHu (M1 95) h (M1 66 24).toNat ≤ 9) (hK : RKp M1 M2 M3 r h al be) (hg0 : M3 103 0 < 1000000) (hrow : rRow M2 (M3 103) (M3 105) (M2 66 47).toNat) (hO : RO M2) (hS : Sm M3 A [66, 104]) (h66 : ∀ k : Int, k ≠ 52 → A 66 k = M3 66 k) (h52 : A 66 52 = M2 66 47) (hA : ∀ j, 0 ≤ j → j < i → A 104 j = M2 98 (M3 105 j)) (hm : (M2 66 47 - i).toNat < n9), Gm E κ (pI (fun z M' => (¬ (0 ≤ h ∧ h < M 66 24) ∧ z = -2 ∧ M' = M) ∨ ((0 ≤ h ∧ h < M 66 24) ∧ ∃ M1 r, Tfs M M1 ∧ TT (M1 95) (M1 66 24) r ∧ ((9 < bHu (M1 95) h (M1 66 24).toNat ∧ z = -1 ∧ M' = M1) ∨ (bHu (M1 95) h (M1 66 24).toNat ≤ 9 ∧ ∃ al be M2 M3, RKp M1 M2 M3 r h al be ∧ ((1000000 ≤ M3 103 0 ∧ z = -1 ∧ M' = M3) ∨ (M3 103 0 < 1000000 ∧ rRow M2 (M3 103) (M3 105) (M2 66 47).toNat ∧ odR M2 M3 M' z))))))) 4 48 [some (zr E 66), some (zi h), some (zi (M3 103 0)), some (zi i)] [] A := by
    intro n9
    induction n9 with
    | zero => intro i A M1 M2 M3 r al be  hi hhe hQ hT h9 hK hg0 hrow hO hS h66 h52 hA hm; exact absurd hm (Nat.not_lt_zero _)
    | succ n9 ih48 =>
      intro i A M1 M2 M3 r al be  hi hhe hQ hT h9 hK hg0 hrow hO hS h66 h52 hA hm
      have hm := hO.1
      have e47 : A 66 47 = M2 66 47 := by rw [h66 47 (by decide), hK.2.1 66 (by decide)]
      have e98 : A 98 = M2 98 := by rw [hS 98 (by decide), hK.2.1 98 (by decide)]
      have e105 : A 105 = M3 105 := hS 105 (by decide)
      refine s_iload_n C dX11_order_48 rfl ?_
      refine s_aload_n C dX11_order_49 rfl ?_
      refine s_geti (k := 47) (j := 47) (z := M2 66 47) C dX11_order_50 fl_X11_271 (by decide) rfl (by decide) rfl (e47) (fun r50 => ?_)
      refine s_icmp_ge (tgt := 79) C dX11_order_53 (by decide) (by omega) (by omega) (fun c53 => ?_) (fun c53 => ?_)
      · skip
        refine s_iload_n C dX11_order_79 rfl ?_
        exact s_ireturn C dX11_order_80 (⟨_, rfl, Or.inr ⟨hhe, M1, r, hQ, hT, Or.inr ⟨h9, al, be, M2, M3, hK, Or.inr ⟨hg0, hrow, rfl, hS, h66, h52, fun j a b => hA j a (by omega)⟩⟩⟩⟩)
      · skip
        have hri := hrow i.toNat (by omega)
        rw [Int.toNat_of_nonneg hi.1] at hri
        have hb98 := (hO.2 _ hri.1.1 hri.1.2).2.2.2
        refine s_aload_n C dX11_order_56 rfl ?_
        refine s_getr (k := 51) (b := 104) C dX11_order_57 fl_X11_127 (by decide) rfl (by decide) rfl ?_
        refine s_iload_n C dX11_order_60 rfl ?_
        refine s_aload_n C dX11_order_61 rfl ?_
        refine s_getr (k := 44) (b := 98) C dX11_order_62 fl_X11_109 (by decide) rfl (by decide) rfl ?_
        refine s_aload_n C dX11_order_65 rfl ?_
        refine s_getr (k := 53) (b := 105) C dX11_order_66 fl_X11_130 (by decide) rfl (by decide) rfl ?_
        refine s_iload_n C dX11_order_69 rfl ?_
        refine s_iaload (n := 10) (z := M3 105 i) C dX11_order_70 (by decide) rfl rfl (by omega) (by omega) (by omega) (by rw [e105]) (fun r70 => ?_)
        refine s_iaload (n := 10) (z := M2 98 (M3 105 i)) C dX11_order_71 (by decide) rfl rfl (by omega) (by omega) (by omega) (by rw [e98]) (fun r71 => ?_)
        refine s_iastore (n := 10) C dX11_order_72 (by decide) rfl rfl (by omega) (by omega) (by omega) (by omega) ?_
        refine s_iinc (lv' := [_, _, _, _]) C dX11_order_73 rfl (by decide) rfl rfl rfl ?_
        refine s_goto (tgt := 48) C dX11_order_76 (by decide) ?_
        exact ih48 (i + 1) _ M1 M2 M3 r al be (by omega) hhe hQ hT h9 hK hg0 hrow hO (hS.put (by decide)) (fun k hk => by rw [mput_ne (by decide)]; exact h66 k hk) (by rw [mput_ne (by decide)]; exact h52) (fun j a b => by
          by_cases cj : j = i
          · subst cj; rw [mput_eq]
          · rw [mput_nk cj]; exact hA j a (by omega)) (by omega)
  refine s_aload_n C dX11_order_0 rfl ?_
  refine s_iload_n C dX11_order_1 rfl ?_
  refine s_callV1 C dX11_order_2 cy_X11_isHere cv_X11_isHere lk_X11_250 (ct_X11_isHere E M h hh hI.n) (by decide) (by decide) (by first | decide | (decide)) rfl (Nat.le_of_ble_eq_true rfl) (k_P (fun z2 q2 => ?_))
  have k2 : (z2 = 1 ∧ (0 ≤ h ∧ h ≤ M 66 24 - 1)) ∨ (z2 = 0 ∧ ¬ (0 ≤ h ∧ h ≤ M 66 24 - 1)) := q2
  clear q2
  refine s_if_ne (tgt := 11) C dX11_order_5 (by decide) (by omega) (fun c5 => ?_) (fun c5 => ?_)
  · skip
    refine s_aload_n C dX11_order_11 rfl ?_
    refine s_callV0 C dX11_order_12 cy_X11_makeTree cv_X11_makeTree lk_X11_253 (ct_mk E M hI (by omega)) (by decide) (by decide) (by first | decide | (decide)) rfl (Nat.le_of_ble_eq_true rfl) (k_V (fun M12 q12 => ?_))
    have hI2 := hI.tfs q12
    have n2 : M12 66 24 = M 66 24 := q12.2.1 24 (by decide) (by decide) (by decide)
    have hn := hI.n
    have hn2 : 1 ≤ M12 66 24 ∧ M12 66 24 ≤ 24 := by omega
    have hTF := q12.2.2.2
    obtain ⟨r, hT⟩ := hTF.tt hn2
    refine s_aload_n C dX11_order_15 rfl ?_
    refine s_iload_n C dX11_order_16 rfl ?_
    refine s_callV1 C dX11_order_17 cy_X11_takeItems cv_X11_takeItems lk_X11_283 (ct_X11_takeItems E M12 r hn2 hT h (by omega) hI2.2.2.2.2.2.1) (by decide) (by decide) (by first | decide | (decide)) rfl (Nat.le_of_ble_eq_true rfl) (k_I (fun z17 M17 q17 => ?_))
    refine s_if_ne (tgt := 25) C dX11_order_20 (by decide) (by rcases q17 with ⟨g, _⟩ | ⟨g, _⟩ <;> omega) (fun c20 => ?_) (fun c20 => ?_)
    · skip
      refine s_aload_n C dX11_order_25 rfl ?_
      have ht17 : bHu (M12 95) h (M12 66 24).toNat ≤ 9 ∧ ∃ al be : Int → Int, TM M12 M17 r h al be (M12 66 41) := by
        rcases q17 with ⟨g, _⟩ | ⟨_, g1, g2⟩
        · exact absurd g c20
        · exact ⟨g1, g2⟩
      obtain ⟨h9, al, be, hTM⟩ := ht17
      clear q17
      have hO := hTM.ro hn2 hT (by omega) h9
      refine s_callV0 C dX11_order_26 cy_X11_reckon cv_X11_reckon lk_X11_286 (ct_X11_reckon E M17 hO) (by decide) (by decide) (by first | decide | (decide)) rfl (Nat.le_of_ble_eq_true rfl) (k_I (fun z26 M26 q26 => ?_))
      obtain ⟨w1, w2, w3⟩ := q26
      have hKp : RKp M12 M17 M26 r h al be := ⟨hTM, w1, w2⟩
      have hm := hO.1
      have hg0 := w2 0 (by omega) (by have := r2n_le hO; omega)
      have w4 : (z26 = 1000000 ∧ 1000000 ≤ M26 103 0) ∨ (z26 = M26 103 0 ∧ M26 103 0 < 1000000) := by rcases w3 with g | g; exact Or.inl g; exact Or.inr ⟨g.1, g.2.1⟩
      have e47 : M26 66 47 = M17 66 47 := by rw [w1 66 (by decide)]
      refine s_istore_n (lv' := [_, _, _, _]) C dX11_order_29 (by decide) rfl rfl ?_
      refine s_iload_n C dX11_order_30 rfl ?_
      refine s_ldc C dX11_order_31 kc_X11_218 ?_
      refine s_icmp_lt (tgt := 38) C dX11_order_33 (by decide) (by omega) (by omega) (fun c33 => ?_) (fun c33 => ?_)
      · skip
        refine s_aload_n C dX11_order_38 rfl ?_
        refine s_aload_n C dX11_order_39 rfl ?_
        refine s_geti (k := 47) (j := 47) (z := M17 66 47) C dX11_order_40 fl_X11_271 (by decide) rfl (by decide) rfl (e47) (fun r40 => ?_)
        refine s_puti (k := 52) (j := 52) C dX11_order_43 fp_X11_289 (by decide) rfl rfl rfl (by omega) ?_
        refine s_iconst C dX11_order_46 ?_
        refine s_istore_n (lv' := [_, _, _, _]) C dX11_order_47 (by decide) rfl rfl ?_
        have w5 : z26 = M26 103 0 ∧ rRow M17 (M26 103) (M26 105) (M17 66 47).toNat := by
          rcases w3 with ⟨g, _⟩ | ⟨g1, _, g3⟩
          · exact absurd c33 (by omega)
          · exact ⟨g1, g3⟩
        rw [w5.1]
        exact L48 _ 0 _ M12 M17 M26 r al be (by omega) (by omega) q12 hT h9 hKp (by omega) w5.2 hO ((Sm.rf _ _).put (by decide)) (fun k hk => by rw [mput_nk hk]) (by rw [mput_eq]) (fun j a b => by omega) (Nat.lt_succ_self _)
      · skip
        refine s_iconst C dX11_order_36 ?_
        exact s_ireturn C dX11_order_37 (⟨_, rfl, Or.inr ⟨by omega, M12, r, q12, hT, Or.inr ⟨h9, al, be, M17, M26, hKp, Or.inl ⟨by omega, rfl, rfl⟩⟩⟩⟩)
    · skip
      refine s_iconst C dX11_order_23 ?_
      exact s_ireturn C dX11_order_24 (⟨_, rfl, Or.inr ⟨by omega, M12, r, q12, hT, Or.inl ⟨by rcases q17 with ⟨_, g, _⟩ | ⟨g, _⟩; exact g; exact absurd (g.symm.trans c20) (by decide), rfl, by rcases q17 with ⟨_, _, g⟩ | ⟨g, _⟩; exact g; exact absurd (g.symm.trans c20) (by decide)⟩⟩⟩)
  · skip
    refine s_bipush C dX11_order_8 (by decide) ?_
    exact s_ireturn C dX11_order_10 (⟨_, rfl, Or.inl ⟨fun h => by omega, rfl, rfl⟩⟩)

theorem mcopy_0 (M : Mm) (a b : Nat) (sp dp : Int) : mcopy M a sp b dp 0 = M := by
  funext x q
  by_cases h : x = b
  · subst h; rw [mcopy_at, if_neg (by omega)]
  · rw [mcopy_ne h]
theorem mcopy_s {M : Mm} {a b : Nat} (hab : a ≠ b) (i : Int) (hi : 0 ≤ i) : mput (mcopy M a 0 b 0 i) b i (M a i) = mcopy M a 0 b 0 (i + 1) := by
  funext x q
  by_cases h : x = b
  · subst h
    rw [mput_at, mcopy_at, mcopy_at]
    by_cases c : q = i
    · subst c; rw [if_pos rfl, if_pos (by omega), show 0 + (q - 0) = q by omega]
    · rw [if_neg c]
      by_cases c2 : 0 ≤ q ∧ q < 0 + i
      · rw [if_pos c2, if_pos (by omega)]
      · rw [if_neg c2, if_neg (by omega)]
  · rw [mput_ne h, mcopy_ne h, mcopy_ne h]

set_option maxRecDepth 20000 in
set_option maxHeartbeats 4000000 in
theorem ct_X11_arrange (E : Ev) (M : Mm) (hI : RI M) (h : Int) (hh : rg h) : Ct E yX11_arrange cX11_arrange 7 (some .int) 6 [zr E 66, zi h] M (pI (fun z M' => (¬ (0 ≤ h ∧ h < M 66 24) ∧ z = -2 ∧ M' = M) ∨ ((0 ≤ h ∧ h < M 66 24) ∧ ∃ M1 r, Tfs M M1 ∧ TT (M1 95) (M1 66 24) r ∧ ((9 < bHu (M1 95) h (M1 66 24).toNat ∧ z = -1 ∧ M' = M1) ∨ (bHu (M1 95) h (M1 66 24).toNat ≤ 9 ∧ ∃ al be M2 M3, RKp M1 M2 M3 r h al be ∧ ((1000000 ≤ M3 103 0 ∧ z = -1 ∧ M' = M3) ∨ (M3 103 0 < 1000000 ∧ rRow M2 (M3 103) (M3 105) (M2 66 47).toNat ∧ ∃ l u, Iv (M1 95) (M1 66 24) r h l u ∧ MvR M3 M' (M 66 24) z (arF (M3 85) l (roF M2 M3) (roS M2 M3) (M2 66 47).toNat)))))))) := by
  refine Ct.of (own := RX11) (lv0 := [some (zr E 66), some (zi h), none, none, none, none, none]) (by decide) rfl (Nat.le_of_ble_eq_true rfl) rfl (fun κ C => ?_)
  have L70 : ∀ (n9 : Nat) (i : Nat) (l u : Int) (A : Mm) (M1 M2 M3 : Mm) (r : Int) (al be : Int → Int) (u4 u5 u6 : Option Value) (hi : (i : Int) ≤ M2 66 47) (hhe : 0 ≤ h ∧ h < M 66 24) (hQ : Tfs M M1) (hT : TT (M1 95) (M1 66 24) r) (h9 : bHu (M1 95) h (M1 66 24).toNat ≤ 9) (hK : RKp M1 M2 M3 r h al be) (hg0 : M3 103 0 < 1000000) (hrow : rRow M2 (M3 103) (M3 105) (M2 66 47).toNat) (hO : RO M2) (hv : Iv (M1 95) (M 66 24) r h l u) (hS : Sm M3 A [106]) (hA : ∀ p, 0 ≤ p → p < M 66 24 → A 106 p = arF (M3 85) l (roF M2 M3) (roS M2 M3) i p) (hm : (M2 66 47 - (i : Int)).toNat < n9), Gm E κ (pI (fun z M' => (¬ (0 ≤ h ∧ h < M 66 24) ∧ z = -2 ∧ M' = M) ∨ ((0 ≤ h ∧ h < M 66 24) ∧ ∃ M1 r, Tfs M M1 ∧ TT (M1 95) (M1 66 24) r ∧ ((9 < bHu (M1 95) h (M1 66 24).toNat ∧ z = -1 ∧ M' = M1) ∨ (bHu (M1 95) h (M1 66 24).toNat ≤ 9 ∧ ∃ al be M2 M3, RKp M1 M2 M3 r h al be ∧ ((1000000 ≤ M3 103 0 ∧ z = -1 ∧ M' = M3) ∨ (M3 103 0 < 1000000 ∧ rRow M2 (M3 103) (M3 105) (M2 66 47).toNat ∧ ∃ l u, Iv (M1 95) (M1 66 24) r h l u ∧ MvR M3 M' (M 66 24) z (arF (M3 85) l (roF M2 M3) (roS M2 M3) (M2 66 47).toNat)))))))) 7 70 [some (zr E 66), some (zi h), some (zi (l + sumI (roS M2 M3) i)), some (zi (i : Int)), u4, u5, u6] [] A := by
    intro n9
    induction n9 with
    | zero => intro i l u A M1 M2 M3 r al be u4 u5 u6 hi hhe hQ hT h9 hK hg0 hrow hO hv hS hA hm; exact absurd hm (Nat.not_lt_zero _)
    | succ n9 ih70 =>
      intro i l u A M1 M2 M3 r al be u4 u5 u6 hi hhe hQ hT h9 hK hg0 hrow hO hv hS hA hm
      have hm := hO.1
      have nM : M1 66 24 = M 66 24 := hQ.2.1 24 (by decide) (by decide) (by decide)
      have hn := hI.n
      have hn2 : 1 ≤ M1 66 24 ∧ M1 66 24 ≤ 24 := by omega
      obtain ⟨⟨B, tB, sB⟩, _, _⟩ := hK.1
      have x66 : ∀ k : Int, k ≠ 47 → M3 66 k = M1 66 k := fun k hk => by rw [hK.2.1 66 (by decide), sB 66 (by decide)]; exact tB.2.1 k hk
      have x95 : M3 95 = M1 95 := by rw [hK.2.1 95 (by decide), sB 95 (by decide)]; exact tB.1 95 (by decide)
      have n3 : M3 66 24 = M 66 24 := by rw [x66 24 (by decide)]; exact nM
      have x47 : M3 66 47 = M2 66 47 := by rw [hK.2.1 66 (by decide)]
      have x98 : M3 98 = M2 98 := hK.2.1 98 (by decide)
      have x99 : M3 99 = M2 99 := hK.2.1 99 (by decide)
      have nA : A 66 24 = M 66 24 := by rw [hS 66 (by decide)]; exact n3
      have a47 : A 66 47 = M2 66 47 := by rw [hS 66 (by decide)]; exact x47
      have a98 : A 98 = M2 98 := by rw [hS 98 (by decide)]; exact x98
      have a99 : A 99 = M2 99 := by rw [hS 99 (by decide)]; exact x99
      have a95 : A 95 = M1 95 := by rw [hS 95 (by decide)]; exact x95
      have a85 : A 85 = M3 85 := hS 85 (by decide)
      have a105 : A 105 = M3 105 := hS 105 (by decide)
      have hv1 := hv.1
      have hfit := row_fit hn2 hT (by omega) h9 hK.1 (by rw [nM]; exact hv) hrow
      have L106 : ∀ (fr : Int) (u5 u6 : Option Value) (hil : (i : Int) < M2 66 47) (hfr : fr = roF M2 M3 (i : Int)) (hfb : 0 ≤ fr ∧ fr + roS M2 M3 (i : Int) ≤ M 66 24) (hsb : 1 ≤ roS M2 M3 (i : Int)), Gm E κ (pI (fun z M' => (¬ (0 ≤ h ∧ h < M 66 24) ∧ z = -2 ∧ M' = M) ∨ ((0 ≤ h ∧ h < M 66 24) ∧ ∃ M1 r, Tfs M M1 ∧ TT (M1 95) (M1 66 24) r ∧ ((9 < bHu (M1 95) h (M1 66 24).toNat ∧ z = -1 ∧ M' = M1) ∨ (bHu (M1 95) h (M1 66 24).toNat ≤ 9 ∧ ∃ al be M2 M3, RKp M1 M2 M3 r h al be ∧ ((1000000 ≤ M3 103 0 ∧ z = -1 ∧ M' = M3) ∨ (M3 103 0 < 1000000 ∧ rRow M2 (M3 103) (M3 105) (M2 66 47).toNat ∧ ∃ l u, Iv (M1 95) (M1 66 24) r h l u ∧ MvR M3 M' (M 66 24) z (arF (M3 85) l (roF M2 M3) (roS M2 M3) (M2 66 47).toNat)))))))) 7 106 [some (zr E 66), some (zi h), some (zi (l + sumI (roS M2 M3) i)), some (zi (i : Int)), some (zi (M3 105 (i : Int))), u5, u6] [zi fr] A := by
        intro fr u5 u6 hil hfr hfb hsb
        have hrb := (hrow i (by omega)).1
        have L111 : ∀ (n9 : Nat) (j : Int) (A2 : Mm) (hj : 0 ≤ j ∧ j ≤ roS M2 M3 (i : Int)) (hS2 : Sm M3 A2 [106]) (hA2 : ∀ p, 0 ≤ p → p < M 66 24 → A2 106 p = if l + sumI (roS M2 M3) i ≤ p ∧ p < l + sumI (roS M2 M3) i + j then M3 85 (roF M2 M3 (i : Int) + (p - (l + sumI (roS M2 M3) i))) else arF (M3 85) l (roF M2 M3) (roS M2 M3) i p) (hm : (roS M2 M3 (i : Int) - j).toNat < n9), Gm E κ (pI (fun z M' => (¬ (0 ≤ h ∧ h < M 66 24) ∧ z = -2 ∧ M' = M) ∨ ((0 ≤ h ∧ h < M 66 24) ∧ ∃ M1 r, Tfs M M1 ∧ TT (M1 95) (M1 66 24) r ∧ ((9 < bHu (M1 95) h (M1 66 24).toNat ∧ z = -1 ∧ M' = M1) ∨ (bHu (M1 95) h (M1 66 24).toNat ≤ 9 ∧ ∃ al be M2 M3, RKp M1 M2 M3 r h al be ∧ ((1000000 ≤ M3 103 0 ∧ z = -1 ∧ M' = M3) ∨ (M3 103 0 < 1000000 ∧ rRow M2 (M3 103) (M3 105) (M2 66 47).toNat ∧ ∃ l u, Iv (M1 95) (M1 66 24) r h l u ∧ MvR M3 M' (M 66 24) z (arF (M3 85) l (roF M2 M3) (roS M2 M3) (M2 66 47).toNat)))))))) 7 111 [some (zr E 66), some (zi h), some (zi (l + sumI (roS M2 M3) i + j)), some (zi (i : Int)), some (zi (M3 105 (i : Int))), some (zi fr), some (zi j)] [] A2 := by
          intro n9
          induction n9 with
          | zero => intro j A2  hj hS2 hA2 hm; exact absurd hm (Nat.not_lt_zero _)
          | succ n9 ih111 =>
            intro j A2  hj hS2 hA2 hm
            refine s_iload C dX11_arrange_111 rfl ?_
            refine s_aload_n C dX11_arrange_113 rfl ?_
            refine s_getr (k := 45) (b := 99) C dX11_arrange_114 fl_X11_112 (by decide) rfl (by decide) rfl ?_
            refine s_iload C dX11_arrange_117 rfl ?_
            refine s_iaload (n := 10) (z := roS M2 M3 (i : Int)) C dX11_arrange_119 (by decide) rfl rfl (by omega) (by omega) (by omega) (by rw [hS2 99 (by decide), x99]; rfl) (fun r119 => ?_)
            refine s_icmp_ge (tgt := 148) C dX11_arrange_120 (by decide) (by omega) (by omega) (fun c120 => ?_) (fun c120 => ?_)
            · skip
              refine s_iinc (lv' := [_, _, _, _, _, _, _]) C dX11_arrange_148 rfl (by decide) rfl rfl rfl ?_
              refine s_goto (tgt := 70) C dX11_arrange_151 (by decide) ?_
              have c0 : j = roS M2 M3 (i : Int) := by omega
              have e1 : sumI (roS M2 M3) (i + 1) = sumI (roS M2 M3) i + roS M2 M3 (i : Int) := rfl
              rw [show l + sumI (roS M2 M3) i + j = l + sumI (roS M2 M3) (i + 1) by omega, show (i : Int) + 1 = ((i + 1 : Nat) : Int) by omega]
              exact ih70 (i + 1) l u A2 M1 M2 M3 r al be _ _ _ (by omega) hhe hQ hT h9 hK hg0 hrow hO hv hS2 (fun p p0 p1 => by rw [hA2 p p0 p1, c0]; rfl) (by omega)
            · skip
              have hf1 := hfit (i + 1) (by omega)
              have hf0 := hfit i (by omega)
              have e1 : sumI (fun j => M2 99 (M3 105 j)) (i + 1) = sumI (roS M2 M3) i + roS M2 M3 (i : Int) := rfl
              have e0 : sumI (fun j => M2 99 (M3 105 j)) i = sumI (roS M2 M3) i := rfl
              rw [e1] at hf1
              rw [e0] at hf0
              refine s_aload_n C dX11_arrange_123 rfl ?_
              refine s_getr (k := 54) (b := 106) C dX11_arrange_124 fl_X11_133 (by decide) rfl (by decide) rfl ?_
              refine s_iload_n C dX11_arrange_127 rfl ?_
              refine s_aload_n C dX11_arrange_128 rfl ?_
              refine s_getr (k := 23) (b := 85) C dX11_arrange_129 fl_X11_65 (by decide) rfl (by decide) rfl ?_
              refine s_iload C dX11_arrange_132 rfl ?_
              refine s_iload C dX11_arrange_134 rfl ?_
              refine s_iadd C dX11_arrange_136 ?_
              refine s_iaload (n := 24) (z := M3 85 (fr + j)) C dX11_arrange_137 (by decide) rfl rfl (by omega) (by omega) (by omega) (by rw [hS2 85 (by decide)]) (fun r137 => ?_)
              refine s_iastore (n := 24) C dX11_arrange_138 (by decide) rfl rfl (by omega) (by omega) (by omega) (by omega) ?_
              refine s_iinc (lv' := [_, _, _, _, _, _, _]) C dX11_arrange_139 rfl (by decide) rfl rfl rfl ?_
              refine s_iinc (lv' := [_, _, _, _, _, _, _]) C dX11_arrange_142 rfl (by decide) rfl rfl rfl ?_
              refine s_goto (tgt := 111) C dX11_arrange_145 (by decide) ?_
              rw [show l + sumI (roS M2 M3) i + j + 1 = l + sumI (roS M2 M3) i + (j + 1) by omega]
              exact ih111 (j + 1) _ (by omega) (hS2.put (by decide)) (fun p p0 p1 => by
                by_cases cp : p = l + sumI (roS M2 M3) i + j
                · subst cp
                  rw [mput_eq, if_pos (by omega), ← hfr]
                  congr 1; omega
                · rw [mput_nk cp, hA2 p p0 p1]
                  by_cases c9 : l + sumI (roS M2 M3) i ≤ p ∧ p < l + sumI (roS M2 M3) i + j
                  · rw [if_pos c9, if_pos (by omega)]
                  · rw [if_neg c9, if_neg (by omega)]) (by omega)
        refine s_istore (lv' := [_, _, _, _, _, _, _]) C dX11_arrange_106 (by decide) rfl rfl ?_
        refine s_iconst C dX11_arrange_108 ?_
        refine s_istore (lv' := [_, _, _, _, _, _, _]) C dX11_arrange_109 (by decide) rfl rfl ?_
        rw [show l + sumI (roS M2 M3) i = l + sumI (roS M2 M3) i + 0 by omega]
        exact L111 _ 0 A (by omega) hS (fun p p0 p1 => by rw [if_neg (by omega)]; exact hA p p0 p1) (Nat.lt_succ_self _)
      refine s_iload_n C dX11_arrange_70 rfl ?_
      refine s_aload_n C dX11_arrange_71 rfl ?_
      refine s_geti (k := 47) (j := 47) (z := M2 66 47) C dX11_arrange_72 fl_X11_271 (by decide) rfl (by decide) rfl (a47) (fun r72 => ?_)
      refine s_icmp_ge (tgt := 154) C dX11_arrange_75 (by decide) (by omega) (by omega) (fun c75 => ?_) (fun c75 => ?_)
      · skip
        refine s_aload_n C dX11_arrange_154 rfl ?_
        refine s_callV0 C dX11_arrange_155 cy_X11_setAll cv_X11_setAll lk_X11_292 (ct_X11_setAll E A (M 66 24) (by omega) nA) (by decide) (by decide) (by first | decide | (decide)) rfl (Nat.le_of_ble_eq_true rfl) (k_I (fun z155 M155 q155 => ?_))
        exact s_ireturn C dX11_arrange_158 (⟨_, rfl, Or.inr ⟨hhe, M1, r, hQ, hT, Or.inr ⟨h9, al, be, M2, M3, hK, Or.inr ⟨hg0, hrow, l, u, by rw [nM]; exact hv, MvR.of (by omega) hS (fun p p0 p1 => by rw [hA p p0 p1, show (M2 66 47).toNat = i by omega]) q155⟩⟩⟩⟩)
      · skip
        have hri := hrow i (by omega)
        have hob := hO.2 _ hri.1.1 hri.1.2
        have hit := tB.of hri.1.1 (by rw [← sB 66 (by decide)]; exact hri.1.2)
        rw [← sB 98 (by decide), ← sB 99 (by decide), ← sB 100 (by decide)] at hit
        refine s_aload_n C dX11_arrange_78 rfl ?_
        refine s_getr (k := 53) (b := 105) C dX11_arrange_79 fl_X11_130 (by decide) rfl (by decide) rfl ?_
        refine s_iload_n C dX11_arrange_82 rfl ?_
        refine s_iaload (n := 10) (z := M3 105 (i : Int)) C dX11_arrange_83 (by decide) rfl rfl (by omega) (by omega) (by omega) (by rw [a105]) (fun r83 => ?_)
        refine s_istore (lv' := [_, _, _, _, _, _, _]) C dX11_arrange_84 (by decide) rfl rfl ?_
        refine s_iload C dX11_arrange_86 rfl ?_
        refine s_if_ne (tgt := 95) C dX11_arrange_88 (by decide) (by omega) (fun c88 => ?_) (fun c88 => ?_)
        · skip
          refine s_aload_n C dX11_arrange_95 rfl ?_
          refine s_aload_n C dX11_arrange_96 rfl ?_
          refine s_getr (k := 44) (b := 98) C dX11_arrange_97 fl_X11_109 (by decide) rfl (by decide) rfl ?_
          refine s_iload C dX11_arrange_100 rfl ?_
          refine s_iaload (n := 10) (z := M2 98 (M3 105 (i : Int))) C dX11_arrange_102 (by decide) rfl rfl (by omega) (by omega) (by omega) (by rw [a98]) (fun r102 => ?_)
          have hit2 : ∃ q : Nat, (q : Int) < M1 66 24 ∧ M2 98 (M3 105 (i : Int)) = (q : Int) ∧ ∀ l u, Iv (M1 95) (M1 66 24) r (q : Int) l u → M2 99 (M3 105 (i : Int)) = u - l + 1 ∧ M2 100 (M3 105 (i : Int)) = (q : Int) - l := by
            rcases hit with ⟨g, _⟩ | ⟨_, q, q1, q2, q3, q4, q5⟩
            · exact absurd g c88
            · exact ⟨q, q1, q4, q5⟩
          obtain ⟨q, q1, q4, q5⟩ := hit2
          obtain ⟨l2, u2, hv2⟩ := hT.iv (i := (q : Int)) (by omega)
          obtain ⟨q6, q7⟩ := q5 l2 u2 hv2
          have hv21 := hv2.1
          refine s_callV1 C dX11_arrange_103 cy_X11_partBegin cv_X11_partBegin lk_X11_274 (ct_X11_partBegin E A r (by rw [nA]; omega) (by rw [a95, nA, ← nM]; exact hT) (M2 98 (M3 105 (i : Int))) (by rw [nA]; omega)) (by decide) (by decide) (by first | decide | (decide)) rfl (Nat.le_of_ble_eq_true rfl) (k_P (fun z103 q103 => ?_))
          rw [a95, nA, ← nM, q4] at q103
          have e103 := q103 l2 u2 hv2
          subst e103
          exact L106 _ _ _ (by omega) (by unfold roF; omega) (by unfold roS; omega) (by unfold roS; omega)
        · skip
          refine s_iload_n C dX11_arrange_91 rfl ?_
          refine s_goto (tgt := 106) C dX11_arrange_92 (by decide) ?_
          exact L106 h _ _ (by omega) (by
            rcases hit with ⟨_, g1, _, g3⟩ | ⟨g, _⟩
            · unfold roF; rw [g1, g3]; omega
            · omega) (by
            rcases hit with ⟨_, g1, g2, g3⟩ | ⟨g, _⟩
            · unfold roS; rw [g2]; omega
            · omega) (by unfold roS; omega)
  have L36 : ∀ (n9 : Nat) (i : Int) (M1 M2 M3 : Mm) (r : Int) (al be : Int → Int) (u3 u4 u5 u6 : Option Value) (hi : 0 ≤ i ∧ i ≤ M 66 24) (hhe : 0 ≤ h ∧ h < M 66 24) (hQ : Tfs M M1) (hT : TT (M1 95) (M1 66 24) r) (h9 : bHu (M1 95) h (M1 66 24).toNat ≤ 9) (hK : RKp M1 M2 M3 r h al be) (hg0 : M3 103 0 < 1000000) (hrow : rRow M2 (M3 103) (M3 105) (M2 66 47).toNat) (hO : RO M2) (hm : (M 66 24 - i).toNat < n9), Gm E κ (pI (fun z M' => (¬ (0 ≤ h ∧ h < M 66 24) ∧ z = -2 ∧ M' = M) ∨ ((0 ≤ h ∧ h < M 66 24) ∧ ∃ M1 r, Tfs M M1 ∧ TT (M1 95) (M1 66 24) r ∧ ((9 < bHu (M1 95) h (M1 66 24).toNat ∧ z = -1 ∧ M' = M1) ∨ (bHu (M1 95) h (M1 66 24).toNat ≤ 9 ∧ ∃ al be M2 M3, RKp M1 M2 M3 r h al be ∧ ((1000000 ≤ M3 103 0 ∧ z = -1 ∧ M' = M3) ∨ (M3 103 0 < 1000000 ∧ rRow M2 (M3 103) (M3 105) (M2 66 47).toNat ∧ ∃ l u, Iv (M1 95) (M1 66 24) r h l u ∧ MvR M3 M' (M 66 24) z (arF (M3 85) l (roF M2 M3) (roS M2 M3) (M2 66 47).toNat)))))))) 7 36 [some (zr E 66), some (zi h), some (zi i), u3, u4, u5, u6] [] (mcopy M3 85 0 106 0 i) := by
    intro n9
    induction n9 with
    | zero => intro i M1 M2 M3 r al be u3 u4 u5 u6 hi hhe hQ hT h9 hK hg0 hrow hO hm; exact absurd hm (Nat.not_lt_zero _)
    | succ n9 ih36 =>
      intro i M1 M2 M3 r al be u3 u4 u5 u6 hi hhe hQ hT h9 hK hg0 hrow hO hm
      have hm := hO.1
      have nM : M1 66 24 = M 66 24 := hQ.2.1 24 (by decide) (by decide) (by decide)
      have hn := hI.n
      have hn2 : 1 ≤ M1 66 24 ∧ M1 66 24 ≤ 24 := by omega
      obtain ⟨⟨B, tB, sB⟩, _, _⟩ := hK.1
      have x66 : ∀ k : Int, k ≠ 47 → M3 66 k = M1 66 k := fun k hk => by rw [hK.2.1 66 (by decide), sB 66 (by decide)]; exact tB.2.1 k hk
      have x95 : M3 95 = M1 95 := by rw [hK.2.1 95 (by decide), sB 95 (by decide)]; exact tB.1 95 (by decide)
      have n3 : M3 66 24 = M 66 24 := by rw [x66 24 (by decide)]; exact nM
      have x47 : M3 66 47 = M2 66 47 := by rw [hK.2.1 66 (by decide)]
      have x98 : M3 98 = M2 98 := hK.2.1 98 (by decide)
      have x99 : M3 99 = M2 99 := hK.2.1 99 (by decide)
      refine s_iload_n C dX11_arrange_36 rfl ?_
      refine s_aload_n C dX11_arrange_37 rfl ?_
      refine s_geti (k := 24) (j := 24) (z := M 66 24) C dX11_arrange_38 fl_X11_196 (by decide) rfl (by decide) rfl (by rw [mcopy_ne (by decide)]; exact n3) (fun r38 => ?_)
      refine s_icmp_ge (tgt := 62) C dX11_arrange_41 (by decide) (by omega) (by omega) (fun c41 => ?_) (fun c41 => ?_)
      · skip
        refine s_aload_n C dX11_arrange_62 rfl ?_
        refine s_iload_n C dX11_arrange_63 rfl ?_
        refine s_callV1 C dX11_arrange_64 cy_X11_partBegin cv_X11_partBegin lk_X11_274 (ct_X11_partBegin E (mcopy M3 85 0 106 0 i) r (by rw [mcopy_ne (by decide), n3]; omega) (by rw [mcopy_ne (by decide), mcopy_ne (by decide), x95, n3, ← nM]; exact hT) h (by rw [mcopy_ne (by decide), n3]; omega)) (by decide) (by decide) (by first | decide | (decide)) rfl (Nat.le_of_ble_eq_true rfl) (k_P (fun z64 q64 => ?_))
        rw [mcopy_ne (by decide), mcopy_ne (by decide), x95, n3] at q64
        obtain ⟨l, u, hv⟩ := hT.iv (i := h) (by omega)
        rw [nM] at hv
        have e64 := q64 l u hv
        subst e64
        refine s_istore_n (lv' := [_, _, _, _, _, _, _]) C dX11_arrange_67 (by decide) rfl rfl ?_
        refine s_iconst C dX11_arrange_68 ?_
        refine s_istore_n (lv' := [_, _, _, _, _, _, _]) C dX11_arrange_69 (by decide) rfl rfl ?_
        have c0 : i = M 66 24 := by omega
        rw [show z64 = z64 + sumI (roS M2 M3) 0 from by simp [sumI]]
        exact L70 _ 0 z64 u (mcopy M3 85 0 106 0 i) M1 M2 M3 r al be _ _ _ (by omega) hhe hQ hT h9 hK hg0 hrow hO hv (fun a ha => mcopy_ne (fun q => ha (by rw [q]; decide))) (fun p p0 p1 => by rw [mcopy_at, if_pos (by omega), show 0 + (p - 0) = p by omega]; rfl) (Nat.lt_succ_self _)
      · skip
        refine s_aload_n C dX11_arrange_44 rfl ?_
        refine s_getr (k := 54) (b := 106) C dX11_arrange_45 fl_X11_133 (by decide) rfl (by decide) rfl ?_
        refine s_iload_n C dX11_arrange_48 rfl ?_
        refine s_aload_n C dX11_arrange_49 rfl ?_
        refine s_getr (k := 23) (b := 85) C dX11_arrange_50 fl_X11_65 (by decide) rfl (by decide) rfl ?_
        refine s_iload_n C dX11_arrange_53 rfl ?_
        refine s_iaload (n := 24) (z := M3 85 i) C dX11_arrange_54 (by decide) rfl rfl (by omega) (by omega) (by omega) (by rw [mcopy_ne (by decide)]) (fun r54 => ?_)
        refine s_iastore (n := 24) C dX11_arrange_55 (by decide) rfl rfl (by omega) (by omega) (by omega) (by omega) ?_
        refine s_iinc (lv' := [_, _, _, _, _, _, _]) C dX11_arrange_56 rfl (by decide) rfl rfl rfl ?_
        refine s_goto (tgt := 36) C dX11_arrange_59 (by decide) ?_
        rw [mcopy_s (by decide) _ hi.1]
        exact ih36 (i + 1) M1 M2 M3 r al be _ _ _ _ (by omega) hhe hQ hT h9 hK hg0 hrow hO (by omega)
  refine s_aload_n C dX11_arrange_0 rfl ?_
  refine s_iload_n C dX11_arrange_1 rfl ?_
  refine s_callV1 C dX11_arrange_2 cy_X11_isHere cv_X11_isHere lk_X11_250 (ct_X11_isHere E M h hh hI.n) (by decide) (by decide) (by first | decide | (decide)) rfl (Nat.le_of_ble_eq_true rfl) (k_P (fun z2 q2 => ?_))
  have k2 : (z2 = 1 ∧ (0 ≤ h ∧ h ≤ M 66 24 - 1)) ∨ (z2 = 0 ∧ ¬ (0 ≤ h ∧ h ≤ M 66 24 - 1)) := q2
  clear q2
  refine s_if_ne (tgt := 11) C dX11_arrange_5 (by decide) (by omega) (fun c5 => ?_) (fun c5 => ?_)
  · skip
    refine s_aload_n C dX11_arrange_11 rfl ?_
    refine s_callV0 C dX11_arrange_12 cy_X11_makeTree cv_X11_makeTree lk_X11_253 (ct_mk E M hI (by omega)) (by decide) (by decide) (by first | decide | (decide)) rfl (Nat.le_of_ble_eq_true rfl) (k_V (fun M12 q12 => ?_))
    have hI2 := hI.tfs q12
    have n2 : M12 66 24 = M 66 24 := q12.2.1 24 (by decide) (by decide) (by decide)
    have hn := hI.n
    have hn2 : 1 ≤ M12 66 24 ∧ M12 66 24 ≤ 24 := by omega
    have hTF := q12.2.2.2
    obtain ⟨r, hT⟩ := hTF.tt hn2
    refine s_aload_n C dX11_arrange_15 rfl ?_
    refine s_iload_n C dX11_arrange_16 rfl ?_
    refine s_callV1 C dX11_arrange_17 cy_X11_takeItems cv_X11_takeItems lk_X11_283 (ct_X11_takeItems E M12 r hn2 hT h (by omega) hI2.2.2.2.2.2.1) (by decide) (by decide) (by first | decide | (decide)) rfl (Nat.le_of_ble_eq_true rfl) (k_I (fun z17 M17 q17 => ?_))
    refine s_if_eq (tgt := 32) C dX11_arrange_20 (by decide) (by rcases q17 with ⟨g, _⟩ | ⟨g, _⟩ <;> omega) (fun c20 => ?_) (fun c20 => ?_)
    · skip
      refine s_iconst C dX11_arrange_32 ?_
      exact s_ireturn C dX11_arrange_33 (⟨_, rfl, by first | exact Or.inr ⟨by omega, M12, r, q12, hT, Or.inl ⟨by rcases q17 with ⟨_, g, _⟩ | ⟨g, _⟩; exact g; exact absurd (g.symm.trans c20) (by decide), rfl, by rcases q17 with ⟨_, _, g⟩ | ⟨g, _⟩; exact g; exact absurd (g.symm.trans c20) (by decide)⟩⟩ | exact Or.inr ⟨by omega, M12, r, q12, hT, Or.inr ⟨h9, al, be, M17, M24, hKp, Or.inl ⟨by omega, rfl, rfl⟩⟩⟩⟩)
    · skip
      refine s_aload_n C dX11_arrange_23 rfl ?_
      have ht17 : bHu (M12 95) h (M12 66 24).toNat ≤ 9 ∧ ∃ al be : Int → Int, TM M12 M17 r h al be (M12 66 41) := by
        rcases q17 with ⟨g, _⟩ | ⟨_, g1, g2⟩
        · exact absurd g c20
        · exact ⟨g1, g2⟩
      obtain ⟨h9, al, be, hTM⟩ := ht17
      clear q17
      have hO := hTM.ro hn2 hT (by omega) h9
      refine s_callV0 C dX11_arrange_24 cy_X11_reckon cv_X11_reckon lk_X11_286 (ct_X11_reckon E M17 hO) (by decide) (by decide) (by first | decide | (decide)) rfl (Nat.le_of_ble_eq_true rfl) (k_I (fun z24 M24 q24 => ?_))
      obtain ⟨w1, w2, w3⟩ := q24
      have hKp : RKp M12 M17 M24 r h al be := ⟨hTM, w1, w2⟩
      have hm := hO.1
      have hg0 := w2 0 (by omega) (by have := r2n_le hO; omega)
      have w4 : (z24 = 1000000 ∧ 1000000 ≤ M24 103 0) ∨ (z24 = M24 103 0 ∧ M24 103 0 < 1000000) := by rcases w3 with g | g; exact Or.inl g; exact Or.inr ⟨g.1, g.2.1⟩
      have e47 : M24 66 47 = M17 66 47 := by rw [w1 66 (by decide)]
      refine s_ldc C dX11_arrange_27 kc_X11_218 ?_
      refine s_icmp_lt (tgt := 34) C dX11_arrange_29 (by decide) (by omega) (by omega) (fun c29 => ?_) (fun c29 => ?_)
      · skip
        refine s_iconst C dX11_arrange_34 ?_
        refine s_istore_n (lv' := [_, _, _, _, _, _, _]) C dX11_arrange_35 (by decide) rfl rfl ?_
        have w5 : rRow M17 (M24 103) (M24 105) (M17 66 47).toNat := by
          rcases w3 with ⟨g, _⟩ | ⟨g1, _, g3⟩
          · exact absurd c29 (by omega)
          · exact g3
        rw [← mcopy_0 M24 85 106 0 0]
        exact L36 _ 0 M12 M17 M24 r al be _ _ _ _ (by omega) (by omega) q12 hT h9 hKp (by omega) w5 hO (Nat.lt_succ_self _)
      · skip
        refine s_iconst C dX11_arrange_32 ?_
        exact s_ireturn C dX11_arrange_33 (⟨_, rfl, by first | exact Or.inr ⟨by omega, M12, r, q12, hT, Or.inl ⟨by rcases q17 with ⟨_, g, _⟩ | ⟨g, _⟩; exact g; exact absurd (g.symm.trans c20) (by decide), rfl, by rcases q17 with ⟨_, _, g⟩ | ⟨g, _⟩; exact g; exact absurd (g.symm.trans c20) (by decide)⟩⟩ | exact Or.inr ⟨by omega, M12, r, q12, hT, Or.inr ⟨h9, al, be, M17, M24, hKp, Or.inl ⟨by omega, rfl, rfl⟩⟩⟩⟩)
  · skip
    refine s_bipush C dX11_arrange_8 (by decide) ?_
    exact s_ireturn C dX11_arrange_10 (⟨_, rfl, Or.inl ⟨fun h => by omega, rfl, rfl⟩⟩)
