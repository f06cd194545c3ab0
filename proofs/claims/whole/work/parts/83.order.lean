def gsz (S : Int → Int) (s : Int) (k : Nat) : Int := sumI (fun q => if s.toNat.testBit q.toNat then S q else 0) k
theorem gsz_s (S : Int → Int) (s : Int) (k : Nat) : gsz S s (k + 1) = gsz S s k + (if s.toNat.testBit k then S (k : Int) else 0) := by
  unfold gsz
  rw [sumI]
  simp only [Int.toNat_natCast]
theorem gsz_or {S : Int → Int} {s u : Int} (hs : 0 ≤ s ∧ s < 1024) (hu : 0 ≤ u ∧ u < 10) (hn : ¬ inS s u) : ∀ k : Nat, gsz S (zor s (zshl 1 u)) k = gsz S s k + (if u < (k : Int) then S u else 0) := by
  intro k
  induction k with
  | zero => rw [if_neg (by omega)]; rfl
  | succ k ih =>
    have h := inS_or (x := s) (by omega) (k := u) (by omega) (k : Int)
    rw [gsz_s, gsz_s, ih]
    by_cases c : (k : Int) = u
    · have b1 : (zor s (zshl 1 u)).toNat.testBit k = true := h.mpr (Or.inr (by omega))
      have b2 : ¬ s.toNat.testBit k = true := by rw [← c] at hn; exact hn
      rw [if_pos b1, if_neg b2, if_neg (by omega), if_pos (by omega), c]; try omega
    · have b3 : (zor s (zshl 1 u)).toNat.testBit k = s.toNat.testBit k := by
        by_cases c2 : s.toNat.testBit k = true
        · rw [c2]; exact h.mpr (Or.inl c2)
        · have c3 : ¬ (zor s (zshl 1 u)).toNat.testBit k = true := fun g => (h.mp g).elim c2 (fun g => by omega)
          rw [Bool.eq_false_iff.mpr c2, Bool.eq_false_iff.mpr c3]
      rw [b3]
      by_cases c4 : u < (k : Int)
      · rw [if_pos c4, if_pos (show u < ((k + 1 : Nat) : Int) by omega)]; omega
      · rw [if_neg c4, if_neg (show ¬ u < ((k + 1 : Nat) : Int) by omega)]; omega
theorem gsz_le {S : Int → Int} {m : Int} (h : ∀ q, 0 ≤ q → q < m → 0 ≤ S q) (s : Int) : ∀ k : Nat, (k : Int) ≤ m → 0 ≤ gsz S s k ∧ gsz S s k ≤ sumI S k := by
  intro k
  induction k with
  | zero => intro _; exact ⟨Int.le_refl _, Int.le_refl _⟩
  | succ k ih =>
    intro hk
    have i2 := ih (by omega)
    have b := h (k : Int) (by omega) (by omega)
    rw [gsz_s, sumI]
    split <;> omega
theorem gsz_0 (S : Int → Int) : ∀ j : Nat, gsz S 0 j = 0 := by
  intro j
  induction j with
  | zero => rfl
  | succ j ih => rw [gsz_s, ih, if_neg (by simp)]; rfl
/-- the class's least is reached -/
theorem oMn_at {M : Mm} {f : Int → Int} {s : Int} : ∀ k : Nat, oMn M f s k = 268435456 ∨ ∃ q : Nat, q < k ∧ oMay M (q : Int) s ∧ oCf M f (q : Int) s = oMn M f s k := by
  intro k
  induction k with
  | zero => exact Or.inl rfl
  | succ k ih =>
    by_cases c : oMay M (k : Int) s
    · rw [oMn_pos c]
      by_cases c2 : oCf M f (k : Int) s ≤ oMn M f s k
      · exact Or.inr ⟨k, by omega, c, by omega⟩
      · rcases ih with g1 | ⟨q, q1, q2, q3⟩
        · left; omega
        · exact Or.inr ⟨q, by omega, q2, by omega⟩
    · rw [oMn_neg c]
      rcases ih with g1 | ⟨q, q1, q2⟩
      · exact Or.inl g1
      · exact Or.inr ⟨q, by omega, q2⟩
/-- the class's row is one of those that cost least, all along -/
theorem oRow_ok {M : Mm} {f r : Int → Int} (hO : OI M) (hE : oEq M f) (h0 : f 0 < 268435456) (hr : oRow M f r) : ∀ k : Nat, (k : Int) ≤ M 58 8 → (0 ≤ sq r k ∧ sq r k < o2n M) ∧ pcS (sq r k) = (k : Int) ∧ f (sq r k) < 268435456 ∧ ∀ j : Nat, j < k → oYes M f (r j) (sq r j) := by
  intro k
  have hm := hO.1
  have w := o2n_le hO
  induction k with
  | zero => intro _; exact ⟨by rw [sq]; omega, by rw [sq]; decide +kernel, by rw [sq]; exact h0, fun j hj => by omega⟩
  | succ k ih =>
    intro hk
    obtain ⟨i1, i2, i3, i4⟩ := ih (by omega)
    have q := hr k (by omega)
    have hne : sq r k ≠ o2n M - 1 := by
      intro e
      rw [e] at i2
      have := pcS_all (M 58 8).toNat (by omega)
      unfold o2n at i2
      omega
    have hy : oYes M f (r k) (sq r k) := by
      by_cases c : r k < M 58 8 - 1
      · exact q.2.2 c
      · have e := hE.2.1 (sq r k) i1.1 (by omega)
        rcases oMn_at (M := M) (f := f) (s := sq r k) (M 58 8).toNat with g | ⟨x, x1, x2, x3⟩
        · omega
        · have hx : oYes M f (x : Int) (sq r k) := ⟨x2, x3.trans e.symm⟩
          by_cases c2 : (x : Int) < r k
          · exact absurd hx (q.2.1 (x : Int) (by omega) c2)
          · rw [show r k = (x : Int) by omega]; exact hx
    have hz := zor_o hO i1 (u := r k) q.1
    have hst := oStep_nn hO q.1 i1 hy.1.1
    have hc : f (zor (sq r k) (zshl 1 (r k))) < 268435456 := by
      have := hy.2
      unfold oCf at this
      omega
    refine ⟨by rw [sq]; exact hz, by rw [sq, pcS_or (by omega) (by omega) hy.1.1, i2]; omega, by rw [sq]; exact hc, fun j hj => ?_⟩
    by_cases c : j = k
    · subst c; exact hy
    · exact i4 j (by omega)
theorem UL.sum {M A : Mm} {n r h : Int} (b : BnT M n r) (hh : 0 ≤ h ∧ h < n) (t : UL M A h n.toNat) : ∀ d : Nat, (d : Int) ≤ n → sumI (A 61) (cU (M 51) h d).toNat = (if h < (d : Int) then 1 else 0) + chS (M 51) r n h d := by
  intro d
  obtain ⟨t1, t2, t3, t4, t5⟩ := t
  induction d with
  | zero => intro _; rw [if_neg (by omega)]; rfl
  | succ d ih =>
    intro hd
    have i2 := ih (by omega)
    have hb := cU_le (M 51) h d
    rw [chS_s]
    by_cases c : (d : Int) = h ∨ M 51 (d : Int) = h
    · have e : (cU (M 51) h (d + 1)).toNat = (cU (M 51) h d).toNat + 1 := by rw [cU_s, if_pos c]; omega
      have g := (t5 d (by omega) c).2.2.1
      rw [e, sumI, i2, Int.toNat_of_nonneg (by omega), g]
      by_cases c1 : (d : Int) = h
      · have c2 : ¬ M 51 (d : Int) = h := by rw [c1]; exact b.nh hh
        rw [if_pos c1, if_neg c2, if_neg (by omega), if_pos (by omega)]; omega
      · have c2 := c.resolve_left c1
        obtain ⟨l, u, hv⟩ := b.2.1.iv (i := (d : Int)) (by omega)
        have g2 := ((b.2.2 (d : Int) (by omega) (by omega)).2 l u hv).2
        rw [if_neg c1, if_pos c2, g2, hv.pz]
        by_cases c3 : h < (d : Int)
        · rw [if_pos c3, if_pos (by omega)]; omega
        · rw [if_neg c3, if_neg (by omega)]; omega
    · have e : cU (M 51) h (d + 1) = cU (M 51) h d := by rw [cU_s, if_neg c]; omega
      rw [e, i2, if_neg (fun q => c (Or.inr q))]
      have c1 : (d : Int) ≠ h := fun q => c (Or.inl q)
      by_cases c3 : h < (d : Int)
      · rw [if_pos c3, if_pos (by omega)]; omega
      · rw [if_neg c3, if_neg (by omega)]; omega
def XKp (M1 M2 M3 : Mm) (n h : Int) (al be : Int → Int) : Prop := UM M1 M2 h n al be (M1 55 2) ∧ Sm M2 M3 [63, 64] ∧ oEq M2 (M3 63)
def xoF (M2 M3 : Mm) (j : Int) : Int := M2 60 (M3 64 j)
def xoS (M2 M3 : Mm) (j : Int) : Int := M2 61 (M3 64 j)
theorem UM.oi {M A : Mm} {n r h p : Int} {al be : Int → Int} (b : BnT M n r) (hh : 0 ≤ h ∧ h < n) (h9 : bHu (M 51) h n.toNat ≤ 9) (t : UM M A h n al be p) : OI A := by
  obtain ⟨⟨B, tB, sB⟩, _, t3⟩ := t
  exact tB.oi b hh h9 sB (fun u a c => (t3 u a c).1)
/-- units fit into the part of h -/
theorem xrow_fit {M A : Mm} {n r h l u p : Int} {al be f rw : Int → Int} (b : BnT M n r) (hh : 0 ≤ h ∧ h < n) (h9 : bHu (M 51) h n.toNat ≤ 9) (t : UM M A h n al be p) (hv : Iv (M 51) n r h l u) (hE : oEq A f) (h0 : f 0 < 268435456) (hr : oRow A f rw) : ∀ k : Nat, (k : Int) ≤ A 58 8 → 0 ≤ sumI (fun j => A 61 (rw j)) k ∧ sumI (fun j => A 61 (rw j)) k ≤ u - l + 1 := by
  intro k hk
  have hO := t.oi b hh h9
  have hm := hO.1
  have w := o2n_le hO
  have hsum : ∀ k : Nat, (k : Int) ≤ A 58 8 → sumI (fun j => A 61 (rw j)) k = gsz (A 61) (sq rw k) (A 58 8).toNat := by
    intro k
    induction k with
    | zero => intro _; rw [sq, gsz_0]; rfl
    | succ k ih =>
      intro hk
      obtain ⟨i1, i2, i3, i4⟩ := oRow_ok hO hE h0 hr (k + 1) hk
      obtain ⟨j1, _⟩ := oRow_ok hO hE h0 hr k (by omega)
      have q := hr k (by omega)
      rw [sumI, ih (by omega), sq, gsz_or (by omega) (by omega) (i4 k (by omega)).1.1, if_pos (by omega)]
  rw [hsum k hk]
  have hp := gsz_le (S := A 61) (m := A 58 8) (fun q a c => by have := (hO.2.2 q a c).1; omega) (sq rw k) (A 58 8).toNat (by omega)
  obtain ⟨⟨B, tB, sB⟩, _, _⟩ := t
  have e2 := tB.sum b hh n.toNat (by omega)
  rw [if_pos (by omega), ← tB.2.2.1, ← sB 58 (by decide), ← sB 61 (by decide), ← b.2.1.sum hh, hv.pz] at e2
  omega

def odX (M2 M3 M' : Mm) (z : Int) : Prop := z = M3 63 0 ∧ Sm M3 M' [58, 65] ∧ M' 58 7 = M2 58 8 ∧ ∀ k, 0 ≤ k → k < M2 58 8 → M' 65 k = M2 59 (M3 64 k)

set_option maxRecDepth 20000 in
set_option maxHeartbeats 4000000 in
theorem ct_X10_order (E : Ev) (e d : Nat) (M : Mm) (hX : XI M e d) (h : Int) (hh : rg h) : Ct E yX10_order cX10_order 3 (some .int) 6 [zr E 0, zi h] M (pI (fun z M' => (¬ (0 ≤ h ∧ h < M e 7) ∧ z = -2 ∧ M' = M) ∨ ((0 ≤ h ∧ h < M e 7) ∧ ∃ M1 r, Frs M M1 e ∧ BnT M1 (M e 7) r ∧ ((9 < bHu (M1 51) h (M e 7).toNat ∧ z = -1 ∧ M' = M1) ∨ (bHu (M1 51) h (M e 7).toNat ≤ 9 ∧ ∃ al be M2 M3, XKp M1 M2 M3 (M e 7) h al be ∧ ((268435456 ≤ M3 63 0 ∧ z = -1 ∧ M' = M3) ∨ (M3 63 0 < 268435456 ∧ oRow M2 (M3 63) (M3 64) ∧ odX M2 M3 M' z))))))) := by
  refine Ct.of (own := RX10) (lv0 := [some (zr E 0), some (zi h), none]) (by decide) rfl (Nat.le_of_ble_eq_true rfl) rfl (fun κ C => ?_)
  have hn := hX.hn
  have he := hX.he
  obtain ⟨l1, l2, l3, l4, l5, l6⟩ := lnT he
  refine s_aload_n C dX10_order_0 rfl ?_
  refine s_iload_n C dX10_order_1 rfl ?_
  refine s_callV1 C dX10_order_2 cy_X10_isNoSentence cv_X10_isNoSentence lk_X10_159 (ct_X10_isNoSentence E e hX.he M hX.2.1.1 h hh) (by decide) (by decide) (by first | decide | (decide)) rfl (Nat.le_of_ble_eq_true rfl) (k_P (fun z2 q2 => ?_))
  have k2 : (z2 = 1 ∧ ¬ (0 ≤ h ∧ h < M e 7)) ∨ (z2 = 0 ∧ 0 ≤ h ∧ h < M e 7) := by rcases q2 with ⟨g, g2⟩ | ⟨g, g2⟩ <;> omega
  clear q2
  refine s_if_eq (tgt := 11) C dX10_order_5 (by decide) (by omega) (fun c5 => ?_) (fun c5 => ?_)
  · skip
    refine s_aload_n C dX10_order_11 rfl ?_
    refine s_callV0 C dX10_order_12 cy_X10_refresh cv_X10_refresh lk_X10_163 (ct_X10_refresh E e d M hX) (by decide) (by decide) (by first | decide | (decide)) rfl (Nat.le_of_ble_eq_true rfl) (k_V (fun M12 q12 => ?_))
    obtain ⟨r1, r41, r5, r6, r15, r06⟩ := frs_e hX q12
    have r7 : M12 e 7 = M e 7 := by rw [r1]
    have hX2 := hX.frs q12
    have hF := q12.fit hX
    obtain ⟨r, hT, h50, hB⟩ := q12.2.2.2.2.2.bones (by omega)
    have hbn : BnT M12 (M e 7) r := ⟨by omega, by rw [← r7]; exact hT, by rw [← r7]; exact hB⟩
    have hpl : M12 40 2 = M12 e 7 := hX2.pl.1
    refine s_aload_n C dX10_order_15 rfl ?_
    refine s_iload_n C dX10_order_16 rfl ?_
    refine s_callV1 C dX10_order_17 cy_X10_findOrder cv_X10_findOrder lk_X10_286 (ct_X10_findOrder E e he M12 hF r h (by rw [r7]; exact hbn) (by omega) hpl hX2.2.2.2.2.2.2.1.2.2) (by decide) (by decide) (by first | decide | (decide)) rfl (Nat.le_of_ble_eq_true rfl) (k_I (fun z17 M17 q17 => ?_))
    rw [r7] at q17
    have hz17 : z17 = -1 ∨ (0 ≤ z17 ∧ z17 ≤ 268435456) := by
      rcases q17 with ⟨_, g, _⟩ | ⟨_, al, be, M2, g1, g2, g3, g4⟩
      · exact Or.inl g
      · rcases g4 with ⟨_, g⟩ | ⟨_, _, g⟩
        · exact Or.inl g
        · have hO := g1.oi hbn (by omega) (by assumption)
          have := g3.2.2 0 (by omega) (by have := o2n_le hO; omega)
          rw [g]; exact Or.inr this
    refine s_istore_n (lv' := [_, _, _]) C dX10_order_20 (by decide) rfl rfl ?_
    refine s_iload_n C dX10_order_21 rfl ?_
    refine s_if_lt (tgt := 32) C dX10_order_22 (by decide) (by omega) (fun c22 => ?_) (fun c22 => ?_)
    · skip
      refine s_iload_n C dX10_order_32 rfl ?_
      exact s_ireturn C dX10_order_33 (⟨_, rfl, by
      first
        | (refine Or.inr ⟨by omega, M12, r, q12, hbn, Or.inr ⟨h9, al, be, M2, M17, hK, Or.inr ⟨hg0, hrow, hz, q29.1, ?_, fun k a b => ?_⟩⟩⟩
           · rw [q29.2.1, x58]
           · rw [q29.2.2.2.2 k a (by rw [x58]; exact b), x59])
        | exact by
                refine Or.inr ⟨by omega, M12, r, q12, hbn, ?_⟩
                rcases q17 with ⟨g1, g2, g3⟩ | ⟨h9, al, be, M2, g1, g2, g3, g4⟩
                · exact Or.inl ⟨g1, by first | exact g2 | rfl, g3⟩
                · refine Or.inr ⟨h9, al, be, M2, M17, ⟨g1, g2, g3⟩, Or.inl ?_⟩
                  rcases g4 with ⟨g5, g6⟩ | ⟨g5, g6, g7⟩
                  · exact ⟨g5, by first | exact g6 | rfl, rfl⟩
                  · exfalso
                    have hO := g1.oi hbn (by omega) h9
                    have := g3.2.2 0 (by omega) (by have := o2n_le hO; omega)
                    omega⟩)
    · skip
      have hgood : bHu (M12 51) h (M e 7).toNat ≤ 9 ∧ ∃ al be M2, XKp M12 M2 M17 (M e 7) h al be ∧ M17 63 0 < 268435456 ∧ oRow M2 (M17 63) (M17 64) ∧ z17 = M17 63 0 := by
        rcases q17 with ⟨_, g, _⟩ | ⟨h9, al, be, M2, g1, g2, g3, g4⟩
        · omega
        · rcases g4 with ⟨_, g⟩ | ⟨g5, g6, g7⟩
          · omega
          · exact ⟨h9, al, be, M2, ⟨g1, g2, g3⟩, g5, g6, g7⟩
      obtain ⟨h9, al, be, M2, hK, hg0, hrow, hz⟩ := hgood
      clear q17
      have hO2 := hK.1.oi hbn (by omega) h9
      have hO3 : OI M17 := OI_sm hK.2.1 (by decide) (by decide) (by decide) (by decide) (by decide) hO2
      have x58 : M17 58 = M2 58 := hK.2.1 58 (by decide)
      have x59 : M17 59 = M2 59 := hK.2.1 59 (by decide)
      refine s_aload_n C dX10_order_25 rfl ?_
      refine s_getr (k := 13) (b := 58) C dX10_order_26 fl_X10_90 (by decide) rfl (by decide) rfl ?_
      refine s_callV0 C dX10_order_29 cy_X3_keepRow cv_X3_keepRow lk_X10_289 (ct_X3_keepRow E M17 hO3 (fun k a b => by rw [x58] at b ⊢; have := (hrow k.toNat (by omega)).1; rwa [Int.toNat_of_nonneg a] at this)) (by decide) (by decide) (by first | decide | (decide)) rfl (Nat.le_of_ble_eq_true rfl) (k_V (fun M29 q29 => ?_))
      refine s_iload_n C dX10_order_32 rfl ?_
      exact s_ireturn C dX10_order_33 (⟨_, rfl, by
      first
        | (refine Or.inr ⟨by omega, M12, r, q12, hbn, Or.inr ⟨h9, al, be, M2, M17, hK, Or.inr ⟨hg0, hrow, hz, q29.1, ?_, fun k a b => ?_⟩⟩⟩
           · rw [q29.2.1, x58]
           · rw [q29.2.2.2.2 k a (by rw [x58]; exact b), x59])
        | exact by
                refine Or.inr ⟨by omega, M12, r, q12, hbn, ?_⟩
                rcases q17 with ⟨g1, g2, g3⟩ | ⟨h9, al, be, M2, g1, g2, g3, g4⟩
                · exact Or.inl ⟨g1, by first | exact g2 | rfl, g3⟩
                · refine Or.inr ⟨h9, al, be, M2, M17, ⟨g1, g2, g3⟩, Or.inl ?_⟩
                  rcases g4 with ⟨g5, g6⟩ | ⟨g5, g6, g7⟩
                  · exact ⟨g5, by first | exact g6 | rfl, rfl⟩
                  · exfalso
                    have hO := g1.oi hbn (by omega) h9
                    have := g3.2.2 0 (by omega) (by have := o2n_le hO; omega)
                    omega⟩)
  · skip
    refine s_bipush C dX10_order_8 (by decide) ?_
    exact s_ireturn C dX10_order_10 (⟨_, rfl, Or.inl ⟨fun h => by omega, rfl, rfl⟩⟩)

set_option maxRecDepth 20000 in
set_option maxHeartbeats 4000000 in
theorem ct_X10_arrange (E : Ev) (e d : Nat) (M : Mm) (hX : XI M e d) (h : Int) (hh : rg h) : Ct E yX10_arrange cX10_arrange 4 (some .int) 6 [zr E 0, zi h] M (pI (fun z M' => (¬ (0 ≤ h ∧ h < M e 7) ∧ z = -2 ∧ M' = M) ∨ ((0 ≤ h ∧ h < M e 7) ∧ ∃ M1 r, Frs M M1 e ∧ BnT M1 (M e 7) r ∧ ((9 < bHu (M1 51) h (M e 7).toNat ∧ z = -1 ∧ M' = M1) ∨ (bHu (M1 51) h (M e 7).toNat ≤ 9 ∧ ∃ al be M2 M3, XKp M1 M2 M3 (M e 7) h al be ∧ ((268435456 ≤ M3 63 0 ∧ z = -1 ∧ M' = M3) ∨ (M3 63 0 < 268435456 ∧ oRow M2 (M3 63) (M3 64) ∧ ∃ l u, Iv (M1 51) (M e 7) r h l u ∧ MvP M3 M' (M e 7) z (arF (M3 41) l (xoF M2 M3) (xoS M2 M3) (M2 58 8).toNat)))))))) := by
  refine Ct.of (own := RX10) (lv0 := [some (zr E 0), some (zi h), none, none]) (by decide) rfl (Nat.le_of_ble_eq_true rfl) rfl (fun κ C => ?_)
  have hn := hX.hn
  have he := hX.he
  obtain ⟨l1, l2, l3, l4, l5, l6⟩ := lnT he
  have L43 : ∀ (n9 : Nat) (k : Nat) (l u r : Int) (A M1 M2 M3 : Mm) (al be : Int → Int) (u3 : Option Value) (hk : (k : Int) ≤ M2 58 8) (hhe : 0 ≤ h ∧ h < M e 7) (hQ : Frs M M1 e) (hbn : BnT M1 (M e 7) r) (h9 : bHu (M1 51) h (M e 7).toNat ≤ 9) (hK : XKp M1 M2 M3 (M e 7) h al be) (hg0 : M3 63 0 < 268435456) (hrow : oRow M2 (M3 63) (M3 64)) (hv : Iv (M1 51) (M e 7) r h l u) (hS : Sm M3 A [40, 42]) (h42 : A 40 2 = M e 7 ∧ M3 40 2 = M e 7) (h43 : A 40 3 = l + sumI (xoS M2 M3) k) (hA : ∀ p, 0 ≤ p → p < M e 7 → A 42 p = arF (M3 41) l (xoF M2 M3) (xoS M2 M3) k p) (hm : (M2 58 8 - (k : Int)).toNat < n9), Gm E κ (pI (fun z M' => (¬ (0 ≤ h ∧ h < M e 7) ∧ z = -2 ∧ M' = M) ∨ ((0 ≤ h ∧ h < M e 7) ∧ ∃ M1 r, Frs M M1 e ∧ BnT M1 (M e 7) r ∧ ((9 < bHu (M1 51) h (M e 7).toNat ∧ z = -1 ∧ M' = M1) ∨ (bHu (M1 51) h (M e 7).toNat ≤ 9 ∧ ∃ al be M2 M3, XKp M1 M2 M3 (M e 7) h al be ∧ ((268435456 ≤ M3 63 0 ∧ z = -1 ∧ M' = M3) ∨ (M3 63 0 < 268435456 ∧ oRow M2 (M3 63) (M3 64) ∧ ∃ l u, Iv (M1 51) (M e 7) r h l u ∧ MvP M3 M' (M e 7) z (arF (M3 41) l (xoF M2 M3) (xoS M2 M3) (M2 58 8).toNat)))))))) 4 43 [some (zr E 0), some (zi h), some (zi (k : Int)), u3] [] A := by
    intro n9
    induction n9 with
    | zero => intro k l u r A M1 M2 M3 al be u3 hk hhe hQ hbn h9 hK hg0 hrow hv hS h42 h43 hA hm; exact absurd hm (Nat.not_lt_zero _)
    | succ n9 ih43 =>
      intro k l u r A M1 M2 M3 al be u3 hk hhe hQ hbn h9 hK hg0 hrow hv hS h42 h43 hA hm
      have hO2 := hK.1.oi hbn hhe h9
      have hm := hO2.1
      have hv1 := hv.1
      have hfit := xrow_fit hbn hhe h9 hK.1 hv hK.2.2 hg0 hrow
      have a58 : A 58 = M2 58 := by rw [hS 58 (by decide), hK.2.1 58 (by decide)]
      have a60 : A 60 = M2 60 := by rw [hS 60 (by decide), hK.2.1 60 (by decide)]
      have a61 : A 61 = M2 61 := by rw [hS 61 (by decide), hK.2.1 61 (by decide)]
      have a64 : A 64 = M3 64 := hS 64 (by decide)
      have a41 : A 41 = M3 41 := hS 41 (by decide)
      obtain ⟨⟨B, tB, sB⟩, _, _⟩ := hK.1
      refine s_iload_n C dX10_arrange_43 rfl ?_
      refine s_aload_n C dX10_arrange_44 rfl ?_
      refine s_getr (k := 13) (b := 58) C dX10_arrange_45 fl_X10_90 (by decide) rfl (by decide) rfl ?_
      refine s_geti (k := 8) (j := 8) (z := M2 58 8) C dX10_arrange_48 fl_X10_304 (by decide) rfl (by decide) rfl (by rw [a58]) (fun r48 => ?_)
      refine s_icmp_ge (tgt := 95) C dX10_arrange_51 (by decide) (by omega) (by omega) (fun c51 => ?_) (fun c51 => ?_)
      · skip
        refine s_aload_n C dX10_arrange_95 rfl ?_
        refine s_iconst C dX10_arrange_96 ?_
        refine s_putz (k := 15) (j := 15) C dX10_arrange_97 fp_X10_136 (by decide) rfl rfl rfl (by decide) ?_
        refine s_aload_n C dX10_arrange_100 rfl ?_
        refine s_getr (k := 9) (b := 40) C dX10_arrange_101 fl_X10_62 (by decide) rfl (by decide) rfl ?_
        refine s_callV0 C dX10_arrange_104 cy_X5_take cv_X5_take lk_X10_318 (ct_X5_take E (mput A 0 15 1) (by rw [mput_ne (by decide)]; omega)) (by decide) (by decide) (by first | decide | (decide)) rfl (Nat.le_of_ble_eq_true rfl) (k_I (fun z104 M104 q104 => ?_))
        exact s_ireturn C dX10_arrange_107 (⟨_, rfl, Or.inr ⟨hhe, M1, r, hQ, hbn, Or.inr ⟨h9, al, be, M2, M3, hK, Or.inr ⟨hg0, hrow, l, u, hv, MvP.of hn.1 (by rw [mput_ne (by decide)]; exact h42.1) (fun a ha => by
      simp only [List.mem_cons, List.not_mem_nil, or_false, not_or] at ha
      rw [mput_ne ha.1]
      exact hS a (by simp only [List.mem_cons, List.not_mem_nil, or_false]; omega)) (fun q hq => by rw [mput_nk hq, hS 0 (by decide)]) (by rw [mput_eq]) (by rw [mput_ne (by decide), h42.1, h42.2]) (fun p p0 p1 => by rw [mput_ne (by decide), hA p p0 p1, show (M2 58 8).toNat = k by omega]) q104⟩⟩⟩⟩)
      · skip
        have hri := (hrow k (by omega)).1
        have hob := (hO2.2.2 _ hri.1 hri.2).1
        obtain ⟨q, q1, q2, q3, q4, q5⟩ := tB.of hbn hhe hri.1 (by rw [← sB 58 (by decide)]; exact hri.2)
        have hfu : 0 ≤ xoF M2 M3 (k : Int) ∧ xoF M2 M3 (k : Int) + xoS M2 M3 (k : Int) ≤ M e 7 ∧ 1 ≤ xoS M2 M3 (k : Int) := by
          unfold xoF xoS
          rw [sB 60 (by decide), sB 61 (by decide)]
          rcases q5 with ⟨g1, g2, g3, g4⟩ | ⟨g1, g2, g3, g4⟩
          · rw [g3, g4]; omega
          · obtain ⟨l2, u2, hv2⟩ := hbn.2.1.iv (i := (q : Int)) (by omega)
            obtain ⟨e1, e2⟩ := g4 l2 u2 hv2
            have hv21 := hv2.1
            rw [e1, e2]; omega
        have hf1 := hfit (k + 1) (by omega)
        have hf0 := hfit k (by omega)
        have e1 : sumI (fun j => M2 61 (M3 64 j)) (k + 1) = sumI (xoS M2 M3) k + xoS M2 M3 (k : Int) := rfl
        have e0 : sumI (fun j => M2 61 (M3 64 j)) k = sumI (xoS M2 M3) k := rfl
        rw [e1] at hf1
        rw [e0] at hf0
        refine s_aload_n C dX10_arrange_54 rfl ?_
        refine s_getr (k := 13) (b := 58) C dX10_arrange_55 fl_X10_90 (by decide) rfl (by decide) rfl ?_
        refine s_getr (k := 5) (b := 64) C dX10_arrange_58 fl_X10_307 (by decide) rfl (by decide) rfl ?_
        refine s_iload_n C dX10_arrange_61 rfl ?_
        refine s_iaload (n := 10) (z := M3 64 (k : Int)) C dX10_arrange_62 (by decide) rfl rfl (by omega) (by omega) (by omega) (by rw [a64]) (fun r62 => ?_)
        refine s_istore_n (lv' := [_, _, _, _]) C dX10_arrange_63 (by decide) rfl rfl ?_
        refine s_aload_n C dX10_arrange_64 rfl ?_
        refine s_getr (k := 9) (b := 40) C dX10_arrange_65 fl_X10_62 (by decide) rfl (by decide) rfl ?_
        refine s_aload_n C dX10_arrange_68 rfl ?_
        refine s_getr (k := 13) (b := 58) C dX10_arrange_69 fl_X10_90 (by decide) rfl (by decide) rfl ?_
        refine s_getr (k := 1) (b := 60) C dX10_arrange_72 fl_X10_310 (by decide) rfl (by decide) rfl ?_
        refine s_iload_n C dX10_arrange_75 rfl ?_
        refine s_iaload (n := 10) (z := xoF M2 M3 (k : Int)) C dX10_arrange_76 (by decide) rfl rfl (by omega) (by omega) (by omega) (by rw [a60]; rfl) (fun r76 => ?_)
        refine s_aload_n C dX10_arrange_77 rfl ?_
        refine s_getr (k := 13) (b := 58) C dX10_arrange_78 fl_X10_90 (by decide) rfl (by decide) rfl ?_
        refine s_getr (k := 2) (b := 61) C dX10_arrange_81 fl_X10_313 (by decide) rfl (by decide) rfl ?_
        refine s_iload_n C dX10_arrange_84 rfl ?_
        refine s_iaload (n := 10) (z := xoS M2 M3 (k : Int)) C dX10_arrange_85 (by decide) rfl rfl (by omega) (by omega) (by omega) (by rw [a61]; rfl) (fun r85 => ?_)
        refine s_callV2 C dX10_arrange_86 cy_X5_put cv_X5_put lk_X10_315 (ct_X5_put E A (xoF M2 M3 (k : Int)) (xoS M2 M3 (k : Int)) (by omega) (by omega) (by omega) (by omega)) (by decide) (by decide) (by first | decide | (decide)) rfl (Nat.le_of_ble_eq_true rfl) (k_V (fun M86 q86 => ?_))
        subst q86
        refine s_iinc (lv' := [_, _, _, _]) C dX10_arrange_89 rfl (by decide) rfl rfl rfl ?_
        refine s_goto (tgt := 43) C dX10_arrange_92 (by decide) ?_
        have e2 : sumI (xoS M2 M3) (k + 1) = sumI (xoS M2 M3) k + xoS M2 M3 (k : Int) := rfl
        rw [show (k : Int) + 1 = ((k + 1 : Nat) : Int) by omega]
        refine ih43 (k + 1) l u r _ M1 M2 M3 al be _ (by omega) hhe hQ hbn h9 hK hg0 hrow hv (fun a ha => ?_) ⟨?_, h42.2⟩ ?_ (fun p p0 p1 => ?_) (by omega)
        · simp only [List.mem_cons, List.not_mem_nil, or_false, not_or] at ha
          rw [plPut_ne ha.1 ha.2]
          exact hS a (by simp only [List.mem_cons, List.not_mem_nil, or_false]; omega)
        · rw [plPut_40, if_neg (by decide)]; exact h42.1
        · rw [plPut_40, if_pos rfl, h43, e2]; omega
        · rw [plPut_42, h43, a41, hA p p0 p1]; rfl
  refine s_aload_n C dX10_arrange_0 rfl ?_
  refine s_iload_n C dX10_arrange_1 rfl ?_
  refine s_callV1 C dX10_arrange_2 cy_X10_isNoSentence cv_X10_isNoSentence lk_X10_159 (ct_X10_isNoSentence E e hX.he M hX.2.1.1 h hh) (by decide) (by decide) (by first | decide | (decide)) rfl (Nat.le_of_ble_eq_true rfl) (k_P (fun z2 q2 => ?_))
  have k2 : (z2 = 1 ∧ ¬ (0 ≤ h ∧ h < M e 7)) ∨ (z2 = 0 ∧ 0 ≤ h ∧ h < M e 7) := by rcases q2 with ⟨g, g2⟩ | ⟨g, g2⟩ <;> omega
  clear q2
  refine s_if_eq (tgt := 11) C dX10_arrange_5 (by decide) (by omega) (fun c5 => ?_) (fun c5 => ?_)
  · skip
    refine s_aload_n C dX10_arrange_11 rfl ?_
    refine s_callV0 C dX10_arrange_12 cy_X10_refresh cv_X10_refresh lk_X10_163 (ct_X10_refresh E e d M hX) (by decide) (by decide) (by first | decide | (decide)) rfl (Nat.le_of_ble_eq_true rfl) (k_V (fun M12 q12 => ?_))
    obtain ⟨r1, r41, r5, r6, r15, r06⟩ := frs_e hX q12
    have r7 : M12 e 7 = M e 7 := by rw [r1]
    have hX2 := hX.frs q12
    have hF := q12.fit hX
    obtain ⟨r, hT, h50, hB⟩ := q12.2.2.2.2.2.bones (by omega)
    have hbn : BnT M12 (M e 7) r := ⟨by omega, by rw [← r7]; exact hT, by rw [← r7]; exact hB⟩
    have hpl : M12 40 2 = M12 e 7 := hX2.pl.1
    refine s_aload_n C dX10_arrange_15 rfl ?_
    refine s_iload_n C dX10_arrange_16 rfl ?_
    refine s_callV1 C dX10_arrange_17 cy_X10_findOrder cv_X10_findOrder lk_X10_286 (ct_X10_findOrder E e he M12 hF r h (by rw [r7]; exact hbn) (by omega) hpl hX2.2.2.2.2.2.2.1.2.2) (by decide) (by decide) (by first | decide | (decide)) rfl (Nat.le_of_ble_eq_true rfl) (k_I (fun z17 M17 q17 => ?_))
    rw [r7] at q17
    have hz17 : z17 = -1 ∨ (0 ≤ z17 ∧ z17 ≤ 268435456) := by
      rcases q17 with ⟨_, g, _⟩ | ⟨_, al, be, M2, g1, g2, g3, g4⟩
      · exact Or.inl g
      · rcases g4 with ⟨_, g⟩ | ⟨_, _, g⟩
        · exact Or.inl g
        · have hO := g1.oi hbn (by omega) (by assumption)
          have := g3.2.2 0 (by omega) (by have := o2n_le hO; omega)
          rw [g]; exact Or.inr this
    refine s_if_ge (tgt := 25) C dX10_arrange_20 (by decide) (by omega) (fun c20 => ?_) (fun c20 => ?_)
    · skip
      have hgood : bHu (M12 51) h (M e 7).toNat ≤ 9 ∧ ∃ al be M2, XKp M12 M2 M17 (M e 7) h al be ∧ M17 63 0 < 268435456 ∧ oRow M2 (M17 63) (M17 64) ∧ z17 = M17 63 0 := by
        rcases q17 with ⟨_, g, _⟩ | ⟨h9, al, be, M2, g1, g2, g3, g4⟩
        · omega
        · rcases g4 with ⟨_, g⟩ | ⟨g5, g6, g7⟩
          · omega
          · exact ⟨h9, al, be, M2, ⟨g1, g2, g3⟩, g5, g6, g7⟩
      obtain ⟨h9, al, be, M2, hK, hg0, hrow, hz⟩ := hgood
      clear q17
      have hO2 := hK.1.oi hbn (by omega) h9
      have hO3 : OI M17 := OI_sm hK.2.1 (by decide) (by decide) (by decide) (by decide) (by decide) hO2
      have x58 : M17 58 = M2 58 := hK.2.1 58 (by decide)
      have x59 : M17 59 = M2 59 := hK.2.1 59 (by decide)
      obtain ⟨B, tB, sB⟩ := hK.1.1
      have sM : Sm M12 M17 [58, 59, 60, 61, 62, 63, 64] := (tB.1.tr sB (l := [58, 59, 60, 61, 62]) (fun _ h => h) (by decide)).tr hK.2.1 (by decide) (by decide)
      obtain ⟨l, u, hv⟩ := hbn.2.1.iv (i := h) (by omega)
      have e53 := ((hbn.2.2 h (by omega) (by omega)).2 l u hv).1
      have hv1 := hv.1
      have p40 : M17 40 2 = M e 7 := by rw [sM 40 (by decide), hpl, r7]
      refine s_aload_n C dX10_arrange_25 rfl ?_
      refine s_getr (k := 9) (b := 40) C dX10_arrange_26 fl_X10_62 (by decide) rfl (by decide) rfl ?_
      refine s_aload_n C dX10_arrange_29 rfl ?_
      refine s_getr (k := 11) (b := 50) C dX10_arrange_30 fl_X10_76 (by decide) rfl (by decide) rfl ?_
      refine s_getr (k := 2) (b := 53) C dX10_arrange_33 fl_X10_298 (by decide) rfl (by decide) rfl ?_
      refine s_iload_n C dX10_arrange_36 rfl ?_
      refine s_iaload (n := 24) (z := l) C dX10_arrange_37 (by decide) rfl rfl (by omega) (by omega) (by omega) (by rw [sM 53 (by decide)]; exact e53) (fun r37 => ?_)
      refine s_callV1 C dX10_arrange_38 cy_X5_start cv_X5_start lk_X10_301 (ct_X5_start E M17 l (by omega) (by omega)) (by decide) (by decide) (by first | decide | (decide)) rfl (Nat.le_of_ble_eq_true rfl) (k_V (fun M38 q38 => ?_))
      subst q38
      refine s_iconst C dX10_arrange_41 ?_
      refine s_istore_n (lv' := [_, _, _, _]) C dX10_arrange_42 (by decide) rfl rfl ?_
      refine L43 _ 0 l u r _ M12 M2 M17 al be _ (by have := hO2.1; omega) (by omega) q12 hbn h9 hK hg0 hrow hv (fun a ha => ?_) ⟨?_, p40⟩ ?_ (fun p p0 p1 => ?_) (Nat.lt_succ_self _)
      · simp only [List.mem_cons, List.not_mem_nil, or_false, not_or] at ha
        rw [mput_ne ha.1, mcopy_ne ha.2]
      · rw [mput_nk (by decide), mcopy_ne (by decide)]; exact p40
      · rw [mput_eq]; simp [sumI]
      · rw [mput_ne (by decide), mcopy_at, if_pos (by omega), show 0 + (p - 0) = p by omega]; rfl
    · skip
      refine s_iconst C dX10_arrange_23 ?_
      exact s_ireturn C dX10_arrange_24 (⟨_, rfl, by
      refine Or.inr ⟨by omega, M12, r, q12, hbn, ?_⟩
      rcases q17 with ⟨g1, g2, g3⟩ | ⟨h9, al, be, M2, g1, g2, g3, g4⟩
      · exact Or.inl ⟨g1, by first | exact g2 | rfl, g3⟩
      · refine Or.inr ⟨h9, al, be, M2, M17, ⟨g1, g2, g3⟩, Or.inl ?_⟩
        rcases g4 with ⟨g5, g6⟩ | ⟨g5, g6, g7⟩
        · exact ⟨g5, by first | exact g6 | rfl, rfl⟩
        · exfalso
          have hO := g1.oi hbn (by omega) h9
          have := g3.2.2 0 (by omega) (by have := o2n_le hO; omega)
          omega⟩)
  · skip
    refine s_bipush C dX10_arrange_8 (by decide) ?_
    exact s_ireturn C dX10_arrange_10 (⟨_, rfl, Or.inl ⟨fun h => by omega, rfl, rfl⟩⟩)
