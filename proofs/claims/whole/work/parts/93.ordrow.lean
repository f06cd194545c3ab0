/-! ORDERS: least costs and rows agree -/
theorem oMn_le {M : Mm} {f : Int → Int} {s : Int} : ∀ k : Nat, oMn M f s k ≤ 268435456 ∧ ∀ q : Nat, q < k → oMay M (q : Int) s → oMn M f s k ≤ oCf M f (q : Int) s := by
  intro k
  induction k with
  | zero => exact ⟨Int.le_refl _, fun q hq => by omega⟩
  | succ k ih =>
    have i1 := ih.1
    by_cases c : oMay M (k : Int) s
    · rw [oMn_pos c]
      refine ⟨by omega, fun q hq hm => ?_⟩
      by_cases e : q = k
      · subst e; omega
      · have := ih.2 q (by omega) hm; omega
    · rw [oMn_neg c]
      refine ⟨i1, fun q hq hm => ?_⟩
      by_cases e : q = k
      · subst e; exact absurd hm c
      · exact ih.2 q (by omega) hm
theorem rMn_le {M : Mm} {g : Int → Int} {s : Int} : ∀ k : Nat, ∀ q : Nat, q < k → rMay M (q : Int) s → g (zor s (zshl 1 (q : Int))) < 1000000 → rMn M g s k ≤ rPl M s (q : Int) + g (zor s (zshl 1 (q : Int))) := by
  intro k
  induction k with
  | zero => intro q hq; omega
  | succ k ih =>
    intro q hq hm hg
    by_cases c : rMay M (k : Int) s ∧ g (zor s (zshl 1 (k : Int))) < 1000000
    · rw [rMn_pos c]
      by_cases e : q = k
      · subst e; omega
      · have := ih q (by omega) hm hg; omega
    · rw [rMn_neg c]
      by_cases e : q = k
      · subst e; exact absurd ⟨hm, hg⟩ c
      · exact ih q (by omega) hm hg
theorem rMn_full {M : Mm} {g : Int → Int} {s : Int} (hs : s = r2n M - 1) : ∀ k : Nat, (∀ j, 0 ≤ j → j < (k : Int) → inS s j) → rMn M g s k = 0 := by
  intro k
  induction k with
  | zero => intro _; rw [rMn, if_pos hs]
  | succ k ih =>
    intro h
    rw [rMn_neg (fun q => q.1.1 (h (k : Int) (by omega) (by omega)))]
    exact ih (fun j j0 j1 => h j j0 (by omega))
theorem all_bits {s m : Int} (hm : 0 ≤ m ∧ m ≤ 10) (hs : 0 ≤ s ∧ s < ((2 ^ m.toNat : Nat) : Int)) (h : ∀ u, 0 ≤ u → u < m → inS s u) : s = ((2 ^ m.toNat : Nat) : Int) - 1 := by
  have h1 : 1 ≤ 2 ^ m.toNat := Nat.one_le_two_pow
  have h2 : s.toNat < 2 ^ m.toNat := by omega
  have e : s.toNat = 2 ^ m.toNat - 1 := by
    apply Nat.eq_of_testBit_eq
    intro i
    rw [Nat.testBit_two_pow_sub_one]
    by_cases c : i < m.toNat
    · have g : s.toNat.testBit i = true := h (i : Int) (by omega) (by omega)
      rw [g, decide_eq_true c]
    · rw [decide_eq_false c]
      exact Nat.testBit_lt_two_pow (Nat.lt_of_lt_of_le h2 (Nat.pow_le_pow_right (by decide) (by omega)))
  omega
theorem phi_rg {M2 N2 : Mm} {h : Int} {p : Int → Int} (o : OM M2 N2 h p) {s t : Int} (r : ORl M2 N2 p s t) : -2410 ≤ phi M2 s ∧ phi M2 s ≤ 2410 := by
  have hO := o.1
  have hR := o.2.1
  have hm := hO.1
  have e47 := o.2.2.1
  have h3 := ssz_rg hR t (N2 66 47).toNat (by omega)
  have h4 := pcS_le s
  have h5 := r.2.2.2.1
  rw [← h5] at h3
  unfold phi
  generalize gsz (M2 61) s (M2 58 8).toNat = Z at *
  generalize pcS s = a at *
  have k1 := mulw (a := Z) (b := M2 58 8 - a) (by omega) (by omega)
  have k2 := mulw (a := Z) (b := a) (by omega) (by omega)
  split
  · rw [Int.mul_sub, Int.mul_comm (M2 58 8 - a) Z]; omega
  · rw [Int.mul_comm a Z]; omega
def DPe (M2 : Mm) (F G : Int → Int) (s t : Int) : Prop := (F s = 268435456 ∧ G t = 1000000) ∨ (F s ≤ 1000 * (M2 58 8 - pcS s) ∧ G t = F s + phi M2 s ∧ G t < 1000000)
theorem dp_eq {M2 N2 : Mm} {h : Int} {p F G : Int → Int} (o : OM M2 N2 h p) (hE : oEq M2 F) (hG : rEq N2 G) : ∀ (c : Nat) (s t : Int), o2n M2 - s ≤ (c : Int) → ORl M2 N2 p s t → DPe M2 F G s t := by
  intro c
  induction c with
  | zero => intro s t hc r; have := r.1; omega
  | succ c ih =>
    intro s t hc r
    have hO := o.1
    have hR := o.2.1
    have hm := hO.1
    have hh := hO.2.1
    have w1 := o2n_le hO
    have w2 := r2n_le hR
    have e47 := o.2.2.1
    have e2 := two_eq e47
    have r1 := r.1
    have r2 := r.2.1
    have hph := phi_rg o r
    have hGt := (hG t r2.1 r2.2).1
    have pst := pcS_le s
    by_cases cs : s = o2n M2 - 1
    · have hF := hE.1
      rw [← cs] at hF
      have ps : pcS s = M2 58 8 := by
        have := pcS_all (M2 58 8).toNat (by omega)
        rw [cs]; unfold o2n; omega
      have hin : ∀ u, 0 ≤ u → u < M2 58 8 → inS s u := by
        intro u u0 u1
        rcases Classical.em (inS s u) with g | g
        · exact g
        · have := pcS_lt (n := M2 58 8) (by omega) (by unfold o2n at r1; exact r1) ⟨u0, u1⟩ g
          omega
      have hit : ∀ k, 0 ≤ k → k < M2 58 8 → inS t k := by
        intro k k0 k1
        obtain ⟨u, u0, u1, u2⟩ := o.2.2.2.2.1 k k0 k1
        rw [← u2]
        exact (r.2.2.1 u u0 u1).mp (hin u u0 u1)
      have ht : t = r2n N2 - 1 := by
        unfold r2n
        rw [← e47]
        exact all_bits (by omega) (by unfold r2n at r2; rw [e47]; exact r2) hit
      have hG0 : G t = 0 := by
        rw [hGt]
        exact rMn_full ht _ (fun j j0 j1 => hit j j0 (by omega))
      have hphi : phi M2 s = 0 := by
        unfold phi
        rw [if_pos (hin _ hh.1 hh.2), ps, Int.sub_self, Int.zero_mul]
      right
      rw [hF, hG0, hphi, ps]
      omega
    · have hFs := hE.2.1 s r1.1 (by omega)
      have ht : t ≠ r2n N2 - 1 := by
        intro e
        apply cs
        unfold o2n
        refine all_bits (by omega) (by unfold o2n at r1; exact r1) (fun u u0 u1 => (r.2.2.1 u u0 u1).mpr ?_)
        have pu := (o.2.2.2.1 u u0 u1).1
        rcases Classical.em (inS t (p u)) with g | g
        · exact g
        · have q := pcS_lt (n := N2 66 47) (by omega) (by unfold r2n at r2; exact r2) (u := p u) (by omega) g
          have k := pcS_all (N2 66 47).toNat (by omega)
          rw [e] at q
          unfold r2n at q
          omega
      have st : ∀ u, 0 ≤ u → u < M2 58 8 → oMay M2 u s → rMay N2 (p u) t ∧ (0 ≤ oStep M2 u s ∧ oStep M2 u s ≤ 1000) ∧ oStep M2 u s + phi M2 s = rPl N2 t (p u) + phi M2 (zor s (zshl 1 u)) ∧ ((F (zor s (zshl 1 u)) = 268435456 ∧ G (zor t (zshl 1 (p u))) = 1000000) ∨ (F (zor s (zshl 1 u)) ≤ 1000 * (M2 58 8 - pcS s) - 1000 ∧ G (zor t (zshl 1 (p u))) = F (zor s (zshl 1 u)) + phi M2 (zor s (zshl 1 u)) ∧ G (zor t (zshl 1 (p u))) < 1000000)) := by
        intro u u0 u1 hy
        obtain ⟨s1, s2, s3⟩ := r.step o ⟨u0, u1⟩ hy.1
        have gt := zor_gt (s := s) (u := u) (by omega) (by omega) hy.1
        refine ⟨(o.may r ⟨u0, u1⟩).mp hy, oStep_nn hO ⟨u0, u1⟩ r1 hy.1, phi_step o r ⟨u0, u1⟩ hy.1, ?_⟩
        rcases ih _ _ (by omega) s1 with g | ⟨g1, g2, g3⟩
        · exact Or.inl g
        · right; rw [s3] at g1; exact ⟨by omega, g2, g3⟩
      have o1 := oMn_le (M := M2) (f := F) (s := s) (M2 58 8).toNat
      have g1 := rMn_le (M := N2) (g := G) (s := t) (N2 66 47).toNat
      rw [← hFs] at o1
      rw [← hGt] at g1
      have up : ∀ u, 0 ≤ u → u < M2 58 8 → oMay M2 u s → G (zor t (zshl 1 (p u))) < 1000000 → F s ≤ oStep M2 u s + F (zor s (zshl 1 u)) ∧ F s ≤ 1000 * (M2 58 8 - pcS s) ∧ G t ≤ oStep M2 u s + F (zor s (zshl 1 u)) + phi M2 s := by
        intro u u0 u1 hy hg
        obtain ⟨a1, a2, a3, a4⟩ := st u u0 u1 hy
        have pu := (o.2.2.2.1 u u0 u1).1
        have b1 := o1.2 u.toNat (by omega) (by rw [Int.toNat_of_nonneg u0]; exact hy)
        rw [Int.toNat_of_nonneg u0] at b1
        have b2 := g1 (p u).toNat (by omega) (by rw [Int.toNat_of_nonneg pu.1]; exact a1) (by rw [Int.toNat_of_nonneg pu.1]; exact hg)
        rw [Int.toNat_of_nonneg pu.1] at b2
        unfold oCf at b1
        have a4' := a4.resolve_left (fun g => by omega)
        exact ⟨by omega, by omega, by omega⟩
      have o2 := oMn_at (M := M2) (f := F) (s := s) (M2 58 8).toNat
      have g2 := rMn_at (M := N2) (g := G) (s := t) ht (N2 66 47).toNat
      rw [← hFs] at o2
      rw [← hGt] at g2
      rcases o2 with o2 | ⟨q, q1, q2, q3⟩
      · rcases g2 with g2 | ⟨k, k1, k2, k3, k4⟩
        · exact Or.inl ⟨o2, g2⟩
        · exfalso
          obtain ⟨v, v0, v1, v2⟩ := o.2.2.2.2.1 (k : Int) (by omega) (by omega)
          rw [← v2] at k2 k3 k4
          have uv := up v v0 v1 ((o.may r ⟨v0, v1⟩).mpr k2) k3
          omega
      · have sq' := st (q : Int) (by omega) (by omega)
        rcases g2 with g2 | ⟨k, k1, k2, k3, k4⟩
        · left
          refine ⟨?_, g2⟩
          obtain ⟨a1, a2, a3, a4⟩ := sq' q2
          rcases a4 with a4 | a4
          · unfold oCf at q3; omega
          · have := up (q : Int) (by omega) (by omega) q2 a4.2.2
            omega
        · obtain ⟨v, v0, v1, v2⟩ := o.2.2.2.2.1 (k : Int) (by omega) (by omega)
          rw [← v2] at k2 k3 k4
          have hy := (o.may r ⟨v0, v1⟩).mpr k2
          have uv := up v v0 v1 hy k3
          obtain ⟨a1, a2, a3, a4⟩ := st v v0 v1 hy
          have a4' := a4.resolve_left (fun g => by omega)
          obtain ⟨b1, b2, b3, b4⟩ := sq' q2
          right
          rcases b4 with b4 | b4
          · unfold oCf at q3; omega
          · have uq := up (q : Int) (by omega) (by omega) q2 b4.2.2
            unfold oCf at q3
            exact ⟨uv.2.1, by omega, by omega⟩
theorem yes_eq {M2 N2 : Mm} {h : Int} {p F G : Int → Int} (o : OM M2 N2 h p) (hE : oEq M2 F) (hG : rEq N2 G) {s t u : Int} (r : ORl M2 N2 p s t) (hu : 0 ≤ u ∧ u < M2 58 8) (hs : F s < 268435456) : oYes M2 F u s ↔ rYes N2 G (p u) t := by
  have hO := o.1
  have hm := hO.1
  have pst := pcS_le s
  have w1 := o2n_le hO
  have r1 := r.1
  have d := dp_eq o hE hG (o2n M2 - s).toNat s t (by omega) r
  have d := d.resolve_left (fun g => by omega)
  have hph := phi_rg o r
  constructor
  · rintro ⟨hy, hc⟩
    obtain ⟨s1, s2, s3⟩ := r.step o hu hy.1
    have du := dp_eq o hE hG (o2n M2 - zor s (zshl 1 u)).toNat _ _ (by have := s1.1; omega) s1
    have hst := oStep_nn hO hu r1 hy.1
    have hp := phi_step o r hu hy.1
    unfold oCf at hc
    have du := du.resolve_left (fun g => by omega)
    exact ⟨(o.may r hu).mp hy, du.2.2, by omega⟩
  · rintro ⟨hk, hk2, hk3⟩
    have hy := (o.may r hu).mpr hk
    obtain ⟨s1, s2, s3⟩ := r.step o hu hy.1
    have du := dp_eq o hE hG (o2n M2 - zor s (zshl 1 u)).toNat _ _ (by have := s1.1; omega) s1
    have hst := oStep_nn hO hu r1 hy.1
    have hp := phi_step o r hu hy.1
    have du := du.resolve_left (fun g => by omega)
    exact ⟨hy, by unfold oCf; omega⟩
theorem inS_0 (u : Int) : ¬ inS 0 u := by
  unfold inS; simp
theorem ORl_0 {M2 N2 : Mm} {h : Int} {p : Int → Int} (o : OM M2 N2 h p) : ORl M2 N2 p 0 0 := by
  have w1 := o2n_le o.1
  have w2 := r2n_le o.2.1
  refine ⟨by omega, by omega, fun u _ _ => ⟨fun g => absurd g (inS_0 _), fun g => absurd g (inS_0 _)⟩, ?_, rfl⟩
  rw [ssz_gsz, gsz_0, gsz_0]
theorem phi_0 (M2 : Mm) : phi M2 0 = 0 := by
  unfold phi
  rw [if_neg (inS_0 _), gsz_0, Int.mul_zero]
theorem ord_eq {M2 N2 : Mm} {h : Int} {p F G : Int → Int} (o : OM M2 N2 h p) (hE : oEq M2 F) (hG : rEq N2 G) : (F 0 = 268435456 ∧ G 0 = 1000000) ∨ (F 0 ≤ 10000 ∧ G 0 = F 0) := by
  have hm := o.1.1
  have pst := pcS_le 0
  rcases dp_eq o hE hG (o2n M2).toNat 0 0 (by have := o2n_le o.1; omega) (ORl_0 o) with g | ⟨g1, g2, g3⟩
  · exact Or.inl g
  · right; rw [phi_0] at g2; omega
theorem row_eq {M2 N2 : Mm} {h : Int} {p F G r r' : Int → Int} (o : OM M2 N2 h p) (hE : oEq M2 F) (hG : rEq N2 G) (h0 : F 0 < 268435456) (hr : oRow M2 F r) (hr' : rRow N2 G r' (N2 66 47).toNat) : ∀ k : Nat, (k : Int) ≤ M2 58 8 → ORl M2 N2 p (sq r k) (sq r' k) ∧ ∀ j : Nat, j < k → r' j = p (r j) := by
  intro k
  have hm := o.1.1
  have e47 := o.2.2.1
  induction k with
  | zero => intro _; exact ⟨ORl_0 o, fun j hj => by omega⟩
  | succ k ih =>
    intro hk
    obtain ⟨i1, i2⟩ := ih (by omega)
    have ok := oRow_ok o.1 hE h0 hr (k + 1) (by omega)
    have ok0 := oRow_ok o.1 hE h0 hr k (by omega)
    have hy := ok.2.2.2 k (by omega)
    have q := hr k (by omega)
    have q' := hr' k (by omega)
    obtain ⟨v, v0, v1, v2⟩ := o.2.2.2.2.1 (r' k) q'.1.1 (by omega)
    have y1 := (yes_eq o hE hG i1 q.1 ok0.2.2.1).mp hy
    have pu := o.2.2.2.1 (r k) q.1.1 q.1.2
    have pv := o.2.2.2.1 v v0 v1
    have l1 := q'.2.2 (p (r k)) pu.1.1 (by omega) y1
    have y2 := q'.2.1
    rw [← v2] at y2 l1
    have y3 := (yes_eq o hE hG i1 ⟨v0, v1⟩ ok0.2.2.1).mpr y2
    have hmono := o.2.2.2.2.2.1
    have ev : v = r k := by
      by_cases c1 : v < r k
      · exact absurd y3 (q.2.1 v v0 c1)
      · by_cases c2 : r k < v
        · have := hmono (r k) v q.1.1 c2 v1
          omega
        · omega
    have er : r' k = p (r k) := by rw [← v2, ev]
    refine ⟨?_, fun j hj => ?_⟩
    · rw [sq, sq, er]
      exact (i1.step o q.1 hy.1.1).1
    · by_cases c : j = k
      · subst c; exact er
      · exact i2 j (by omega)
