/-! MOVE and ARRANGE on both sides -/
theorem pcS_full : ∀ m : Nat, m ≤ 10 → ∀ t : Nat, t < 2 ^ m → pcS (t : Int) = (m : Int) → t = 2 ^ m - 1 := by decide +kernel
theorem gsz_full {S : Int → Int} {s : Int} : ∀ k : Nat, (∀ q : Nat, q < k → s.toNat.testBit q = true) → gsz S s k = sumI S k := by
  intro k
  induction k with
  | zero => intro _; rfl
  | succ k ih =>
    intro h
    rw [gsz_s, sumI, ih (fun q hq => h q (by omega)), if_pos (h k (by omega))]
theorem sq_has {M : Mm} (hO : OI M) {r : Int → Int} {k : Nat} (hk : ∀ j : Nat, j < k → 0 ≤ r j ∧ r j < M 58 8) : ∀ j : Nat, j < k → inS (sq r k) (r j) := by
  have w := o2n_le hO
  have hm := hO.1
  induction k with
  | zero => intro j hj; omega
  | succ k ih =>
    intro j hj
    have g := sq_rg hO k (fun j hj => hk j (by omega))
    have q := hk k (by omega)
    rw [sq, inS_or (by omega) (by omega)]
    by_cases c : j = k
    · subst c; exact Or.inr rfl
    · exact Or.inl (ih (fun j hj => hk j (by omega)) j (by omega))
theorem row_inj {M : Mm} {f r : Int → Int} (hO : OI M) (hE : oEq M f) (h0 : f 0 < 268435456) (hr : oRow M f r) {i j : Nat} (hi : i < j) (hj : (j : Int) < M 58 8) : r i ≠ r j := by
  obtain ⟨_, _, _, g⟩ := oRow_ok hO hE h0 hr (j + 1) (by omega)
  have y := (g j (by omega)).1.1
  intro e
  rw [← e] at y
  exact y (sq_has hO (fun q hq => (hr q (by omega)).1) i hi)
theorem row_all {M : Mm} {f r : Int → Int} (hO : OI M) (hE : oEq M f) (h0 : f 0 < 268435456) (hr : oRow M f r) : sumI (fun j => M 61 (r j)) (M 58 8).toNat = sumI (M 61) (M 58 8).toNat := by
  have hm := hO.1
  have w := o2n_le hO
  have hsum : ∀ k : Nat, (k : Int) ≤ M 58 8 → sumI (fun j => M 61 (r j)) k = gsz (M 61) (sq r k) (M 58 8).toNat := by
    intro k
    induction k with
    | zero => intro _; rw [sq, gsz_0]; rfl
    | succ k ih =>
      intro hk
      obtain ⟨i1, i2, i3, i4⟩ := oRow_ok hO hE h0 hr (k + 1) hk
      obtain ⟨j1, _⟩ := oRow_ok hO hE h0 hr k (by omega)
      have q := hr k (by omega)
      rw [sumI, ih (by omega), sq, gsz_or (by omega) (by omega) (i4 k (by omega)).1.1, if_pos (by omega)]
  rw [hsum _ (by omega)]
  obtain ⟨g1, g2, _, _⟩ := oRow_ok hO hE h0 hr (M 58 8).toNat (by omega)
  have e : (sq r (M 58 8).toNat).toNat = 2 ^ (M 58 8).toNat - 1 := by
    refine pcS_full (M 58 8).toNat (by omega) _ ?_ ?_
    · have := g1.2
      unfold o2n at this
      omega
    · rw [Int.toNat_of_nonneg g1.1]; exact g2
  refine gsz_full _ (fun q hq => ?_)
  rw [e, Nat.testBit_two_pow_sub_one]
  exact decide_eq_true hq
theorem arF_out {a : Int → Int} {l : Int} {F S : Int → Int} {i : Int} : ∀ k : Nat, (∀ j : Nat, j < k → 0 ≤ S (j : Int)) → (i < l ∨ l + sumI S k ≤ i) → 0 ≤ sumI S k ∧ arF a l F S k i = a i := by
  intro k
  induction k with
  | zero => intro _ _; exact ⟨Int.le_refl _, rfl⟩
  | succ k ih =>
    intro h hi
    have s := h k (by omega)
    rw [sumI] at hi
    have hk : 0 ≤ sumI S k := by
      have : ∀ m : Nat, m ≤ k → 0 ≤ sumI S m := by
        intro m
        induction m with
        | zero => intro _; exact Int.le_refl _
        | succ m ihm => intro hm; rw [sumI]; have := ihm (by omega); have := h m (by omega); omega
      exact this k (Nat.le_refl _)
    have g := ih (fun j hj => h j (by omega)) (by omega)
    rw [sumI, arF, if_neg (by omega)]
    exact ⟨by omega, g.2⟩
theorem arF_in {a : Int → Int} {l : Int} {F S : Int → Int} {i : Int} : ∀ k : Nat, l ≤ i → i < l + sumI S k → ∃ j : Nat, j < k ∧ (l + sumI S j ≤ i ∧ i < l + sumI S j + S (j : Int)) ∧ arF a l F S k i = a (F (j : Int) + (i - (l + sumI S j))) := by
  intro k
  induction k with
  | zero => intro h1 h2; simp only [sumI] at h2; omega
  | succ k ih =>
    intro h1 h2
    rw [sumI] at h2
    by_cases c : l + sumI S k ≤ i ∧ i < l + sumI S k + S (k : Int)
    · exact ⟨k, by omega, c, by rw [arF, if_pos c]⟩
    · obtain ⟨j, j1, j2, j3⟩ := ih h1 (by omega)
      exact ⟨j, by omega, j2, by rw [arF, if_neg c]; exact j3⟩
theorem arF_id {a : Int → Int} {l : Int} {F S : Int → Int} : ∀ (k : Nat) (i : Int), arF a l F S k i = a (arF (fun x => x) l F S k i) := by
  intro k
  induction k with
  | zero => intro i; rfl
  | succ k ih =>
    intro i
    rw [arF, arF]
    split
    · rfl
    · exact ih i
theorem mvA_id (a : Int → Int) (l u e i : Int) : mvA a l u e i = a (mvA (fun x => x) l u e i) := by
  unfold mvA
  repeat' split
  all_goals rfl
/-- the places are put in another row -/
def Pmt (n : Int) (p : Int → Int) : Prop := (∀ i, 0 ≤ i → i < n → 0 ≤ p i ∧ p i < n) ∧ ∀ i j, 0 ≤ i → i < n → 0 ≤ j → j < n → p i = p j → i = j
theorem mvA_pm {n l u e : Int} (hl : 0 ≤ l ∧ l ≤ u ∧ u < n) (he : 0 ≤ e ∧ e ≤ n) (hn : ¬ (l ≤ e ∧ e ≤ u)) : Pmt n (mvA (fun x => x) l u e) := by
  have f : ∀ i, 0 ≤ i → i < n → (e ≤ l ∧ ((e ≤ i ∧ i < e + (u - l + 1) ∧ mvA (fun x => x) l u e i = l + (i - e)) ∨ (e + (u - l + 1) ≤ i ∧ i ≤ u ∧ mvA (fun x => x) l u e i = i - (u - l + 1)) ∨ ((i < e ∨ u < i) ∧ mvA (fun x => x) l u e i = i))) ∨ (u < e ∧ ((l ≤ i ∧ i < l + (e - u - 1) ∧ mvA (fun x => x) l u e i = u + 1 + (i - l)) ∨ (l + (e - u - 1) ≤ i ∧ i < e ∧ mvA (fun x => x) l u e i = l + (i - (l + (e - u - 1)))) ∨ ((i < l ∨ e ≤ i) ∧ mvA (fun x => x) l u e i = i))) := by
    intro i i0 i1
    unfold mvA
    by_cases c : e ≤ l
    · left
      refine ⟨c, ?_⟩
      rw [if_pos c]
      by_cases c1 : e ≤ i ∧ i < e + (u - l + 1)
      · rw [if_pos c1]; exact Or.inl ⟨c1.1, c1.2, rfl⟩
      · rw [if_neg c1]
        by_cases c2 : e + (u - l + 1) ≤ i ∧ i ≤ u
        · rw [if_pos c2]; exact Or.inr (Or.inl ⟨c2.1, c2.2, rfl⟩)
        · rw [if_neg c2]; exact Or.inr (Or.inr ⟨by omega, rfl⟩)
    · right
      refine ⟨by omega, ?_⟩
      rw [if_neg c]
      by_cases c1 : l ≤ i ∧ i < l + (e - u - 1)
      · rw [if_pos c1]; exact Or.inl ⟨c1.1, c1.2, rfl⟩
      · rw [if_neg c1]
        by_cases c2 : l + (e - u - 1) ≤ i ∧ i < e
        · rw [if_pos c2]; exact Or.inr (Or.inl ⟨c2.1, c2.2, rfl⟩)
        · rw [if_neg c2]; exact Or.inr (Or.inr ⟨by omega, rfl⟩)
  refine ⟨fun i i0 i1 => ?_, fun i j i0 i1 j0 j1 g => ?_⟩
  · have := f i i0 i1
    omega
  · have a := f i i0 i1
    have b := f j j0 j1
    rw [g] at a
    generalize mvA (fun x => x) l u e j = y at a b
    omega
theorem unit_at {M A : Mm} {n r h l u k i : Int} (b : BnT M n r) (hh : 0 ≤ h ∧ h < n) (t : UL M A h n.toNat) (hv : Iv (M 51) n r h l u) (h0 : 0 ≤ k ∧ k < A 58 8) (hi : A 60 k ≤ i ∧ i < A 60 k + A 61 k) : (l ≤ i ∧ i ≤ u) ∧ InU (M 51) r h (A 59 k) i := by
  obtain ⟨q, q1, q2, q3, q4, q5⟩ := t.of b hh h0.1 h0.2
  have hv1 := hv.1
  rcases q5 with ⟨g1, g2, g3, g4⟩ | ⟨g1, g2, g3, g4⟩
  · rw [g3, g4] at hi
    exact ⟨by omega, Or.inl ⟨by rw [q3, g1], by omega⟩⟩
  · obtain ⟨l', u', w⟩ := b.2.1.iv (i := (q : Int)) (by omega)
    obtain ⟨e1, e2⟩ := g4 l' u' w
    have w1 := w.1
    rw [e1, e2] at hi
    have on : Onw (M 51) r (q : Int) i := (w.2 i (by omega) (by omega)).2 (by omega)
    have iu : InU (M 51) r h (A 59 k) i := Or.inr ⟨by rw [q3]; exact g1, by rw [q3]; exact g3, by rw [q3]; exact on⟩
    have oh := iu.on b.2.1 hh (by omega) (by rw [q3]; omega)
    exact ⟨(hv.2 i (by omega) (by omega)).1 oh, iu⟩
theorem ar_pm {M A : Mm} {n r h l u p : Int} {al be f rw : Int → Int} (b : BnT M n r) (hh : 0 ≤ h ∧ h < n) (h9 : bHu (M 51) h n.toNat ≤ 9) (t : UM M A h n al be p) (hv : Iv (M 51) n r h l u) (hE : oEq A f) (h0 : f 0 < 268435456) (hr : oRow A f rw) : Pmt n (arF (fun x => x) l (fun j => A 60 (rw j)) (fun j => A 61 (rw j)) (A 58 8).toNat) := by
  have hO := t.oi b hh h9
  have hm := hO.1
  obtain ⟨⟨B, tB, sB⟩, _, _⟩ := t
  have tot : sumI (fun j => A 61 (rw j)) (A 58 8).toNat = u - l + 1 := by
    have e2 := tB.sum b hh n.toNat (by omega)
    rw [if_pos (by omega), ← tB.2.2.1, ← sB 58 (by decide), ← sB 61 (by decide), ← b.2.1.sum hh, hv.pz] at e2
    rw [row_all hO hE h0 hr, e2]
  have hv1 := hv.1
  have sp : ∀ j : Nat, j < (A 58 8).toNat → 0 ≤ (fun j => A 61 (rw j)) (j : Int) := by
    intro j hj
    have q := (hr j (by omega)).1
    have o := (hO.2.2 _ q.1 q.2).1
    show 0 ≤ A 61 (rw (j : Int))
    omega
  have out : ∀ i, (i < l ∨ u < i) → arF (fun x => x) l (fun j => A 60 (rw j)) (fun j => A 61 (rw j)) (A 58 8).toNat i = i := fun i hi => (arF_out _ sp (by rw [tot]; omega)).2
  have ins : ∀ i, l ≤ i → i ≤ u → ∃ j : Nat, (j : Int) < A 58 8 ∧ arF (fun x => x) l (fun j => A 60 (rw j)) (fun j => A 61 (rw j)) (A 58 8).toNat i = A 60 (rw (j : Int)) + (i - (l + sumI (fun j => A 61 (rw j)) j)) ∧ (l ≤ A 60 (rw (j : Int)) + (i - (l + sumI (fun j => A 61 (rw j)) j)) ∧ A 60 (rw (j : Int)) + (i - (l + sumI (fun j => A 61 (rw j)) j)) ≤ u) ∧ InU (M 51) r h (A 59 (rw (j : Int))) (A 60 (rw (j : Int)) + (i - (l + sumI (fun j => A 61 (rw j)) j))) := by
    intro i i0 i1
    obtain ⟨j, j1, j2, j3⟩ := arF_in (a := fun x => x) (F := fun j => A 60 (rw j)) (S := fun j => A 61 (rw j)) (A 58 8).toNat i0 (by rw [tot]; omega)
    have q := (hr j (by omega)).1
    have ee : A 58 8 = B 58 8 := by rw [sB 58 (by decide)]
    have z := unit_at b hh tB hv (k := rw (j : Int)) (by rw [← ee]; exact q) (i := A 60 (rw (j : Int)) + (i - (l + sumI (fun j => A 61 (rw j)) j))) (by rw [← sB 60 (by decide), ← sB 61 (by decide)]; omega)
    rw [← sB 59 (by decide)] at z
    exact ⟨j, by omega, j3, z.1, z.2⟩
  refine ⟨fun i i0 i1 => ?_, fun i i' a0 a1 b0 b1 g => ?_⟩
  · by_cases c : l ≤ i ∧ i ≤ u
    · obtain ⟨j, _, j2, j3, _⟩ := ins i c.1 c.2
      rw [j2]; omega
    · rw [out i (by omega)]; omega
  · by_cases c : l ≤ i ∧ i ≤ u
    · obtain ⟨j, j1, j2, j3, j4⟩ := ins i c.1 c.2
      by_cases c' : l ≤ i' ∧ i' ≤ u
      · obtain ⟨k, k1, k2, k3, k4⟩ := ins i' c'.1 c'.2
        rw [j2, k2] at g
        rw [← g] at k4
        have e59 := j4.uq b.2.1 hh (by omega) k4
        have ee : A 58 8 = B 58 8 := by rw [sB 58 (by decide)]
        have er : rw (j : Int) = rw (k : Int) := tB.inj b hh (by rw [← ee]; exact (hr j (by omega)).1) (by rw [← ee]; exact (hr k (by omega)).1) (by rw [← sB 59 (by decide)]; exact e59)
        have ejk : j = k := by
          rcases Nat.lt_trichotomy j k with x | x | x
          · exact absurd er (row_inj hO hE h0 hr x k1)
          · exact x
          · exact absurd er.symm (row_inj hO hE h0 hr x j1)
        subst ejk
        omega
      · rw [j2, out i' (by omega)] at g
        omega
    · by_cases c' : l ≤ i' ∧ i' ≤ u
      · obtain ⟨k, k1, k2, k3, k4⟩ := ins i' c'.1 c'.2
        rw [k2, out i (by omega)] at g
        omega
      · rw [out i (by omega), out i' (by omega)] at g
        exact g
theorem MvR.tf {N M : Mm} {n z : Int} {g : Int → Int} (v : MvR N M n z g) (hT : TF N) (x : M 66 32 ≠ 0) : TF M := by
  obtain ⟨v1, v2, v3, v4, v5, _⟩ := v
  have e85 : M 85 = N 85 := by
    funext i
    by_cases c : 0 ≤ i ∧ i < n
    · rw [v4 i c.1 c.2, v3 x i c.1 c.2]
    · exact v5 i (by omega)
  refine hT.sm (fun a ha => ?_) (fun k hk => v2 k ?_)
  · by_cases c : a = 85
    · rw [c, e85]
    · refine v1 a ?_
      simp only [List.mem_cons, List.not_mem_nil, or_false] at ha ⊢
      omega
  · simp only [List.mem_cons, List.not_mem_nil, or_false] at hk
    omega
theorem Cpl.mvd {M M'' : Mm} {e d : Nat} {p : Int → Int} (h : Cpl M e d) (hp : Pmt (M 66 24) p) (r : ∀ q : Nat, q ∉ [0, 40, 41, 42, 58, 59, 60, 61, 62, 63, 64, 66, 85, 98, 99, 100, 101, 102, 103, 105, 106] → M'' q = M q) (f : ∀ t : Int, t ∉ [32, 47] → M'' 66 t = M 66 t) (g0 : ∀ k : Int, k ≠ 15 → M'' 0 k = M 0 k) (g15 : M'' 0 15 = 1) (g40 : M'' 40 2 = M 40 2) (g41 : ∀ i, 0 ≤ i → i < M 66 24 → M'' 41 i = M 41 (p i)) (g85 : ∀ i, 0 ≤ i → i < M 66 24 → M'' 85 i = M 85 (p i)) (g58 : M'' 58 7 = M 58 7) (gT : M'' 66 32 ≠ 0 → TF M'') : Cpl M'' e d := by
  have he := h.he
  have hX := h.1
  have hR := h.2.1
  have n := h.n
  have xe : M'' e = M e := r e (by simp only [List.mem_cons, List.not_mem_nil, or_false]; omega)
  have f24 : M'' 66 24 = M 66 24 := f 24 (by decide)
  have es := h.2.2.2.2.2.1
  have pl := hX.2.2.2.2.2.2.1.2.1
  have er := hR.2.2.2.2.1
  rw [n.1] at pl
  refine ⟨⟨hX.1, ⟨by rw [g0 6 (by decide)]; exact hX.2.1.1, by rw [g0 7 (by decide)]; exact hX.2.1.2⟩, by rw [(r 1 (by decide))]; exact hX.2.2.1, ⟨hX.2.2.2.1.1.cg (r 3 (by decide)) (r 5 (by decide)), hX.2.2.2.1.2.1.cg (r 7 (by decide)) (r 9 (by decide)), hX.2.2.2.1.2.2.cg (r 11 (by decide)) (r 13 (by decide))⟩, by rw [(r 7 (by decide)), (r 10 (by decide))]; exact hX.2.2.2.2.1, by rw [(r 15 (by decide))]; exact hX.2.2.2.2.2.1, ⟨hX.2.2.2.2.2.2.1.1.cg (r e (by simp only [List.mem_cons, List.not_mem_nil, or_false]; omega)) (r (e + 2) (by simp only [List.mem_cons, List.not_mem_nil, or_false]; omega)) (r (e + 3) (by simp only [List.mem_cons, List.not_mem_nil, or_false]; omega)) (r (e + 4) (by simp only [List.mem_cons, List.not_mem_nil, or_false]; omega)) (r (e + 5) (by simp only [List.mem_cons, List.not_mem_nil, or_false]; omega)), ?_, prOk_cg hX.2.2.2.2.2.2.1.2.2 (r e (by simp only [List.mem_cons, List.not_mem_nil, or_false]; omega)) (r 55 (by decide)) (r 56 (by decide)) (r 57 (by decide))⟩, by rw [g58]; exact hX.2.2.2.2.2.2.2.1, fun x => (hX.kf (by rw [g0 14 (by decide)] at x; exact x)).sm (fun q hq => r q (by simp only [List.mem_cons, List.not_mem_nil, or_false] at hq ⊢; omega)), fun x y => absurd (g15.symm.trans y) (by decide)⟩,
    ⟨by rw [(f 1 (by decide))]; exact hR.1, ⟨hR.2.1.1.cg (f 6 (by decide)) (r 70 (by decide)), hR.2.1.2.1.cg (f 10 (by decide)) (r 72 (by decide)), hR.2.1.2.2.cg (f 13 (by decide)) (r 75 (by decide))⟩, by rw [(f 10 (by decide)), (r 73 (by decide))]; exact hR.2.2.1, by unfold wgR; rw [(r 76 (by decide))]; exact hR.2.2.2.1, ?_, hR.2.2.2.2.2.1.cg (f 24 (by decide)) (f 41 (by decide)) (r 96 (by decide)) (r 97 (by decide)), by rw [(f 52 (by decide))]; exact hR.2.2.2.2.2.2.1, gT⟩,
    h.2.2.1.cg (r 1 (by decide)) (r 2 (by decide)) (r 67 (by decide)) (f 1 (by decide)), ⟨h.2.2.2.1.1.cg (r 3 (by decide)) (r 4 (by decide)) (r 5 (by decide)) (r 69 (by decide)) (r 70 (by decide)) (f 6 (by decide)), h.2.2.2.1.2.1.cg (r 7 (by decide)) (r 8 (by decide)) (r 9 (by decide)) (r 71 (by decide)) (r 72 (by decide)) (f 10 (by decide)), h.2.2.2.1.2.2.1.cg (r 11 (by decide)) (r 12 (by decide)) (r 13 (by decide)) (r 74 (by decide)) (r 75 (by decide)) (f 13 (by decide)), by rw [(r 10 (by decide)), (r 73 (by decide)), (f 10 (by decide))]; exact h.2.2.2.1.2.2.2⟩, by rw [(r 15 (by decide)), (r 76 (by decide))]; exact h.2.2.2.2.1, ?_, h.2.2.2.2.2.2.1.cg (r 55 (by decide)) (r 56 (by decide)) (r 57 (by decide)) (r 96 (by decide)) (r 97 (by decide)) (f 41 (by decide)), h.2.2.2.2.2.2.2.1.cg g58 (r 65 (by decide)) (r 104 (by decide)) (f 52 (by decide)), by rw [(r 16 (by decide)), (f 26 (by decide)), (f 27 (by decide))]; exact h.2.2.2.2.2.2.2.2⟩
  · rw [xe, n.1]
    refine ⟨by rw [g40]; exact pl.1, fun i i0 i1 => ?_, fun i j i0 i1 j0 j1 x => ?_⟩
    · rw [g41 i i0 i1]
      have := hp.1 i i0 i1
      exact pl.2.1 _ this.1 this.2
    · rw [g41 i i0 i1, g41 j j0 j1] at x
      have a := hp.1 i i0 i1
      have b := hp.1 j j0 j1
      exact hp.2 i j i0 i1 j0 j1 (pl.2.2 _ _ a.1 a.2 b.1 b.2 x)
  · refine ⟨by rw [f24]; exact er.1, by rw [f24, r 79 (by decide), r 78 (by decide)]; exact er.2.1, fun i i0 i1 => ?_⟩
    rw [f24] at i1 ⊢
    rw [g85 i i0 i1]
    have := hp.1 i i0 i1
    exact er.2.2 _ this.1 this.2
  · refine ⟨by rw [xe, f24]; exact n.1, ?_, fun i i0 i1 => ?_, ?_⟩
    · unfold wL wS
      rw [f24, r (e + 1) (by simp only [List.mem_cons, List.not_mem_nil, or_false]; omega), r (e + 2) (by simp only [List.mem_cons, List.not_mem_nil, or_false]; omega), r (e + 3) (by simp only [List.mem_cons, List.not_mem_nil, or_false]; omega), r (e + 4) (by simp only [List.mem_cons, List.not_mem_nil, or_false]; omega), r (e + 5) (by simp only [List.mem_cons, List.not_mem_nil, or_false]; omega), r 77 (by decide), r 78 (by decide), r 79 (by decide)]
      exact es.2.1
    · rw [f24] at i1
      have q := hp.1 i i0 i1
      rw [r (e + 6) (by simp only [List.mem_cons, List.not_mem_nil, or_false]; omega), r 84 (by decide), g41 i i0 i1, g85 i i0 i1]
      exact ⟨(es.2.2.1 i i0 i1).1, (es.2.2.1 _ q.1 q.2).2⟩
    · rw [f24, f 25 (by decide), r (e + 6) (by simp only [List.mem_cons, List.not_mem_nil, or_false]; omega)]
      exact es.2.2.2
