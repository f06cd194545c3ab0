/-! PARTS: a head, and the parts of those that hang on it -/
theorem TT.path {f : Int → Int} {n r : Int} (h : TT f n r) {d : Int} (hd : 0 ≤ d ∧ d < n) : ∃ K : Nat, (∀ j, j ≤ K → 0 ≤ itf f j d ∧ itf f j d < n) ∧ itf f (K + 1) d = -1 ∧ (∀ x, Onw f r x d ↔ ∃ j, j ≤ K ∧ itf f j d = x) ∧ ∀ a b, a ≤ K → b ≤ K → itf f a d = itf f b d → a = b := by
  obtain ⟨K, K0, K1, K2, K3, K4⟩ := h.way hd
  have inj : ∀ a b, a < b → b ≤ K → itf f a d ≠ itf f b d := by
    intro a b hab hb q
    have q1 : itf f (a + (K + 1 - b)) d = -1 := by
      rw [itf_add, q, ← itf_add, show b + (K + 1 - b) = K + 1 by omega]
      exact K2
    have q2 := K1 (a + (K + 1 - b)) (by omega)
    omega
  refine ⟨K, K1, K2, fun x => ⟨?_, ?_⟩, fun a b ha hb q => ?_⟩
  · rintro ⟨j, q1, q2⟩
    refine ⟨j, ?_, q1⟩
    by_cases c : j ≤ K
    · exact c
    · exact absurd K3 (q2 K (by omega))
  · rintro ⟨j, hj, q⟩
    exact ⟨j, q, fun j2 h2 => K4 j2 (by omega)⟩
  · by_cases c1 : a < b
    · exact absurd q (inj a b c1 hb)
    · by_cases c2 : b < a
      · exact absurd q.symm (inj b a c2 ha)
      · omega
theorem itf_s (f : Int → Int) (j : Nat) (d : Int) : itf f (j + 1) d = f (itf f j d) := by
  rw [itf_add]; rfl
/-- the part of h: h, and the parts of those that hang on it, apart -/
theorem TT.uniq {f : Int → Int} {n r h q q' i : Int} (T : TT f n r) (hi : 0 ≤ i ∧ i < n) (hh : 0 ≤ h) (h1 : f q = h) (h2 : f q' = h) (o1 : Onw f r q i) (o2 : Onw f r q' i) : q = q' := by
  obtain ⟨K, K1, K2, K3, K4⟩ := T.path hi
  obtain ⟨a, a1, a2⟩ := (K3 q).mp o1
  obtain ⟨b, b1, b2⟩ := (K3 q').mp o2
  have ea : itf f (a + 1) i = h := by rw [itf_s, a2]; exact h1
  have eb : itf f (b + 1) i = h := by rw [itf_s, b2]; exact h2
  have ka : a + 1 ≤ K := by
    by_cases c : a = K
    · subst c; omega
    · omega
  have kb : b + 1 ≤ K := by
    by_cases c : b = K
    · subst c; omega
    · omega
  have := K4 (a + 1) (b + 1) ka kb (by rw [ea, eb])
  rw [← a2, ← b2, show a = b by omega]
theorem TT.nself {f : Int → Int} {n r h q : Int} (T : TT f n r) (hh : 0 ≤ h ∧ h < n) (h1 : f q = h) : ¬ Onw f r q h := by
  intro o
  obtain ⟨K, K1, K2, K3, K4⟩ := T.path hh
  obtain ⟨a, a1, a2⟩ := (K3 q).mp o
  have ea : itf f (a + 1) h = h := by rw [itf_s, a2]; exact h1
  have ka : a + 1 ≤ K := by
    by_cases c : a = K
    · subst c; omega
    · omega
  have := K4 (a + 1) 0 ka (by omega) (by rw [ea]; rfl)
  omega
theorem TT.cases {f : Int → Int} {n r h i : Int} (T : TT f n r) (hi : 0 ≤ i ∧ i < n) (hh : 0 ≤ h ∧ h < n) : Onw f r h i ↔ i = h ∨ ∃ q, 0 ≤ q ∧ q < n ∧ f q = h ∧ Onw f r q i := by
  obtain ⟨K, K1, K2, K3, K4⟩ := T.path hi
  constructor
  · intro o
    obtain ⟨j, j1, j2⟩ := (K3 h).mp o
    cases j with
    | zero => exact Or.inl j2
    | succ j =>
      have hq := K1 j (by omega)
      exact Or.inr ⟨itf f j i, hq.1, hq.2, (itf_s f j i).symm.trans j2, (K3 _).mpr ⟨j, by omega, rfl⟩⟩
  · rintro (rfl | ⟨q, q0, q1, q2, q3⟩)
    · exact Onw.self _ _ _
    · obtain ⟨a, a1, a2⟩ := (K3 q).mp q3
      have ea : itf f (a + 1) i = h := by rw [itf_s, a2]; exact q2
      refine (K3 h).mpr ⟨a + 1, ?_, ea⟩
      by_cases c : a = K
      · subst c; omega
      · omega
theorem cntB_add {f g : Int → Bool} : ∀ n : Nat, (∀ i : Int, 0 ≤ i → i < (n : Int) → ¬ (f i = true ∧ g i = true)) → cntB (fun i => f i || g i) n = cntB f n + cntB g n := by
  intro n
  induction n with
  | zero => intro _; rfl
  | succ n ih =>
    intro h
    rw [cntB, cntB, cntB, ih (fun i a b => h i a (by omega))]
    have hn := h (n : Int) (by omega) (by omega)
    by_cases c1 : f (n : Int) = true
    · by_cases c2 : g (n : Int) = true
      · exact absurd ⟨c1, c2⟩ hn
      · rw [if_pos (by simp [c1]), if_pos c1, if_neg c2]; omega
    · by_cases c2 : g (n : Int) = true
      · rw [if_pos (by simp [c2]), if_neg c1, if_pos c2]; omega
      · rw [if_neg (by simp [c1, c2]), if_neg c1, if_neg c2]; omega
noncomputable def pz (f : Int → Int) (r n q : Int) : Int := cntB (fun i => bP (Onw f r q i)) n.toNat
theorem Iv.pz {f : Int → Int} {n r q l u : Int} (hv : Iv f n r q l u) : pz f r n q = u - l + 1 := by
  have h1 := hv.1
  unfold CEssayBonesLaw_law_r1290_fcdebb.pz
  rw [cntB_iv (l := l) (u := u) n.toNat (fun d d0 d1 => by rw [bP_iff]; exact hv.2 d d0 (by omega)) h1.1 (by omega)]
  omega
noncomputable def chS (f : Int → Int) (r n h : Int) (N : Nat) : Int := sumI (fun q => if f q = h then pz f r n q else 0) N
theorem chS_s (f : Int → Int) (r n h : Int) (N : Nat) : chS f r n h (N + 1) = chS f r n h N + (if f (N : Int) = h then pz f r n (N : Int) else 0) := rfl
theorem bP_cg {P Q : Prop} (h : P ↔ Q) : bP P = bP Q := by
  by_cases c : P
  · rw [bP_t c, bP_t (h.mp c)]
  · rw [bP_f c, bP_f (fun q => c (h.mpr q))]
theorem bP_or (P Q : Prop) : bP (P ∨ Q) = (bP P || bP Q) := by
  by_cases c : P
  · rw [bP_t c, bP_t (Or.inl c)]; rfl
  · by_cases c2 : Q
    · rw [bP_f c, bP_t c2, bP_t (Or.inr c2)]; rfl
    · rw [bP_f c, bP_f c2, bP_f (fun q => q.elim c c2)]; rfl
def kidU (f : Int → Int) (r h : Int) (N : Nat) (i : Int) : Prop := ∃ q, 0 ≤ q ∧ q < (N : Int) ∧ f q = h ∧ Onw f r q i
theorem kidU_s {f : Int → Int} {r h i : Int} {N : Nat} : kidU f r h (N + 1) i ↔ kidU f r h N i ∨ (f (N : Int) = h ∧ Onw f r (N : Int) i) := by
  constructor
  · rintro ⟨q, a, b, d⟩
    by_cases e : q = (N : Int)
    · subst e; exact Or.inr d
    · exact Or.inl ⟨q, a, by omega, d⟩
  · rintro (⟨q, a, b, d⟩ | d)
    · exact ⟨q, a, by omega, d⟩
    · exact ⟨(N : Int), by omega, by omega, d⟩
theorem cntB_ff {f : Int → Bool} : ∀ k : Nat, (∀ i : Int, 0 ≤ i → i < (k : Int) → f i = false) → cntB f k = 0 := by
  intro k
  induction k with
  | zero => intro _; rfl
  | succ k ih => intro h; rw [cntB, ih (fun i a b => h i a (by omega)), h (k : Int) (by omega) (by omega)]; rfl
theorem chS_cnt {f : Int → Int} {n r h : Int} (T : TT f n r) (hh : 0 ≤ h ∧ h < n) : ∀ N : Nat, chS f r n h N = cntB (fun i => bP (kidU f r h N i)) n.toNat := by
  intro N
  induction N with
  | zero =>
    rw [cntB_ff n.toNat (fun i _ _ => bP_f (fun ⟨q, a, b, _⟩ => by omega))]; rfl
  | succ N ih =>
    rw [chS_s, ih]
    by_cases c : f (N : Int) = h
    · rw [if_pos c]
      unfold pz
      rw [← cntB_add]
      · refine (cntB_congr _ (fun i i0 i1 => ?_)).symm
        rw [bP_cg kidU_s, bP_or, bP_cg (show (f (N : Int) = h ∧ Onw f r (N : Int) i) ↔ Onw f r (N : Int) i from ⟨fun q => q.2, fun q => ⟨c, q⟩⟩)]
      · intro i i0 i1 ⟨g1, g2⟩
        obtain ⟨q, a, b, d1, d2⟩ := bP_iff.mp g1
        have := T.uniq (i := i) (by omega) hh.1 d1 c d2 (bP_iff.mp g2)
        omega
    · rw [if_neg c, Int.add_zero]
      refine (cntB_congr _ (fun i i0 i1 => ?_)).symm
      rw [bP_cg kidU_s, bP_or, bP_f (P := f (N : Int) = h ∧ Onw f r (N : Int) i) (fun q => c q.1)]
      simp
theorem cntB_one {h : Int} : ∀ n : Nat, 0 ≤ h → cntB (fun i => decide (i = h)) n = if h < (n : Int) then 1 else 0 := by
  intro n
  induction n with
  | zero => intro a; rw [if_neg (by omega)]; rfl
  | succ n ih =>
    intro a
    have e : (if decide ((n : Int) = h) = true then (1 : Int) else 0) = if (n : Int) = h then 1 else 0 := by simp
    rw [cntB, ih a, e]
    repeat' split
    all_goals omega
theorem TT.sum {f : Int → Int} {n r h : Int} (T : TT f n r) (hh : 0 ≤ h ∧ h < n) : pz f r n h = 1 + chS f r n h n.toNat := by
  rw [chS_cnt T hh]
  have h1 : (1 : Int) = cntB (fun i => decide (i = h)) n.toNat := by rw [cntB_one _ hh.1, if_pos (by omega)]
  unfold pz
  rw [h1, ← cntB_add]
  · refine (cntB_congr _ (fun i i0 i1 => ?_)).symm
    have q := T.cases (i := i) (h := h) (by omega) hh
    have e1 : bP (i = h) = decide (i = h) := by
      by_cases c : i = h
      · rw [bP_t c, decide_eq_true c]
      · rw [bP_f c, decide_eq_false c]
    rw [bP_cg q, bP_or, e1]
    congr 1
    exact bP_cg ⟨fun ⟨x, a, b, d⟩ => ⟨x, a, by omega, d⟩, fun ⟨x, a, b, d⟩ => ⟨x, a, by omega, d⟩⟩
  · intro i i0 i1 ⟨g1, g2⟩
    obtain ⟨x, a, b, d1, d2⟩ := bP_iff.mp g2
    have e : i = h := by simpa using g1
    subst e
    exact T.nself hh d1 d2
/-- what stands when parts are put one behind the other, from l on -/
def arF (a : Int → Int) (l : Int) (F S : Int → Int) : Nat → Int → Int
  | 0, i => a i
  | k + 1, i => if l + sumI S k ≤ i ∧ i < l + sumI S k + S (k : Int) then a (F (k : Int) + (i - (l + sumI S k))) else arF a l F S k i
theorem arF_cg {a : Int → Int} {l : Int} {F S F' S' : Int → Int} : ∀ k : Nat, (∀ j : Nat, j < k → F (j : Int) = F' (j : Int) ∧ S (j : Int) = S' (j : Int)) → ∀ i, arF a l F S k i = arF a l F' S' k i := by
  intro k
  induction k with
  | zero => intro _ i; rfl
  | succ k ih =>
    intro h i
    have e : sumI S k = sumI S' k := sumI_cg k (fun j j0 j1 => by have := (h j.toNat (by omega)).2; rwa [Int.toNat_of_nonneg j0] at this)
    rw [arF, arF, ih (fun j hj => h j (by omega)), e, (h k (by omega)).1, (h k (by omega)).2]
