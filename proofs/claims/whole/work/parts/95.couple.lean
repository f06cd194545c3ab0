/-! COUPLING: the object and the reference between two calls -/
def cTp (M : Mm) : Prop := M 1 1 = M 66 1 ∧ ∀ p, 0 ≤ p → p < M 66 1 → (0 ≤ M 2 p ∧ M 2 p ≤ 255) ∧ M 67 p = sb (M 2 p)
def cPr (M : Mm) : Prop := M 55 2 = M 66 41 ∧ ∀ p, 0 ≤ p → p < M 66 41 → M 96 p = M 56 p ∧ M 97 p = M 57 p
def cTo (M : Mm) : Prop := M 58 7 = M 66 52 ∧ ∀ k, 0 ≤ k → k < M 66 52 → M 104 k = M 65 k
def Cpl (M : Mm) (e d : Nat) : Prop := XI M e d ∧ RI M ∧ cTp M ∧ cTs M ∧ (∀ i, 0 ≤ i → i < 4 → M 15 i = M 76 i) ∧ cEs M e ∧ cPr M ∧ cTo M ∧ (M 16 0 = M 66 26 ∧ M 16 1 = M 66 27)
theorem XI.lo {M M' : Mm} {e d : Nat} (h : XI M e d) (hs : ∀ a, a < 66 → M' a = M a) : XI M' e d := by
  obtain ⟨h1, h2, h3, h4, h5, h6, ⟨h7, h8, h9⟩, h10, h11, h12⟩ := h
  have he : e = 17 ∨ e = 24 := by omega
  have r0 := hs 0 (by decide)
  refine ⟨h1, by rw [r0]; exact h2, by rw [hs 1 (by decide)]; exact h3, ?_, by rw [hs 7 (by decide), hs 10 (by decide)]; exact h5, by rw [hs 15 (by decide)]; exact h6, ⟨?_, ?_, ?_⟩, by rw [hs 58 (by decide)]; exact h10, fun a => ?_, fun a b => ?_⟩
  · unfold tW at *
    rw [hs 3 (by decide), hs (3 + 2) (by decide), hs 7 (by decide), hs (7 + 2) (by decide), hs 11 (by decide), hs (11 + 2) (by decide)]
    exact h4
  · unfold txOk at *
    rw [hs e (by omega), hs (e + 4) (by omega), hs (e + 5) (by omega), hs (e + 2) (by omega), hs (e + 3) (by omega)]
    exact h7
  · unfold plOk at *
    rw [hs e (by omega), hs 40 (by decide), hs 41 (by decide)]
    exact h8
  · unfold prOk at *
    rw [hs e (by omega), hs 55 (by decide), hs 56 (by decide), hs 57 (by decide)]
    exact h9
  · rw [r0] at a
    exact (h11 a).sm (fun x hx => hs x (by simp only [List.mem_cons, List.not_mem_nil, or_false] at hx; omega))
  · rw [r0] at a b
    exact (h12 a b).sm (fun x hx => hs x (by simp only [List.mem_cons, List.not_mem_nil, or_false] at hx; omega))
theorem RI.hi {M M' : Mm} (h : RI M) (hs : ∀ a, 66 ≤ a → M' a = M a) : RI M' := by
  have r66 := hs 66 (by decide)
  obtain ⟨h1, h2, h3, h4, h5, h6, h7, h8⟩ := h
  refine ⟨by rw [r66]; exact h1, ?_, by rw [r66, hs 73 (by decide)]; exact h3, ?_, ?_, ?_, by rw [r66]; exact h7, fun a => ?_⟩
  · unfold tR at *
    rw [r66, hs 70 (by decide), hs 72 (by decide), hs 75 (by decide)]; exact h2
  · unfold wgR at *
    rw [hs 76 (by decide)]; exact h4
  · unfold eR at *
    rw [r66, hs 79 (by decide), hs 78 (by decide), hs 85 (by decide)]; exact h5
  · unfold prR at *
    rw [r66, hs 96 (by decide), hs 97 (by decide)]; exact h6
  · rw [r66] at a
    exact (h8 a).sm (fun x hx => hs x (by simp only [List.mem_cons, List.not_mem_nil, or_false] at hx; omega)) (fun k _ => by rw [r66])
abbrev cL (e : Nat) : List Nat := [1, 2, 3, 4, 5, 7, 8, 9, 10, 11, 12, 13, 15, 41, 55, 56, 57, 65, e, e + 1, e + 2, e + 3, e + 4, e + 5, e + 6, 67, 69, 70, 71, 72, 73, 74, 75, 76, 77, 78, 79, 84, 85, 96, 97, 104]
abbrev cF : List Int := [1, 6, 10, 13, 24, 25, 26, 27, 41, 52]
theorem cEs.cg {M M' : Mm} {e : Nat} (h : cEs M e) (hs : ∀ a, a ∈ [e, e + 1, e + 2, e + 3, e + 4, e + 5, e + 6, 41, 77, 78, 79, 84, 85] → M' a = M a) (f24 : M' 66 24 = M 66 24) (f25 : M' 66 25 = M 66 25) : cEs M' e := by
  unfold cEs wL wS at *
  rw [f24, f25, hs e (by simp), hs (e + 1) (by simp), hs (e + 2) (by simp), hs (e + 3) (by simp), hs (e + 4) (by simp), hs (e + 5) (by simp), hs (e + 6) (by simp), hs 41 (by simp), hs 77 (by simp), hs 78 (by simp), hs 79 (by simp), hs 84 (by simp), hs 85 (by simp)]
  exact h
theorem cT.cg {M M' : Mm} {wt : Nat} {L : Int} {x w : Nat} {c : Int} (h : cT M wt L x w c) (h1 : M' wt = M wt) (h2 : M' (wt + 1) = M (wt + 1)) (h3 : M' (wt + 2) = M (wt + 2)) (h4 : M' x = M x) (h5 : M' w = M w) (h6 : M' 66 c = M 66 c) : cT M' wt L x w c := by
  unfold cT at *
  rw [h1, h2, h3, h4, h5, h6]
  exact h
theorem Cpl.go {M M' : Mm} {e d : Nat} (h : Cpl M e d) (hX : XI M' e d) (hR : RI M') (hs : ∀ a, a ∈ cL e → M' a = M a) (hf : ∀ k : Int, k ∈ cF → M' 66 k = M 66 k) (h16 : M' 16 0 = M 16 0 ∧ M' 16 1 = M 16 1) (h58 : M' 58 7 = M 58 7) : Cpl M' e d := by
  obtain ⟨_, _, k1, ⟨k2, k3, k4, k5⟩, k6, k7, k8, k9, k10⟩ := h
  refine ⟨hX, hR, ?_, ⟨k2.cg (hs _ (by simp)) (hs _ (by simp)) (hs _ (by simp)) (hs _ (by simp)) (hs _ (by simp)) (hf _ (by simp)), k3.cg (hs _ (by simp)) (hs _ (by simp)) (hs _ (by simp)) (hs _ (by simp)) (hs _ (by simp)) (hf _ (by simp)), k4.cg (hs _ (by simp)) (hs _ (by simp)) (hs _ (by simp)) (hs _ (by simp)) (hs _ (by simp)) (hf _ (by simp)), ?_⟩, ?_, ?_, ?_, ?_, ?_⟩
  · unfold cTp at *
    rw [hs 1 (by simp), hs 2 (by simp), hs 67 (by simp), hf 1 (by simp)]; exact k1
  · rw [hs 10 (by simp), hs 73 (by simp), hf 10 (by simp)]; exact k5
  · rw [hs 15 (by simp), hs 76 (by simp)]; exact k6
  · exact k7.cg (fun a ha => hs a (by simp only [List.mem_cons, List.not_mem_nil, or_false] at *; omega)) (hf _ (by simp)) (hf _ (by simp))
  · unfold cPr at *
    rw [hs 55 (by simp), hs 56 (by simp), hs 57 (by simp), hs 96 (by simp), hs 97 (by simp), hf 41 (by simp)]; exact k8
  · unfold cTo at *
    rw [h58, hs 65 (by simp), hs 104 (by simp), hf 52 (by simp)]; exact k9
  · rw [h16.1, h16.2, hf 26 (by simp), hf 27 (by simp)]; exact k10
theorem Cpl.he {M : Mm} {e d : Nat} (h : Cpl M e d) : e = 17 ∨ e = 24 := h.1.he
theorem Cpl.n {M : Mm} {e d : Nat} (h : Cpl M e d) : M e 7 = M 66 24 ∧ 0 ≤ M 66 24 ∧ M 66 24 ≤ 24 := ⟨h.2.2.2.2.2.1.1, h.2.1.n⟩
theorem Cpl.frs {M M' : Mm} {e d : Nat} (h : Cpl M e d) (f : Frs M M' e) : Cpl M' e d := by
  have he := h.he
  have s := f.1
  refine h.go (h.1.frs f) (h.2.1.hi (fun a ha => s a (by simp only [List.mem_cons, List.not_mem_nil, or_false]; omega))) (fun a ha => s a ?_) (fun k _ => by rw [s 66 (by decide)]) ⟨by rw [s 16 (by decide)], by rw [s 16 (by decide)]⟩ (by rw [s 58 (by decide)])
  simp only [List.mem_cons, List.not_mem_nil, or_false] at *
  omega
theorem Cpl.frK {M M' : Mm} {e d : Nat} (h : Cpl M e d) (f : FrK M M' e) : Cpl M' e d := by
  have he := h.he
  have s := f.1
  refine h.go (h.1.frK f) (h.2.1.hi (fun a ha => s a (by simp only [List.mem_cons, List.not_mem_nil, or_false]; omega))) (fun a ha => s a ?_) (fun k _ => by rw [s 66 (by decide)]) ⟨by rw [s 16 (by decide)], by rw [s 16 (by decide)]⟩ (by rw [s 58 (by decide)])
  simp only [List.mem_cons, List.not_mem_nil, or_false] at *
  omega
theorem Tfs.lo {M M' : Mm} (f : Tfs M M') : ∀ a, a < 66 → M' a = M a := fun a ha => f.1 a (by simp only [List.mem_cons, List.not_mem_nil, or_false]; omega)
theorem Cpl.tfs {M M' : Mm} {e d : Nat} (h : Cpl M e d) (f : Tfs M M') : Cpl M' e d := by
  have he := h.he
  have s := f.1
  have l := f.lo
  refine h.go (h.1.lo l) (h.2.1.tfs f) (fun a ha => s a ?_) (fun k hk => f.2.1 k ?_ ?_ ?_) ⟨by rw [l 16 (by decide)], by rw [l 16 (by decide)]⟩ (by rw [l 58 (by decide)])
  · simp only [List.mem_cons, List.not_mem_nil, or_false] at *
    omega
  · simp only [List.mem_cons, List.not_mem_nil, or_false] at hk; omega
  · simp only [List.mem_cons, List.not_mem_nil, or_false] at hk; omega
  · simp only [List.mem_cons, List.not_mem_nil, or_false] at hk; omega
theorem Cpl.fsh {M : Mm} {e d : Nat} (h : Cpl M e d) (hn : 1 ≤ M 66 24) (hK : KF e M) (hT : TF M) : Fsh M e := by
  have n := h.n
  obtain ⟨N, a1, a2⟩ := hK (by omega)
  obtain ⟨N', b1, b2, b3⟩ := hT hn
  exact ⟨h.he, h.2.2.2.1, h.2.2.2.2.2.1, h.2.2.2.2.1, h.2.1.2.1.2.2, h.2.1.2.2.2.2.1, h.2.1.2.2.2.1, ⟨hn, n.2.2⟩, KFr_at a1 a2, TFr_at b1 b2 b3⟩
theorem Cpl.bothK {M M' M'' : Mm} {e d : Nat} (h : Cpl M e d) (hn : 1 ≤ M 66 24) (f : FrK M M' e) (t : Tfs M' M'') : Cpl M'' e d ∧ Fsh M'' e := by
  have he := h.he
  have c := (h.frK f).tfs t
  have l := t.lo
  refine ⟨c, c.fsh ?_ (f.2.2.2.1.sm (fun x hx => l x ?_)) t.2.2.2⟩
  · rw [t.2.1 24 (by decide) (by decide) (by decide), f.1 66 (by decide)]; exact hn
  · simp only [List.mem_cons, List.not_mem_nil, or_false] at hx; omega
theorem Cpl.both {M M' M'' : Mm} {e d : Nat} (h : Cpl M e d) (hn : 1 ≤ M 66 24) (f : Frs M M' e) (t : Tfs M' M'') : Cpl M'' e d ∧ Fsh M'' e ∧ BFr e M'' := by
  have he := h.he
  have c := (h.frs f).tfs t
  have l := t.lo
  have e24 : M'' 66 24 = M 66 24 := by rw [t.2.1 24 (by decide) (by decide) (by decide), f.1 66 (by decide)]
  refine ⟨c, c.fsh (by omega) (f.2.2.2.2.1.sm (fun x hx => l x ?_)) t.2.2.2, ?_⟩
  · simp only [List.mem_cons, List.not_mem_nil, or_false] at hx; omega
  · have hB : BF e M'' := f.2.2.2.2.2.sm (fun x hx => l x (by simp only [List.mem_cons, List.not_mem_nil, or_false] at hx; omega))
    obtain ⟨N, a1, a2⟩ := hB (by have := c.n; omega)
    exact BFr_at a1 a2
/-- tree, next -/
theorem q_tree {M M' M'' : Mm} {e d : Nat} {z z' : Int} (h : Cpl M e d) (a : (M e 7 = 0 ∧ z = -1 ∧ M' = M) ∨ (M e 7 ≠ 0 ∧ Frs M M' e ∧ z = M' 46 1152)) (b : (M' 66 24 = 0 ∧ z' = -1 ∧ M'' = M') ∨ (M' 66 24 ≠ 0 ∧ Tfs M' M'' ∧ z' = M'' 66 39)) : z = z' ∧ Cpl M'' e d := by
  have n := h.n
  rcases a with ⟨a1, a2, a3⟩ | ⟨a1, a2, a3⟩
  · subst a3
    rcases b with ⟨b1, b2, b3⟩ | ⟨b1, b2, b3⟩
    · subst b3; exact ⟨by omega, h⟩
    · omega
  · have e66 : M' 66 = M 66 := a2.1 66 (by decide)
    rw [e66] at b
    rcases b with ⟨b1, b2, b3⟩ | ⟨b1, b2, b3⟩
    · omega
    · obtain ⟨c1, c2, c3⟩ := h.both (by omega) a2 b2
      exact ⟨by rw [a3, b3, ← b2.lo 46 (by decide)]; exact (c2.tree c3).1, c1⟩
theorem q_next {M M' M'' : Mm} {e d : Nat} {z z' : Int} (h : Cpl M e d) (a : (M e 7 = 0 ∧ z = -1 ∧ M' = M) ∨ (M e 7 ≠ 0 ∧ Frs M M' e ∧ z = if M' 47 1152 < 268435456 then M' 47 1152 else -1)) (b : (M' 66 24 = 0 ∧ z' = -1 ∧ M'' = M') ∨ (M' 66 24 ≠ 0 ∧ Tfs M' M'' ∧ z' = if M'' 66 40 < 1000000 then M'' 66 40 else -1)) : z = z' ∧ Cpl M'' e d := by
  have n := h.n
  rcases a with ⟨a1, a2, a3⟩ | ⟨a1, a2, a3⟩
  · subst a3
    rcases b with ⟨b1, b2, b3⟩ | ⟨b1, b2, b3⟩
    · subst b3; exact ⟨by omega, h⟩
    · omega
  · have e66 : M' 66 = M 66 := a2.1 66 (by decide)
    rw [e66] at b
    rcases b with ⟨b1, b2, b3⟩ | ⟨b1, b2, b3⟩
    · omega
    · obtain ⟨c1, c2, c3⟩ := h.both (by omega) a2 b2
      exact ⟨by rw [a3, b3, ← b2.lo 47 (by decide)]; exact (c2.tree c3).2.1, c1⟩
