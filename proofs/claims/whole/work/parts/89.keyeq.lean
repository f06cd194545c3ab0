/-! KEYS: class and reference count the same -/
theorem KFr_at {e : Nat} {N M : Mm} (hN : ∀ a, a ∈ kL e → N a = M a) (h : KFr e N) : KFr e M := by
  have r3 : N 3 = M 3 := hN 3 (by simp)
  have r4 : N 4 = M 4 := hN 4 (by simp)
  have r5 : N 5 = M 5 := hN 5 (by simp)
  have r7 : N 7 = M 7 := hN 7 (by simp)
  have r8 : N 8 = M 8 := hN 8 (by simp)
  have r9 : N 9 = M 9 := hN 9 (by simp)
  have r10 : N 10 = M 10 := hN 10 (by simp)
  have r11 : N 11 = M 11 := hN 11 (by simp)
  have r12 : N 12 = M 12 := hN 12 (by simp)
  have r13 : N 13 = M 13 := hN 13 (by simp)
  have re : N e = M e := hN e (by simp)
  have re1 : N (e + 1) = M (e + 1) := hN (e + 1) (by simp)
  have re2 : N (e + 2) = M (e + 2) := hN (e + 2) (by simp)
  have re3 : N (e + 3) = M (e + 3) := hN (e + 3) (by simp)
  have re4 : N (e + 4) = M (e + 4) := hN (e + 4) (by simp)
  have re5 : N (e + 5) = M (e + 5) := hN (e + 5) (by simp)
  have r31 : N 31 = M 31 := hN 31 (by simp)
  have r32 : N 32 = M 32 := hN 32 (by simp)
  have r33 : N 33 = M 33 := hN 33 (by simp)
  have r34 : N 34 = M 34 := hN 34 (by simp)
  have r35 : N 35 = M 35 := hN 35 (by simp)
  have r36 : N 36 = M 36 := hN 36 (by simp)
  have r37 : N 37 = M 37 := hN 37 (by simp)
  have r38 : N 38 = M 38 := hN 38 (by simp)
  have r39 : N 39 = M 39 := hN 39 (by simp)
  obtain ⟨⟨g1, _, g3, g4⟩, hk, hc, hd, h5⟩ := h
  refine ⟨⟨KT_sm g1 r31.symm r36.symm r37.symm r38.symm r39.symm re1.symm, Sm.rf _ _, ?_, ?_⟩, ?_, ?_, ?_, ?_⟩
  · unfold kb PG Hk isStop isSg wS wL eLost eFit isK wAt at *
    simp only [r3, r4, r5, r7, r8, r9, r10, r11, r12, r13, re, re1, re2, re3, re4, re5, r31, r32, r33, r34, r35, r36, r37, r38, r39] at g3
    exact g3
  · unfold kb PG Hk isStop isSg wS wL eLost eFit isK wAt at *
    simp only [r3, r4, r5, r7, r8, r9, r10, r11, r12, r13, re, re1, re2, re3, re4, re5, r31, r32, r33, r34, r35, r36, r37, r38, r39] at g4
    exact g4
  · unfold Fd7 wS wL wAt at *
    simp only [r3, r4, r5, r7, r8, r9, r10, r11, r12, r13, re, re1, re2, re3, re4, re5, r31, r32, r33, r34, r35, r36, r37, r38, r39] at hk
    exact hk
  · unfold shL at *
    simp only [r3, r4, r5, r7, r8, r9, r10, r11, r12, r13, re, re1, re2, re3, re4, re5, r31, r32, r33, r34, r35, r36, r37, r38, r39] at hc
    exact hc
  · unfold shL at *
    simp only [r3, r4, r5, r7, r8, r9, r10, r11, r12, r13, re, re1, re2, re3, re4, re5, r31, r32, r33, r34, r35, r36, r37, r38, r39] at hd
    exact hd
  · simp only [r3, r4, r5, r7, r8, r9, r10, r11, r12, r13, re, re1, re2, re3, re4, re5, r31, r32, r33, r34, r35, r36, r37, r38, r39] at h5
    exact h5
theorem BFr_at {e : Nat} {N M : Mm} (hN : ∀ a, a ∈ bL e → N a = M a) (h : BFr e N) : BFr e M := by
  have ew : wC N e = wC M e := wC_sm (hN 15 (by simp)) (hN 34 (by simp)) (hN 41 (by simp)) (hN (e + 6) (by simp)) (hN 32 (by simp)) (hN e (by simp))
  obtain ⟨b1, b2, b3, b4, b5⟩ := h
  unfold Cg at b2
  rw [ew] at b1 b2
  rw [hN e (by simp), hN 46 (by simp), hN 47 (by simp), hN 48 (by simp), hN 49 (by simp)] at b2
  rw [hN e (by simp), hN 51 (by simp), hN 48 (by simp), hN 49 (by simp)] at b3
  rw [hN e (by simp), hN 51 (by simp), hN 50 (by simp)] at b4
  rw [hN e (by simp), hN 51 (by simp), hN 52 (by simp), hN 53 (by simp), hN 54 (by simp)] at b5
  exact ⟨b1, b2, b3, b4, b5⟩
theorem TFr_at {N M : Mm} (hN : ∀ a, a ∈ tfL → N a = M a) (h66 : ∀ k : Int, k ∈ tfF → N 66 k = M 66 k) (h : TFr N) : TFr M := by
  obtain ⟨t1, t2, x, x1, x2, x3, x4⟩ := h
  have n24 : N 66 24 = M 66 24 := h66 24 (by decide)
  have hT : SmT M N := ⟨fun a ha => hN a (by simp only [List.mem_cons, List.not_mem_nil, or_false] at ha ⊢; omega), fun k hk => h66 k (by simp only [List.mem_cons, List.not_mem_nil, or_false] at hk ⊢; omega)⟩
  have ew : w0 N = w0 M := w0_sm (hN 90 (by decide)) (hN 91 (by decide)) n24
  rw [n24] at t1 t2 x1 x3 x4
  rw [ew] at x1 x2 x4
  rw [h66 39 (by decide)] at x2
  rw [h66 40 (by decide)] at x4
  rw [hN 95 (by decide)] at x3
  refine ⟨fun i a b => ?_, fun h a b => ?_, x, x1, x2, x3, x4⟩
  · have := t1 i a b
    rw [KR_T hT, KR_A (A := M) (fun a ha => hN a (by simp only [List.mem_cons, List.not_mem_nil, or_false] at ha ⊢; omega))] at this
    exact this
  · obtain ⟨g1, g2⟩ := t2 h a b
    rw [hN 91 (by decide)] at g1
    rw [hN 90 (by decide)] at g2
    refine ⟨g1.trans ?_, fun d d0 d1 => (g2 d d0 d1).trans ?_⟩
    · unfold rP; rw [hN 89 (by decide), hN 76 (by decide)]
    · unfold prc; rw [pR_sm (hN 76 (by decide)) (hN 84 (by decide)) (hN 86 (by decide)) (hN 87 (by decide)) (hN 88 (by decide)) (hN 89 (by decide)) (hN 77 (by decide))]
/-- tables that match: class's at wt, words of at most L; reference's text x, sizes w, count c -/
def cT (M : Mm) (wt : Nat) (L : Int) (x w : Nat) (c : Int) : Prop := M wt 5 = M 66 c ∧ ∀ i, 0 ≤ i → i < M 66 c → M (wt + 2) i = M w i ∧ ∀ k, 0 ≤ k → k < M w i → M (wt + 1) (i * L + k) = M x (16 * i + k)
def cEs (M : Mm) (e : Nat) : Prop := M e 7 = M 66 24 ∧ (∀ s, 0 ≤ s → s < M 66 24 → M (e + 5) s = M 79 s ∧ ∀ k, 0 ≤ k → k < M 79 s → wL M e s k = M 78 (40 * s + k) ∧ ∀ j, 0 ≤ j → j < M 78 (40 * s + k) → M (e + 1) (wS M e s k + j) = M 77 (16 * (40 * s + k) + j)) ∧ (∀ i, 0 ≤ i → i < M 66 24 → M (e + 6) i = M 84 i ∧ M 41 i = M 85 i) ∧ (1 ≤ M 66 24 → M 66 25 = M (e + 6) (M 66 24 - 1) + 1)
def cTs (M : Mm) : Prop := cT M 3 16 69 70 6 ∧ cT M 7 16 71 72 10 ∧ cT M 11 6 74 75 13 ∧ ∀ i, 0 ≤ i → i < M 66 10 → M 10 i = M 73 i
theorem stop_eq {M : Mm} {e : Nat} (hT : cTs M) (hE : cEs M e) {s k : Int} (s0 : 0 ≤ s) (s1 : s < M 66 24) (k0 : 0 ≤ k) (k1 : k < M 79 s) : isStop M (e + 1) (wS M e s k) (wL M e s k) ↔ isStopR M (40 * s + k) := by
  obtain ⟨⟨c1, c2⟩, _⟩ := hT
  obtain ⟨hl, hb⟩ := (hE.2.1 s s0 s1).2 k k0 k1
  unfold isStop isStopR wAt lk
  constructor
  · rintro ⟨i, i0, i1, i2, i3⟩
    rw [c1] at i1
    obtain ⟨d1, d2⟩ := c2 i i0 i1
    refine ⟨i, i0, i1, by rw [← hl, ← i2]; exact d1.symm, fun j j0 j1 => ?_⟩
    have e5 : M 5 i = M 70 i := d1
    rw [← d2 j j0 j1, ← hb j j0 (by rw [← hl, ← i2, e5]; exact j1)]
    exact i3 j j0 (by rw [e5]; exact j1)
  · rintro ⟨i, i0, i1, i2, i3⟩
    obtain ⟨d1, d2⟩ := c2 i i0 i1
    have e5 : M 5 i = M 70 i := d1
    refine ⟨i, i0, by rw [c1]; exact i1, by rw [e5, hl]; exact i2, fun j j0 j1 => ?_⟩
    rw [e5] at j1
    have := i3 j j0 j1
    rw [← d2 j j0 j1, ← hb j j0 (by rw [← i2]; exact j1)] at this
    exact this
theorem sign_eq {M : Mm} {e : Nat} (hT : cTs M) (hE : cEs M e) {s z z' : Int} (s0 : 0 ≤ s) (s1 : s < M 66 24) (k1 : 0 < M 79 s) (h : Fd7 M (e + 1) (wS M e s 0) (wL M e s 0) z) (h' : FdR M s z') : z = z' := by
  obtain ⟨_, ⟨c1, c2⟩, _⟩ := hT
  obtain ⟨hl, hb⟩ := (hE.2.1 s s0 s1).2 0 (by omega) k1
  have key : ∀ i, 0 ≤ i → i < M 66 10 → ((M 9 i = wL M e s 0 ∧ wAt M 8 9 16 i (e + 1) (wS M e s 0)) ↔ (M 72 i = M 78 (40 * s) ∧ lk M 71 (16 * i) 77 (640 * s) (M 72 i))) := by
    intro i i0 i1
    obtain ⟨d1, d2⟩ := c2 i i0 i1
    have e9 : M 9 i = M 72 i := d1
    rw [Int.add_zero] at hl hb
    unfold wAt lk
    rw [e9, hl]
    constructor
    · rintro ⟨g1, g2⟩
      refine ⟨g1, fun j j0 j1 => ?_⟩
      have := g2 j j0 j1
      have h2 := d2 j j0 j1
      rw [← h2, show 640 * s + j = 16 * (40 * s) + j by omega, ← hb j j0 (by omega)]
      exact this
    · rintro ⟨g1, g2⟩
      refine ⟨g1, fun j j0 j1 => ?_⟩
      have := g2 j j0 j1
      have h2 := d2 j j0 j1
      rw [← h2, show 640 * s + j = 16 * (40 * s) + j by omega, ← hb j j0 (by omega)] at this
      exact this
  unfold Fd7 at h
  unfold FdR at h'
  rw [c1] at h
  rcases h with ⟨a1, a2⟩ | ⟨a1, a2, a3, a4⟩ <;> rcases h' with ⟨b1, b2⟩ | ⟨b1, b2, b3, b4⟩
  · omega
  · exact absurd ((key z' b1 b2).mpr b3) (a2 z' b1 b2)
  · exact absurd ((key z a1 a2).mp a3) (b2 z a1 a2)
  · by_cases q1 : z < z'
    · exact absurd ((key z a1 a2).mp a3) (b4 z a1 q1)
    · by_cases q2 : z' < z
      · exact absurd ((key z' b1 b2).mpr b3) (a4 z' b1 q2)
      · omega
theorem fold_eq {M : Mm} {e : Nat} (hT : cTs M) (hE : cEs M e) (hR : tR M 13 75 10) {s k lost n : Int} (s0 : 0 ≤ s) (s1 : s < M 66 24) (k0 : 0 ≤ k) (k1 : k < M 79 s) (h : eLost M 12 13 6 (M 11 5) (e + 1) (wS M e s k) (wL M e s k) lost) (h' : foldR M (40 * s + k) n) : wL M e s k - lost = n := by
  obtain ⟨_, _, ⟨c1, c2⟩, _⟩ := hT
  obtain ⟨hl, hb⟩ := (hE.2.1 s s0 s1).2 k k0 k1
  have key : ∀ i, 0 ≤ i → i < M 66 13 → (eFit M 12 13 6 i (e + 1) (wS M e s k) (wL M e s k) ↔ eFitR M i (40 * s + k)) := by
    intro i i0 i1
    obtain ⟨d1, d2⟩ := c2 i i0 i1
    have hs := hR.2 i i0 i1
    have e13 : M 13 i = M 75 i := d1
    unfold eFit eFitR wAt lk
    rw [e13, hl]
    constructor
    · rintro ⟨g1, g2⟩
      refine ⟨g1, fun j j0 j1 => ?_⟩
      have := g2 j j0 j1
      rw [← d2 j j0 j1, show 16 * (40 * s + k) + M 78 (40 * s + k) - M 75 i + j = 16 * (40 * s + k) + (M 78 (40 * s + k) - M 75 i + j) by omega, ← hb (M 78 (40 * s + k) - M 75 i + j) (by omega) (by omega), show wS M e s k + (M 78 (40 * s + k) - M 75 i + j) = wS M e s k + (M 78 (40 * s + k) - M 75 i) + j by omega]
      exact this
    · rintro ⟨g1, g2⟩
      refine ⟨g1, fun j j0 j1 => ?_⟩
      have := g2 j j0 j1
      rw [← d2 j j0 j1, show 16 * (40 * s + k) + M 78 (40 * s + k) - M 75 i + j = 16 * (40 * s + k) + (M 78 (40 * s + k) - M 75 i + j) by omega, ← hb (M 78 (40 * s + k) - M 75 i + j) (by omega) (by omega), show wS M e s k + (M 78 (40 * s + k) - M 75 i + j) = wS M e s k + (M 78 (40 * s + k) - M 75 i) + j by omega] at this
      exact this
  obtain ⟨a1, a2, a3⟩ := h
  obtain ⟨b1, b2, b3⟩ := h'
  rw [c1] at a2 a3
  have l1 : lost ≤ M 78 (40 * s + k) - n := by
    rcases a2 with g | ⟨i, i0, i1, i2, i3⟩
    · omega
    · have := b3 i i0 i1 ((key i i0 i1).mp i3)
      have e13 : M 13 i = M 75 i := (c2 i i0 i1).1
      omega
  have l2 : M 78 (40 * s + k) - n ≤ lost := by
    clear a2
    rcases b2 with g | ⟨i, i0, i1, i2, i3⟩
    · omega
    · have := a3 i i0 i1 ((key i i0 i1).mpr i3)
      have e13 : M 13 i = M 75 i := (c2 i i0 i1).1
      omega
  clear a2 b2
  omega
