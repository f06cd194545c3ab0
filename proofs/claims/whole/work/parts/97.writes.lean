/-! CALLS that write: what both sides keep -/
theorem XI.go {M M' : Mm} {e d : Nat} (h : XI M e d) (hs : ∀ a, a ∈ [3, 5, 7, 9, 10, 11, 13, e, e + 2, e + 3, e + 4, e + 5, 40, 41, 55, 56, 57] → M' a = M a) (g0 : M' 0 6 = M 0 6 ∧ M' 0 7 = M 0 7) (g1 : 0 ≤ M' 1 1 ∧ M' 1 1 ≤ 3000) (g15 : ∀ i, 0 ≤ i → i < 4 → 0 ≤ M' 15 i ∧ M' 15 i ≤ 50) (g58 : 0 ≤ M' 58 7 ∧ M' 58 7 ≤ 10) (gK : M' 0 14 = 0 → KF e M') (gB : M' 0 14 = 0 → M' 0 15 = 0 → BF e M') : XI M' e d := by
  obtain ⟨h1, h2, h3, h4, h5, h6, ⟨h7, h8, h9⟩, h10, h11, h12⟩ := h
  refine ⟨h1, by rw [g0.1, g0.2]; exact h2, g1, ?_, by rw [hs 7 (by simp), hs 10 (by simp)]; exact h5, g15, ⟨?_, ?_, ?_⟩, g58, gK, gB⟩
  · unfold tW at *
    rw [hs 3 (by simp), hs (3 + 2) (by simp), hs 7 (by simp), hs (7 + 2) (by simp), hs 11 (by simp), hs (11 + 2) (by simp)]
    exact h4
  · unfold txOk at *
    rw [hs e (by simp), hs (e + 4) (by simp), hs (e + 5) (by simp), hs (e + 2) (by simp), hs (e + 3) (by simp)]
    exact h7
  · unfold plOk at *
    rw [hs e (by simp), hs 40 (by simp), hs 41 (by simp)]
    exact h8
  · unfold prOk at *
    rw [hs e (by simp), hs 55 (by simp), hs 56 (by simp), hs 57 (by simp)]
    exact h9
theorem RI.go {M M' : Mm} (h : RI M) (hs : ∀ a, a ∈ [70, 72, 73, 75, 78, 79, 85, 96, 97] → M' a = M a) (hf : ∀ k : Int, k ∈ [6, 10, 13, 24, 41, 52] → M' 66 k = M 66 k) (g1 : 0 ≤ M' 66 1 ∧ M' 66 1 ≤ 3000) (g76 : wgR M') (gT : M' 66 32 ≠ 0 → TF M') : RI M' := by
  obtain ⟨h1, h2, h3, h4, h5, h6, h7, h8⟩ := h
  refine ⟨g1, ?_, by rw [hf 10 (by simp), hs 73 (by simp)]; exact h3, g76, ?_, ?_, by rw [hf 52 (by simp)]; exact h7, gT⟩
  · unfold tR at *
    rw [hf 6 (by simp), hf 10 (by simp), hf 13 (by simp), hs 70 (by simp), hs 72 (by simp), hs 75 (by simp)]; exact h2
  · unfold eR at *
    rw [hf 24 (by simp), hs 79 (by simp), hs 78 (by simp), hs 85 (by simp)]; exact h5
  · unfold prR at *
    rw [hf 24 (by simp), hf 41 (by simp), hs 96 (by simp), hs 97 (by simp)]; exact h6
theorem Cpl.mk {M M' : Mm} {e d : Nat} (h : Cpl M e d) (hX : XI M' e d) (hR : RI M') (hs : ∀ a, a ∈ [3, 4, 5, 7, 8, 9, 10, 11, 12, 13, 41, e, e + 1, e + 2, e + 3, e + 4, e + 5, e + 6, 69, 70, 71, 72, 73, 74, 75, 77, 78, 79, 84, 85] → M' a = M a) (hf : ∀ k : Int, k ∈ [6, 10, 13, 24, 25] → M' 66 k = M 66 k) (c1 : cTp M') (c2 : ∀ i, 0 ≤ i → i < 4 → M' 15 i = M' 76 i) (c3 : cPr M') (c4 : cTo M') (c5 : M' 16 0 = M' 66 26 ∧ M' 16 1 = M' 66 27) : Cpl M' e d := by
  obtain ⟨_, _, k1, ⟨k2, k3, k4, k5⟩, k6, k7, k8, k9, k10⟩ := h
  refine ⟨hX, hR, c1, ⟨k2.cg (hs _ (by simp)) (hs _ (by simp)) (hs _ (by simp)) (hs _ (by simp)) (hs _ (by simp)) (hf _ (by simp)), k3.cg (hs _ (by simp)) (hs _ (by simp)) (hs _ (by simp)) (hs _ (by simp)) (hs _ (by simp)) (hf _ (by simp)), k4.cg (hs _ (by simp)) (hs _ (by simp)) (hs _ (by simp)) (hs _ (by simp)) (hs _ (by simp)) (hf _ (by simp)), ?_⟩, c2, ?_, c3, c4, c5⟩
  · rw [hs 10 (by simp), hs 73 (by simp), hf 10 (by simp)]; exact k5
  · exact k7.cg (fun a ha => hs a (by simp only [List.mem_cons, List.not_mem_nil, or_false] at *; omega)) (hf _ (by simp)) (hf _ (by simp))
theorem q_end {M M' M'' : Mm} {e d : Nat} {n z z' : Int} (h : Cpl M e d) (a : ((n < 0 ∨ M 1 1 < n) ∧ z = -1 ∧ M' = M) ∨ (0 ≤ n ∧ n ≤ M 1 1 ∧ z = n ∧ M' = mput M 1 1 n)) (b : ((n < 0 ∨ M' 66 1 < n) ∧ z' = -1 ∧ M'' = M') ∨ (0 ≤ n ∧ n ≤ M' 66 1 ∧ z' = n ∧ M'' = mput M' 66 1 n)) : z = z' ∧ Cpl M'' e d := by
  have k := h.2.2.1
  have e1 := k.1
  have he := h.he
  rcases a with ⟨a1, a2, a3⟩ | ⟨a1, a2, a3, a4⟩
  · subst a3
    rcases b with ⟨b1, b2, b3⟩ | ⟨b1, b2, b3, b4⟩
    · subst b3; exact ⟨by rw [a2, b2], h⟩
    · omega
  · have e66 : M' 66 = M 66 := by rw [a4, mput_ne (by decide)]
    rw [e66] at b
    rcases b with ⟨b1, b2, b3⟩ | ⟨b1, b2, b3, b4⟩
    · omega
    · refine ⟨by rw [a3, b3], ?_⟩
      have hX := h.1
      have hR := h.2.1
      have r : ∀ q : Nat, q ≠ 1 → q ≠ 66 → M'' q = M q := fun q x y => by rw [b4, mput_ne y, a4, mput_ne x]
      have f : ∀ j : Int, j ≠ 1 → M'' 66 j = M 66 j := fun j x => by rw [b4, mput_nk x, e66]
      have f1 : M'' 66 1 = n := by rw [b4, mput_eq]
      have g1 : M'' 1 1 = n := by rw [b4, mput_ne (by decide), a4, mput_eq]
      have hb := hX.2.2.1
      refine h.mk (hX.go (fun q hq => r q ?_ ?_) (by rw [r 0 (by decide) (by decide)]; exact ⟨rfl, rfl⟩) (by omega) (by rw [r 15 (by decide) (by decide)]; exact hX.2.2.2.2.2.1) (by rw [r 58 (by decide) (by decide)]; exact hX.2.2.2.2.2.2.2.1) (fun x => ?_) (fun x y => ?_)) (hR.go (fun q hq => r q ?_ ?_) (fun j hj => f j ?_) (by omega) (by unfold wgR; rw [r 76 (by decide) (by decide)]; exact hR.2.2.2.1) (fun x => ?_)) (fun q hq => r q ?_ ?_) (fun j hj => f j ?_) ⟨by omega, fun p x y => ?_⟩ (by rw [r 15 (by decide) (by decide), r 76 (by decide) (by decide)]; exact h.2.2.2.2.1) ?_ ?_ ?_
      · simp only [List.mem_cons, List.not_mem_nil, or_false] at hq; omega
      · simp only [List.mem_cons, List.not_mem_nil, or_false] at hq; omega
      · rw [r 0 (by decide) (by decide)] at x
        exact (hX.2.2.2.2.2.2.2.2.1 x).sm (fun q hq => r q (by simp only [List.mem_cons, List.not_mem_nil, or_false] at hq; omega) (by simp only [List.mem_cons, List.not_mem_nil, or_false] at hq; omega))
      · rw [r 0 (by decide) (by decide)] at x y
        exact (hX.2.2.2.2.2.2.2.2.2 x y).sm (fun q hq => r q (by simp only [List.mem_cons, List.not_mem_nil, or_false] at hq; omega) (by simp only [List.mem_cons, List.not_mem_nil, or_false] at hq; omega))
      · simp only [List.mem_cons, List.not_mem_nil, or_false] at hq; omega
      · simp only [List.mem_cons, List.not_mem_nil, or_false] at hq; omega
      · simp only [List.mem_cons, List.not_mem_nil, or_false] at hj; omega
      · rw [f 32 (by decide)] at x
        exact (hR.2.2.2.2.2.2.2 x).sm (fun q hq => r q (by simp only [List.mem_cons, List.not_mem_nil, or_false] at hq; omega) (by simp only [List.mem_cons, List.not_mem_nil, or_false] at hq; omega)) (fun j hj => f j (by simp only [List.mem_cons, List.not_mem_nil, or_false] at hj; omega))
      · simp only [List.mem_cons, List.not_mem_nil, or_false] at hq; omega
      · simp only [List.mem_cons, List.not_mem_nil, or_false] at hq; omega
      · simp only [List.mem_cons, List.not_mem_nil, or_false] at hj; omega
      · rw [r 2 (by decide) (by decide), r 67 (by decide) (by decide)]
        exact k.2 p x (by omega)
      · have q := h.2.2.2.2.2.2.1
        unfold cPr at *
        rw [r 55 (by decide) (by decide), r 56 (by decide) (by decide), r 57 (by decide) (by decide), r 96 (by decide) (by decide), r 97 (by decide) (by decide), f 41 (by decide)]
        exact q
      · have q := h.2.2.2.2.2.2.2.1
        unfold cTo at *
        rw [r 58 (by decide) (by decide), r 65 (by decide) (by decide), r 104 (by decide) (by decide), f 52 (by decide)]
        exact q
      · rw [r 16 (by decide) (by decide), f 26 (by decide), f 27 (by decide)]
        exact h.2.2.2.2.2.2.2.2
theorem q_weight {M M' M'' : Mm} {e d : Nat} {i v z z' : Int} (h : Cpl M e d) (a : ((i < 0 ∨ 3 < i ∨ v < 0 ∨ 50 < v) ∧ z = -2 ∧ M' = M) ∨ ((0 ≤ i ∧ i ≤ 3 ∧ 0 ≤ v ∧ v ≤ 50) ∧ z = M 15 i ∧ M' = mput (mput M 15 i v) 0 15 1)) (b : ((i < 0 ∨ 3 < i ∨ v < 0 ∨ 50 < v) ∧ z' = -2 ∧ M'' = M') ∨ ((0 ≤ i ∧ i ≤ 3 ∧ 0 ≤ v ∧ v ≤ 50) ∧ z' = M' 76 i ∧ M'' = mput (mput M' 76 i v) 66 32 0)) : z = z' ∧ Cpl M'' e d := by
  have k := h.2.2.2.2.1
  have he := h.he
  rcases a with ⟨a1, a2, a3⟩ | ⟨a1, a2, a3⟩
  · subst a3
    rcases b with ⟨b1, b2, b3⟩ | ⟨b1, b2, b3⟩
    · subst b3; exact ⟨by rw [a2, b2], h⟩
    · omega
  · rcases b with ⟨b1, b2, b3⟩ | ⟨b1, b2, b3⟩
    · omega
    · have e76 : M' 76 = M 76 := by rw [a3, mput_ne (by decide), mput_ne (by decide)]
      refine ⟨by rw [a2, b2, e76]; exact k i a1.1 (by omega), ?_⟩
      have hX := h.1
      have hR := h.2.1
      have r : ∀ q : Nat, q ≠ 0 → q ≠ 15 → q ≠ 66 → q ≠ 76 → M'' q = M q := fun q w x y t => by rw [b3, mput_ne y, mput_ne t, a3, mput_ne w, mput_ne x]
      have f : ∀ j : Int, j ≠ 32 → M'' 66 j = M 66 j := fun j x => by rw [b3, mput_nk x, mput_ne (by decide), a3, mput_ne (by decide), mput_ne (by decide)]
      have f1 : M'' 66 32 = 0 := by rw [b3, mput_eq]
      have f0 : ∀ j : Int, j ≠ 15 → M'' 0 j = M 0 j := fun j x => by rw [b3, mput_ne (by decide), mput_ne (by decide), a3, mput_nk x, mput_ne (by decide)]
      have f15 : M'' 0 15 = 1 := by rw [b3, mput_ne (by decide), mput_ne (by decide), a3, mput_eq]
      have x15 : ∀ j, M'' 15 j = if j = i then v else M 15 j := fun j => by rw [b3, mput_ne (by decide), mput_ne (by decide), a3, mput_ne (by decide), mput_at]
      have x76 : ∀ j, M'' 76 j = if j = i then v else M 76 j := fun j => by rw [b3, mput_ne (by decide), mput_at, e76]
      refine h.mk (hX.go (fun q hq => r q ?_ ?_ ?_ ?_) ⟨f0 6 (by decide), f0 7 (by decide)⟩ (by rw [r 1 (by decide) (by decide) (by decide) (by decide)]; exact hX.2.2.1) (fun j j0 j1 => ?_) (by rw [r 58 (by decide) (by decide) (by decide) (by decide)]; exact hX.2.2.2.2.2.2.2.1) (fun x => ?_) (fun x y => absurd (f15.symm.trans y) (by decide))) (hR.go (fun q hq => r q ?_ ?_ ?_ ?_) (fun j hj => f j ?_) (by rw [f 1 (by decide)]; exact hR.1) (fun j j0 j1 => ?_) (fun x => absurd f1 x)) (fun q hq => r q ?_ ?_ ?_ ?_) (fun j hj => f j ?_) ?_ (fun j j0 j1 => ?_) ?_ ?_ ?_
      · simp only [List.mem_cons, List.not_mem_nil, or_false] at hq; omega
      · simp only [List.mem_cons, List.not_mem_nil, or_false] at hq; omega
      · simp only [List.mem_cons, List.not_mem_nil, or_false] at hq; omega
      · simp only [List.mem_cons, List.not_mem_nil, or_false] at hq; omega
      · rw [x15 j]
        have := hX.2.2.2.2.2.1 j j0 j1
        split <;> omega
      · rw [f0 14 (by decide)] at x
        refine (hX.2.2.2.2.2.2.2.2.1 x).sm (fun q hq => r q ?_ ?_ ?_ ?_) <;> (simp only [List.mem_cons, List.not_mem_nil, or_false] at hq; omega)
      · simp only [List.mem_cons, List.not_mem_nil, or_false] at hq; omega
      · simp only [List.mem_cons, List.not_mem_nil, or_false] at hq; omega
      · simp only [List.mem_cons, List.not_mem_nil, or_false] at hq; omega
      · simp only [List.mem_cons, List.not_mem_nil, or_false] at hq; omega
      · simp only [List.mem_cons, List.not_mem_nil, or_false] at hj; omega
      · rw [x76 j]
        have := hR.2.2.2.1 j j0 j1
        split <;> omega
      · simp only [List.mem_cons, List.not_mem_nil, or_false] at hq; omega
      · simp only [List.mem_cons, List.not_mem_nil, or_false] at hq; omega
      · simp only [List.mem_cons, List.not_mem_nil, or_false] at hq; omega
      · simp only [List.mem_cons, List.not_mem_nil, or_false] at hq; omega
      · simp only [List.mem_cons, List.not_mem_nil, or_false] at hj; omega
      · have q := h.2.2.1
        unfold cTp at *
        rw [r 1 (by decide) (by decide) (by decide) (by decide), r 2 (by decide) (by decide) (by decide) (by decide), r 67 (by decide) (by decide) (by decide) (by decide), f 1 (by decide)]
        exact q
      · rw [x15 j, x76 j, k j j0 j1]
      · have q := h.2.2.2.2.2.2.1
        unfold cPr at *
        rw [r 55 (by decide) (by decide) (by decide) (by decide), r 56 (by decide) (by decide) (by decide) (by decide), r 57 (by decide) (by decide) (by decide) (by decide), r 96 (by decide) (by decide) (by decide) (by decide), r 97 (by decide) (by decide) (by decide) (by decide), f 41 (by decide)]
        exact q
      · have q := h.2.2.2.2.2.2.2.1
        unfold cTo at *
        rw [r 58 (by decide) (by decide) (by decide) (by decide), r 65 (by decide) (by decide) (by decide) (by decide), r 104 (by decide) (by decide) (by decide) (by decide), f 52 (by decide)]
        exact q
      · rw [r 16 (by decide) (by decide) (by decide) (by decide), f 26 (by decide), f 27 (by decide)]
        exact h.2.2.2.2.2.2.2.2
