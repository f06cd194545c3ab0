/-! READ on both sides -/
theorem plR_o {M : Mm} {n j : Int} {q : Nat} (h1 : q ≠ 40) (h2 : q ≠ 41) : plReset M n j q = M q := by simp [plReset, h1, h2]
theorem rAll_v {M : Mm} {e d : Nat} : (∀ q : Nat, q ∉ [0, 1, 40, 41, 55] → rAll M e d q = rScan M d q) ∧ rAll M e d 0 6 = (d : Int) ∧ rAll M e d 0 7 = (e : Int) ∧ rAll M e d 0 14 = 1 ∧ rAll M e d 1 1 = 0 ∧ rAll M e d 40 2 = rScan M d d 7 ∧ (∀ k, 0 ≤ k → k < rScan M d d 7 → rAll M e d 41 k = k) ∧ rAll M e d 55 2 = 0 := by
  unfold rAll
  refine ⟨fun q hq => ?_, ?_, ?_, ?_, ?_, ?_, fun k k0 k1 => ?_, ?_⟩
  · simp only [List.mem_cons, List.not_mem_nil, or_false] at hq
    rw [mput_ne (by omega), mput_ne (by omega), plR_o (by omega) (by omega), mput_ne (by omega), mput_ne (by omega), mput_ne (by omega)]
  · rw [mput_nk (by decide), mput_ne (by decide), plR_o (by decide) (by decide), mput_nk (by decide), mput_eq]
  · rw [mput_nk (by decide), mput_ne (by decide), plR_o (by decide) (by decide), mput_eq]
  · rw [mput_eq]
  · rw [mput_ne (by decide), mput_ne (by decide), plR_o (by decide) (by decide), mput_ne (by decide), mput_ne (by decide), mput_eq]
  · rw [mput_ne (by decide), mput_ne (by decide)]
    simp [plReset]
  · rw [mput_ne (by decide), mput_ne (by decide)]
    simp [plReset, k0, k1]
  · rw [mput_ne (by decide), mput_eq]
theorem Cpl.rdF {M M'' : Mm} {e d : Nat} (h : Cpl M e d) (r : ∀ q : Nat, q ∉ [1, 16, d, d + 1, d + 2, d + 3, d + 4, d + 5, d + 6, 66, 80, 81, 82, 83] → M'' q = M q) (f : ∀ t : Int, t ∉ [1, 26, 27] → M'' 66 t = M 66 t) (s1 : M'' 1 1 = 0) (s2 : M'' 66 1 = 0) (k16 : M'' 16 0 = M'' 66 26 ∧ M'' 16 1 = M'' 66 27) : Cpl M'' e d := by
  have hX := h.1
  have hR := h.2.1
  have hed := hX.1
  exact ⟨⟨hX.1, ⟨by rw [(r 0 (by simp only [List.mem_cons, List.not_mem_nil, or_false]; omega))]; exact hX.2.1.1, by rw [(r 0 (by simp only [List.mem_cons, List.not_mem_nil, or_false]; omega))]; exact hX.2.1.2⟩, by omega, ⟨hX.2.2.2.1.1.cg (r 3 (by simp only [List.mem_cons, List.not_mem_nil, or_false]; omega)) (r 5 (by simp only [List.mem_cons, List.not_mem_nil, or_false]; omega)), hX.2.2.2.1.2.1.cg (r 7 (by simp only [List.mem_cons, List.not_mem_nil, or_false]; omega)) (r 9 (by simp only [List.mem_cons, List.not_mem_nil, or_false]; omega)), hX.2.2.2.1.2.2.cg (r 11 (by simp only [List.mem_cons, List.not_mem_nil, or_false]; omega)) (r 13 (by simp only [List.mem_cons, List.not_mem_nil, or_false]; omega))⟩, by rw [(r 7 (by simp only [List.mem_cons, List.not_mem_nil, or_false]; omega)), (r 10 (by simp only [List.mem_cons, List.not_mem_nil, or_false]; omega))]; exact hX.2.2.2.2.1, by rw [(r 15 (by simp only [List.mem_cons, List.not_mem_nil, or_false]; omega))]; exact hX.2.2.2.2.2.1, ⟨hX.2.2.2.2.2.2.1.1.cg (r e (by simp only [List.mem_cons, List.not_mem_nil, or_false]; omega)) (r (e + 2) (by simp only [List.mem_cons, List.not_mem_nil, or_false]; omega)) (r (e + 3) (by simp only [List.mem_cons, List.not_mem_nil, or_false]; omega)) (r (e + 4) (by simp only [List.mem_cons, List.not_mem_nil, or_false]; omega)) (r (e + 5) (by simp only [List.mem_cons, List.not_mem_nil, or_false]; omega)), plOk_cg hX.2.2.2.2.2.2.1.2.1 (r e (by simp only [List.mem_cons, List.not_mem_nil, or_false]; omega)) (r 40 (by simp only [List.mem_cons, List.not_mem_nil, or_false]; omega)) (r 41 (by simp only [List.mem_cons, List.not_mem_nil, or_false]; omega)), prOk_cg hX.2.2.2.2.2.2.1.2.2 (r e (by simp only [List.mem_cons, List.not_mem_nil, or_false]; omega)) (r 55 (by simp only [List.mem_cons, List.not_mem_nil, or_false]; omega)) (r 56 (by simp only [List.mem_cons, List.not_mem_nil, or_false]; omega)) (r 57 (by simp only [List.mem_cons, List.not_mem_nil, or_false]; omega))⟩, by rw [(r 58 (by simp only [List.mem_cons, List.not_mem_nil, or_false]; omega))]; exact hX.2.2.2.2.2.2.2.1, fun x => (hX.kf (by rw [(r 0 (by simp only [List.mem_cons, List.not_mem_nil, or_false]; omega))] at x; exact x)).sm (fun q hq => r q (by simp only [List.mem_cons, List.not_mem_nil, or_false] at hq ⊢; omega)), fun x y => (hX.bf (by rw [(r 0 (by simp only [List.mem_cons, List.not_mem_nil, or_false]; omega))] at x; exact x) (by rw [(r 0 (by simp only [List.mem_cons, List.not_mem_nil, or_false]; omega))] at y; exact y)).sm (fun q hq => r q (by simp only [List.mem_cons, List.not_mem_nil, or_false] at hq ⊢; omega))⟩,
    ⟨by omega, ⟨hR.2.1.1.cg (f 6 (by decide)) (r 70 (by simp only [List.mem_cons, List.not_mem_nil, or_false]; omega)), hR.2.1.2.1.cg (f 10 (by decide)) (r 72 (by simp only [List.mem_cons, List.not_mem_nil, or_false]; omega)), hR.2.1.2.2.cg (f 13 (by decide)) (r 75 (by simp only [List.mem_cons, List.not_mem_nil, or_false]; omega))⟩, by rw [(f 10 (by decide)), (r 73 (by simp only [List.mem_cons, List.not_mem_nil, or_false]; omega))]; exact hR.2.2.1, by unfold wgR; rw [(r 76 (by simp only [List.mem_cons, List.not_mem_nil, or_false]; omega))]; exact hR.2.2.2.1, hR.2.2.2.2.1.cg (f 24 (by decide)) (r 78 (by simp only [List.mem_cons, List.not_mem_nil, or_false]; omega)) (r 79 (by simp only [List.mem_cons, List.not_mem_nil, or_false]; omega)) (r 85 (by simp only [List.mem_cons, List.not_mem_nil, or_false]; omega)), hR.2.2.2.2.2.1.cg (f 24 (by decide)) (f 41 (by decide)) (r 96 (by simp only [List.mem_cons, List.not_mem_nil, or_false]; omega)) (r 97 (by simp only [List.mem_cons, List.not_mem_nil, or_false]; omega)), by rw [(f 52 (by decide))]; exact hR.2.2.2.2.2.2.1, fun x => (hR.tf (by rw [(f 32 (by decide))] at x; exact x)).sm (fun q hq => r q (by simp only [List.mem_cons, List.not_mem_nil, or_false] at hq ⊢; omega)) (fun j hj => f j (by simp only [List.mem_cons, List.not_mem_nil, or_false] at hj ⊢; omega))⟩,
    ⟨by rw [s1, s2], fun p p0 p1 => absurd p1 (by omega)⟩, ⟨h.2.2.2.1.1.cg (r 3 (by simp only [List.mem_cons, List.not_mem_nil, or_false]; omega)) (r 4 (by simp only [List.mem_cons, List.not_mem_nil, or_false]; omega)) (r 5 (by simp only [List.mem_cons, List.not_mem_nil, or_false]; omega)) (r 69 (by simp only [List.mem_cons, List.not_mem_nil, or_false]; omega)) (r 70 (by simp only [List.mem_cons, List.not_mem_nil, or_false]; omega)) (f 6 (by decide)), h.2.2.2.1.2.1.cg (r 7 (by simp only [List.mem_cons, List.not_mem_nil, or_false]; omega)) (r 8 (by simp only [List.mem_cons, List.not_mem_nil, or_false]; omega)) (r 9 (by simp only [List.mem_cons, List.not_mem_nil, or_false]; omega)) (r 71 (by simp only [List.mem_cons, List.not_mem_nil, or_false]; omega)) (r 72 (by simp only [List.mem_cons, List.not_mem_nil, or_false]; omega)) (f 10 (by decide)), h.2.2.2.1.2.2.1.cg (r 11 (by simp only [List.mem_cons, List.not_mem_nil, or_false]; omega)) (r 12 (by simp only [List.mem_cons, List.not_mem_nil, or_false]; omega)) (r 13 (by simp only [List.mem_cons, List.not_mem_nil, or_false]; omega)) (r 74 (by simp only [List.mem_cons, List.not_mem_nil, or_false]; omega)) (r 75 (by simp only [List.mem_cons, List.not_mem_nil, or_false]; omega)) (f 13 (by decide)), by rw [(r 10 (by simp only [List.mem_cons, List.not_mem_nil, or_false]; omega)), (r 73 (by simp only [List.mem_cons, List.not_mem_nil, or_false]; omega)), (f 10 (by decide))]; exact h.2.2.2.1.2.2.2⟩, by rw [(r 15 (by simp only [List.mem_cons, List.not_mem_nil, or_false]; omega)), (r 76 (by simp only [List.mem_cons, List.not_mem_nil, or_false]; omega))]; exact h.2.2.2.2.1, h.2.2.2.2.2.1.cg (fun q hq => r q (by simp only [List.mem_cons, List.not_mem_nil, or_false] at hq ⊢; omega)) (f 24 (by decide)) (f 25 (by decide)), h.2.2.2.2.2.2.1.cg (r 55 (by simp only [List.mem_cons, List.not_mem_nil, or_false]; omega)) (r 56 (by simp only [List.mem_cons, List.not_mem_nil, or_false]; omega)) (r 57 (by simp only [List.mem_cons, List.not_mem_nil, or_false]; omega)) (r 96 (by simp only [List.mem_cons, List.not_mem_nil, or_false]; omega)) (r 97 (by simp only [List.mem_cons, List.not_mem_nil, or_false]; omega)) (f 41 (by decide)), h.2.2.2.2.2.2.2.1.cg (by rw [(r 58 (by simp only [List.mem_cons, List.not_mem_nil, or_false]; omega))]) (r 65 (by simp only [List.mem_cons, List.not_mem_nil, or_false]; omega)) (r 104 (by simp only [List.mem_cons, List.not_mem_nil, or_false]; omega)) (f 52 (by decide)), k16⟩
theorem Cpl.rdS {M M'' S : Mm} {e d : Nat} {z n : Int} (h : Cpl M e d) (hn : n ≤ 3000) (tx : TX d S n) (z7 : z = S d 7) (z1 : 1 ≤ z) (r : ∀ q : Nat, q ∉ [0, 1, 16, 40, 41, 55, d, d + 1, d + 2, d + 3, d + 4, d + 5, d + 6, 66, 77, 78, 79, 80, 81, 82, 83, 84, 85] → M'' q = M q) (f : ∀ t : Int, t ∉ [1, 24, 25, 26, 27, 32, 41] → M'' 66 t = M 66 t) (sd : ∀ q : Nat, d ≤ q → q ≤ d + 6 → M'' q = S q) (g6 : M'' 0 6 = (d : Int)) (g7 : M'' 0 7 = (e : Int)) (g14 : M'' 0 14 = 1) (s1 : M'' 1 1 = 0) (g40 : M'' 40 2 = z) (g41 : ∀ k, 0 ≤ k → k < z → M'' 41 k = k) (g55 : M'' 55 2 = 0) (v : M'' 66 1 = 0 ∧ M'' 66 24 = z ∧ M'' 66 25 = S (d + 6) (z - 1) + 1 ∧ M'' 66 26 = 0 ∧ M'' 66 27 = -1 ∧ M'' 66 32 = 0 ∧ M'' 66 41 = 0) (dn : Dn d S M'' z) (k16 : M'' 16 0 = 0 ∧ M'' 16 1 = -1) : Cpl M'' d e := by
  have hX := h.1
  have hR := h.2.1
  have hed := hX.1
  obtain ⟨v1, v24, v25, v26, v27, v32, v41⟩ := v
  have d7 : M'' d 7 = z := by rw [sd d (by omega) (by omega), z7]
  have zr := tx.1
  have ok : txOk M'' d := (tx.ok hn).cg (sd d (by omega) (by omega)) (sd (d + 2) (by omega) (by omega)) (sd (d + 3) (by omega) (by omega)) (sd (d + 4) (by omega) (by omega)) (sd (d + 5) (by omega) (by omega))
  refine ⟨⟨by omega, ⟨g6, g7⟩, by omega, ⟨hX.2.2.2.1.1.cg (r 3 (by simp only [List.mem_cons, List.not_mem_nil, or_false]; omega)) (r 5 (by simp only [List.mem_cons, List.not_mem_nil, or_false]; omega)), hX.2.2.2.1.2.1.cg (r 7 (by simp only [List.mem_cons, List.not_mem_nil, or_false]; omega)) (r 9 (by simp only [List.mem_cons, List.not_mem_nil, or_false]; omega)), hX.2.2.2.1.2.2.cg (r 11 (by simp only [List.mem_cons, List.not_mem_nil, or_false]; omega)) (r 13 (by simp only [List.mem_cons, List.not_mem_nil, or_false]; omega))⟩, by rw [(r 7 (by simp only [List.mem_cons, List.not_mem_nil, or_false]; omega)), (r 10 (by simp only [List.mem_cons, List.not_mem_nil, or_false]; omega))]; exact hX.2.2.2.2.1, by rw [(r 15 (by simp only [List.mem_cons, List.not_mem_nil, or_false]; omega))]; exact hX.2.2.2.2.2.1, ⟨ok, ?_, ⟨by omega, fun p p0 p1 => absurd p1 (by omega)⟩⟩, by rw [(r 58 (by simp only [List.mem_cons, List.not_mem_nil, or_false]; omega))]; exact hX.2.2.2.2.2.2.2.1, fun x => absurd (g14.symm.trans x) (by decide), fun x y => absurd (g14.symm.trans x) (by decide)⟩,
    ⟨by omega, ⟨hR.2.1.1.cg (f 6 (by decide)) (r 70 (by simp only [List.mem_cons, List.not_mem_nil, or_false]; omega)), hR.2.1.2.1.cg (f 10 (by decide)) (r 72 (by simp only [List.mem_cons, List.not_mem_nil, or_false]; omega)), hR.2.1.2.2.cg (f 13 (by decide)) (r 75 (by simp only [List.mem_cons, List.not_mem_nil, or_false]; omega))⟩, by rw [(f 10 (by decide)), (r 73 (by simp only [List.mem_cons, List.not_mem_nil, or_false]; omega))]; exact hR.2.2.1, by unfold wgR; rw [(r 76 (by simp only [List.mem_cons, List.not_mem_nil, or_false]; omega))]; exact hR.2.2.2.1, ?_, ⟨by omega, fun p p0 p1 => absurd p1 (by omega)⟩, by rw [(f 52 (by decide))]; exact hR.2.2.2.2.2.2.1, fun x => absurd v32 x⟩,
    ⟨by rw [s1, v1], fun p p0 p1 => absurd p1 (by omega)⟩, ⟨h.2.2.2.1.1.cg (r 3 (by simp only [List.mem_cons, List.not_mem_nil, or_false]; omega)) (r 4 (by simp only [List.mem_cons, List.not_mem_nil, or_false]; omega)) (r 5 (by simp only [List.mem_cons, List.not_mem_nil, or_false]; omega)) (r 69 (by simp only [List.mem_cons, List.not_mem_nil, or_false]; omega)) (r 70 (by simp only [List.mem_cons, List.not_mem_nil, or_false]; omega)) (f 6 (by decide)), h.2.2.2.1.2.1.cg (r 7 (by simp only [List.mem_cons, List.not_mem_nil, or_false]; omega)) (r 8 (by simp only [List.mem_cons, List.not_mem_nil, or_false]; omega)) (r 9 (by simp only [List.mem_cons, List.not_mem_nil, or_false]; omega)) (r 71 (by simp only [List.mem_cons, List.not_mem_nil, or_false]; omega)) (r 72 (by simp only [List.mem_cons, List.not_mem_nil, or_false]; omega)) (f 10 (by decide)), h.2.2.2.1.2.2.1.cg (r 11 (by simp only [List.mem_cons, List.not_mem_nil, or_false]; omega)) (r 12 (by simp only [List.mem_cons, List.not_mem_nil, or_false]; omega)) (r 13 (by simp only [List.mem_cons, List.not_mem_nil, or_false]; omega)) (r 74 (by simp only [List.mem_cons, List.not_mem_nil, or_false]; omega)) (r 75 (by simp only [List.mem_cons, List.not_mem_nil, or_false]; omega)) (f 13 (by decide)), by rw [(r 10 (by simp only [List.mem_cons, List.not_mem_nil, or_false]; omega)), (r 73 (by simp only [List.mem_cons, List.not_mem_nil, or_false]; omega)), (f 10 (by decide))]; exact h.2.2.2.1.2.2.2⟩, by rw [(r 15 (by simp only [List.mem_cons, List.not_mem_nil, or_false]; omega)), (r 76 (by simp only [List.mem_cons, List.not_mem_nil, or_false]; omega))]; exact h.2.2.2.2.1, ?_, ⟨by rw [g55, v41], fun p p0 p1 => absurd p1 (by omega)⟩, h.2.2.2.2.2.2.2.1.cg (by rw [(r 58 (by simp only [List.mem_cons, List.not_mem_nil, or_false]; omega))]) (r 65 (by simp only [List.mem_cons, List.not_mem_nil, or_false]; omega)) (r 104 (by simp only [List.mem_cons, List.not_mem_nil, or_false]; omega)) (f 52 (by decide)), by rw [v26, v27]; exact k16⟩
  · exact ⟨by rw [g40, d7], fun i i0 i1 => by rw [d7] at i1 ⊢; rw [g41 i i0 i1]; exact ⟨i0, i1⟩, fun i j i0 i1 j0 j1 x => by rw [d7] at i1 j1; rwa [g41 i i0 i1, g41 j j0 j1] at x⟩
  · refine ⟨by omega, fun s s0 s1 => ?_, fun i i0 i1 => ?_⟩
    · rw [v24] at s1
      obtain ⟨⟨d1, d2, d3⟩, d4⟩ := dn s s0 s1
      have t := tx.2.2.2.1 s s0 (by omega)
      refine ⟨by rw [d1]; exact t.2.1, fun k k0 k1 => ?_⟩
      rw [d1] at k1
      rw [(d4 k k0 k1).1]
      have w := tx.2.2.1 (S (d + 4) s + k) (by omega) (by omega)
      omega
    · rw [v24] at i1 ⊢
      rw [(dn i i0 i1).1.2.2]
      exact ⟨i0, i1⟩
  · refine ⟨by rw [d7, v24], fun s s0 s1 => ?_, fun i i0 i1 => ?_, fun _ => ?_⟩
    · rw [v24] at s1
      obtain ⟨⟨d1, d2, d3⟩, d4⟩ := dn s s0 s1
      refine ⟨by rw [sd (d + 5) (by omega) (by omega), d1], fun k k0 k1 => ?_⟩
      rw [d1] at k1
      have w := d4 k k0 k1
      unfold wL wS
      rw [sd (d + 3) (by omega) (by omega), sd (d + 4) (by omega) (by omega), sd (d + 1) (by omega) (by omega), sd (d + 2) (by omega) (by omega)]
      refine ⟨w.1.symm, fun j j0 j1 => ?_⟩
      rw [w.1] at j1
      exact (w.2 j j0 j1).symm
    · rw [v24] at i1
      obtain ⟨⟨d1, d2, d3⟩, d4⟩ := dn i i0 i1
      rw [sd (d + 6) (by omega) (by omega), d2, d3]
      exact ⟨rfl, g41 i i0 i1⟩
    · rw [v25, v24, sd (d + 6) (by omega) (by omega)]
theorem q_read {M M' M'' : Mm} {e d : Nat} {z z' : Int} (h : Cpl M e d) (a : (rScan M d 16 0 ≠ 0 ∧ z = -1 ∧ M' = mput (rScan M d) 1 1 0) ∨ (rScan M d 16 0 = 0 ∧ z = rScan M d d 7 ∧ M' = rAll M e d)) : ((0 ≤ M 1 1 ∧ M 1 1 ≤ 3000) ∧ M' 66 1 = M 1 1 ∧ TpR M M' (M 1 1)) ∧ (rdQ M M' M'' d (M 1 1) z' → z = z' ∧ ∃ e' d', Cpl M'' e' d') := by
  have hX := h.1
  have hR := h.2.1
  have hed := hX.1
  have k := h.2.2.1
  have rs : ∀ q : Nat, q ∉ [16, d, d + 1, d + 2, d + 3, d + 4, d + 5, d + 6] → rScan M d q = M q := by
    intro q hq
    simp only [List.mem_cons, List.not_mem_nil, or_false, not_or] at hq
    exact rScan_ne hq
  have hi : ∀ q, 66 ≤ q → M' q = M q := by
    intro q hq
    rcases a with ⟨_, _, a⟩ | ⟨_, _, a⟩
    · rw [a, mput_ne (by omega), rs q (by simp only [List.mem_cons, List.not_mem_nil, or_false]; omega)]
    · rw [a, rAll_v.1 q (by simp only [List.mem_cons, List.not_mem_nil, or_false]; omega), rs q (by simp only [List.mem_cons, List.not_mem_nil, or_false]; omega)]
  refine ⟨⟨hX.2.2.1, by rw [hi 66 (by decide)]; exact k.1.symm, fun p p0 p1 => by rw [hi 67 (by decide)]; exact k.2 p p0 (by rw [← k.1]; exact p1)⟩, fun b => ?_⟩
  rcases a with ⟨a1, a2, a3⟩ | ⟨a1, a2, a3⟩
  · rcases b with ⟨b1, b2, b3, b4, b5, b6, b7⟩ | ⟨b1, b2, _⟩
    · refine ⟨by rw [a2, b1], e, d, h.rdF (fun q hq => ?_) (fun t ht => ?_) ?_ b5 ⟨?_, ?_⟩⟩
      · simp only [List.mem_cons, List.not_mem_nil, or_false] at hq
        rw [b3 q (by simp only [List.mem_cons, List.not_mem_nil, or_false]; omega), a3, mput_ne (by omega), rs q (by simp only [List.mem_cons, List.not_mem_nil, or_false]; omega)]
      · simp only [List.mem_cons, List.not_mem_nil, or_false] at ht
        rw [b4 t (by omega) (by omega) (by omega), hi 66 (by decide)]
      · rw [b3 1 (by decide), a3, mput_eq]
      · rw [b3 16 (by decide), a3, mput_ne (by decide), b6]
      · rw [b3 16 (by decide), a3, mput_ne (by decide), b7]
    · exact absurd b2 a1
  · rcases b with ⟨b1, b2, _⟩ | ⟨b1, b2, b3, b4, b5, b6, b7, b8, b9⟩
    · exact absurd a1 b2
    · refine ⟨by rw [a2, b1], d, e, ?_⟩
      obtain ⟨r1, r2, r3, r4, r5, r6, r7, r8⟩ := rAll_v (M := M) (e := e) (d := d)
      have lo : ∀ q : Nat, q < 66 → M'' q = rAll M e d q := fun q hq => by rw [b6 q (by simp only [List.mem_cons, List.not_mem_nil, or_false]; omega), a3]
      refine h.rdS hX.2.2.1.2 b5 b1 b4 (fun q hq => ?_) (fun t ht => ?_) (fun q q0 q1 => ?_) (by rw [lo 0 (by decide), r2]) (by rw [lo 0 (by decide), r3]) (by rw [lo 0 (by decide), r4]) (by rw [lo 1 (by decide), r5]) (by rw [lo 40 (by decide), r6, b1]) (fun k k0 k1 => by rw [lo 41 (by decide)]; exact r7 k k0 (by omega)) (by rw [lo 55 (by decide), r8]) b8 b9 ⟨?_, ?_⟩
      · simp only [List.mem_cons, List.not_mem_nil, or_false] at hq
        by_cases c : q < 66
        · rw [lo q c, r1 q (by simp only [List.mem_cons, List.not_mem_nil, or_false]; omega), rs q (by simp only [List.mem_cons, List.not_mem_nil, or_false]; omega)]
        · rw [b6 q (by simp only [List.mem_cons, List.not_mem_nil, or_false]; omega), hi q (by omega)]
      · simp only [List.mem_cons, List.not_mem_nil, or_false] at ht
        rw [b7 t (by omega) (by omega) (by omega) (by omega) (by omega) (by omega) (by omega), hi 66 (by decide)]
      · rw [lo q (by omega), r1 q (by simp only [List.mem_cons, List.not_mem_nil, or_false]; omega)]
      · rw [lo 16 (by decide), r1 16 (by decide), b2]
      · rw [lo 16 (by decide), r1 16 (by decide), b3]
