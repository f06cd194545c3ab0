/-! SIGN on both sides -/
theorem Cpl.t7 {M M'' : Mm} {e d : Nat} (h : Cpl M e d) (r : ∀ q : Nat, q ∉ [0, 1, 2, 7, 8, 9, 10, 66, 68, 71, 72, 73] → M'' q = M q) (f : ∀ t : Int, t ∉ [1, 3, 10, 32] → M'' 66 t = M 66 t) (g0 : ∀ k : Int, k ≠ 14 → M'' 0 k = M 0 k) (g14 : M'' 0 14 = 1) (g32 : M'' 66 32 = 0) (s1 : M'' 1 1 = 0) (s2 : M'' 66 1 = 0) (hw : tW M'' 7 30 16) (hT : cT M'' 7 16 71 72 10) (k1 : ∀ i, 0 ≤ i → i < M'' 7 5 → 1 ≤ M'' 10 i ∧ M'' 10 i ≤ 4) (k2 : ∀ i, 0 ≤ i → i < M'' 66 10 → 1 ≤ M'' 73 i ∧ M'' 73 i ≤ 4) (k3 : ∀ i, 0 ≤ i → i < M'' 66 10 → M'' 10 i = M'' 73 i) : Cpl M'' e d := by
  have he := h.he
  have hX := h.1
  have hR := h.2.1
  exact ⟨⟨hX.1, ⟨by rw [g0 6 (by decide)]; exact hX.2.1.1, by rw [g0 7 (by decide)]; exact hX.2.1.2⟩, by omega, ⟨hX.2.2.2.1.1.cg (r 3 (by decide)) (r 5 (by decide)), hw, hX.2.2.2.1.2.2.cg (r 11 (by decide)) (r 13 (by decide))⟩, k1, by rw [(r 15 (by decide))]; exact hX.2.2.2.2.2.1, ⟨hX.2.2.2.2.2.2.1.1.cg (r e (by simp only [List.mem_cons, List.not_mem_nil, or_false]; omega)) (r (e + 2) (by simp only [List.mem_cons, List.not_mem_nil, or_false]; omega)) (r (e + 3) (by simp only [List.mem_cons, List.not_mem_nil, or_false]; omega)) (r (e + 4) (by simp only [List.mem_cons, List.not_mem_nil, or_false]; omega)) (r (e + 5) (by simp only [List.mem_cons, List.not_mem_nil, or_false]; omega)), plOk_cg hX.2.2.2.2.2.2.1.2.1 (r e (by simp only [List.mem_cons, List.not_mem_nil, or_false]; omega)) (r 40 (by decide)) (r 41 (by decide)), prOk_cg hX.2.2.2.2.2.2.1.2.2 (r e (by simp only [List.mem_cons, List.not_mem_nil, or_false]; omega)) (r 55 (by decide)) (r 56 (by decide)) (r 57 (by decide))⟩, by rw [(r 58 (by decide))]; exact hX.2.2.2.2.2.2.2.1, fun x => absurd (g14.symm.trans x) (by decide), fun x y => absurd (g14.symm.trans x) (by decide)⟩,
    ⟨by omega, ⟨hR.2.1.1.cg (f 6 (by decide)) (r 70 (by decide)), hT.tR (by decide) hw, hR.2.1.2.2.cg (f 13 (by decide)) (r 75 (by decide))⟩, k2, by unfold wgR; rw [(r 76 (by decide))]; exact hR.2.2.2.1, hR.2.2.2.2.1.cg (f 24 (by decide)) (r 78 (by decide)) (r 79 (by decide)) (r 85 (by decide)), hR.2.2.2.2.2.1.cg (f 24 (by decide)) (f 41 (by decide)) (r 96 (by decide)) (r 97 (by decide)), by rw [(f 52 (by decide))]; exact hR.2.2.2.2.2.2.1, fun x => absurd g32 x⟩,
    ⟨by rw [s1, s2], fun p p0 p1 => absurd p1 (by omega)⟩, ⟨h.2.2.2.1.1.cg (r 3 (by decide)) (r 4 (by decide)) (r 5 (by decide)) (r 69 (by decide)) (r 70 (by decide)) (f 6 (by decide)), hT, h.2.2.2.1.2.2.1.cg (r 11 (by decide)) (r 12 (by decide)) (r 13 (by decide)) (r 74 (by decide)) (r 75 (by decide)) (f 13 (by decide)), k3⟩, by rw [(r 15 (by decide)), (r 76 (by decide))]; exact h.2.2.2.2.1, h.2.2.2.2.2.1.cg (fun q hq => r q (by simp only [List.mem_cons, List.not_mem_nil, or_false] at hq ⊢; omega)) (f 24 (by decide)) (f 25 (by decide)), h.2.2.2.2.2.2.1.cg (r 55 (by decide)) (r 56 (by decide)) (r 57 (by decide)) (r 96 (by decide)) (r 97 (by decide)) (f 41 (by decide)), h.2.2.2.2.2.2.2.1.cg (by rw [(r 58 (by decide))]) (r 65 (by decide)) (r 104 (by decide)) (f 52 (by decide)), by rw [(r 16 (by decide)), (f 26 (by decide)), (f 27 (by decide))]; exact h.2.2.2.2.2.2.2.2⟩
theorem q_sign {M M' M'' : Mm} {e d : Nat} {kind z z' : Int} (h : Cpl M e d) (a : sgl M M' kind z) (b : rsg M' M'' kind z') : z = z' ∧ Cpl M'' e d := by
  obtain ⟨M1, ⟨s1, s1'⟩, a⟩ := a
  obtain ⟨N1, ⟨t1, t1', t2⟩, b⟩ := b
  have he := h.he
  have hX := h.1
  have hR := h.2.1
  have k := h.2.2.1
  have hi : ∀ q, 66 ≤ q → M' q = M q := by
    intro q hq
    have sq : M1 q = M q := s1 q (by simp only [List.mem_cons, List.not_mem_nil, or_false]; omega)
    rcases a with ⟨_, _, a⟩ | ⟨_, _, _, i, _, ⟨_, _, _, a⟩ | ⟨_, _, _, a⟩ | ⟨_, _, _, a⟩ | ⟨_, _, _, _, a⟩ | ⟨_, _, _, _, a⟩⟩
    · rw [a, sq]
    · rw [a, mput_ne (by omega), tDrop_o (by omega) (by omega) (by omega) (by omega), sq]
    · rw [a, mput_ne (by omega), sq]
    · rw [a, mput_ne (by omega), mput_ne (by omega), sq]
    · rw [a, sq]
    · rw [a, mput_ne (by omega), tAdd_o (by omega) (by omega) (by omega) (by omega), sq]
  have e66 := hi 66 (by decide)
  have e67 := hi 67 (by decide)
  have wd : tWd M 16 ↔ mWd M' 16 := take_wd k e66 e67
  have W0 := hX.2.2.2.1.2.1
  have cc := h.2.2.2.1.2.1.1
  have m1 : M1 7 = M 7 := s1 7 (by decide)
  have W : tW M1 7 30 16 := W0.cg m1 (s1 9 (by decide))
  have cm : ∀ j : Nat, j ∉ [0, 1, 2, 66, 68] → ((M' = M1 ∨ M' = mput M1 0 14 1) → M'' = N1 → M'' j = M j) := by
    intro j hj x y
    simp only [List.mem_cons, List.not_mem_nil, or_false] at hj
    have e1 : M' j = M1 j := by
      rcases x with x | x
      · rw [x]
      · rw [x, mput_ne (by omega)]
    rw [y, t1 j (by simp only [List.mem_cons, List.not_mem_nil, or_false]; omega), e1, s1 j (by simp only [List.mem_cons, List.not_mem_nil, or_false]; omega)]
  have tk : (M' = M1 ∨ M' = mput M1 0 14 1) → M'' = N1 → Cpl M'' e d := by
    intro x y
    have y0 : M'' 0 = M' 0 := by rw [y, t1 0 (by decide)]
    have z0 : M1 0 = M 0 := s1 0 (by decide)
    refine h.tk (fun q hq => cm q hq x y) (fun t ht => ?_) (fun t ht => ?_) ?_ ?_ ?_
    · simp only [List.mem_cons, List.not_mem_nil, or_false] at ht
      rw [y, t2 t (by omega) (by omega), e66]
    · rcases x with x | x
      · rw [y0, x, z0]
      · rw [y0, x, mput_nk ht, z0]
    · rcases x with x | x
      · left; rw [y0, x, z0]
      · right; rw [y0, x, mput_eq]
    · have e1 : M' 1 = M1 1 := by
        rcases x with x | x
        · rw [x]
        · rw [x, mput_ne (by decide)]
      rw [y, t1 1 (by decide), e1]; exact s1'
    · rw [y]; exact t1'
  rcases a with ⟨a1, a2, a3⟩ | ⟨a1, a0, a2, i, a3, a4⟩
  · rcases b with ⟨b1, b2, b3⟩ | ⟨b1, b0, _⟩
    · exact ⟨by rw [a2, b2], tk (Or.inl a3) b3⟩
    · exact absurd ⟨wd.2 b1, b0⟩ a1
  · rcases b with ⟨b1, _⟩ | ⟨b1, _, b2, j, b3, b4⟩
    · exact absurd ⟨wd.1 a1, a0⟩ b1
    · have hl := take_low k e66 e67 b1 a2 b2
      have c2 : N1 66 10 = M 66 10 := by rw [t2 10 (by decide) (by decide), e66]
      have hr : ∀ q : Nat, q = 71 ∨ q = 72 ∨ q = 73 → N1 q = M q := by
        intro q hq
        rw [t1 q (by simp only [List.mem_cons, List.not_mem_nil, or_false]; omega), hi q (by omega)]
      have T3 : cT3 M1 N1 7 16 71 72 10 := h.2.2.2.1.2.1.two m1 (s1 8 (by decide)) (s1 9 (by decide)) (hr 71 (by decide)) (hr 72 (by decide)) c2
      have ij : i = j := find_eq T3 hl.1 hl.2 a3 b3
      subst ij
      have ig := find_lt a3
      have wl : ∀ q, 0 ≤ q → q < N1 66 10 → M1 (7 + 2) q ≤ 16 := fun q q0 q1 => (W.2.2.2 q q0 (by rw [m1, cc]; omega)).2
      have cn : M1 7 5 = M 66 10 := by rw [m1]; exact cc
      have cr := W.2.2.1
      have n1 : 1 ≤ M 1 1 ∧ M 1 1 ≤ 16 := ⟨a1.1, a1.2.1⟩
      have m10 : M1 10 = M 10 := s1 10 (by decide)
      have m73 : N1 73 = M 73 := hr 73 (by decide)
      have K1 : ∀ y, 0 ≤ y → y < M 66 10 → (1 ≤ M 73 y ∧ M 73 y ≤ 4) ∧ M 10 y = M 73 y := fun y y0 y1 => ⟨hR.2.2.1 y y0 y1, h.2.2.2.1.2.2.2 y y0 y1⟩
      clear a3 b3 a1 b1 a2 b2 wd
      rw [c2] at b4
      rcases a4 with ⟨p0, p1, p2, p3⟩ | ⟨p0, p1, p2, p3⟩ | ⟨p0, p1, p2, p3⟩ | ⟨p0, p1, p2, p3, p4⟩ | ⟨p0, p1, p2, p4, p3⟩
      · rcases b4 with ⟨q0, q1, q2, q3⟩ | ⟨q0, q1, _⟩ | ⟨q0, _⟩ | ⟨q0, _⟩ | ⟨q0, _⟩
        · refine ⟨by rw [p2, q2, cn], ?_⟩
          have lo : ∀ q : Nat, q < 66 → M'' q = M' q := by
            intro q hq
            rw [q3, mput_ne (by omega), mput_ne (by omega), rDrop_o (by omega) (by omega) (by omega), t1 q (by simp only [List.mem_cons, List.not_mem_nil, or_false]; omega)]
          have r : ∀ q : Nat, q ∉ [0, 1, 2, 7, 8, 9, 10, 66, 68, 71, 72, 73] → M'' q = M q := by
            intro q hq
            simp only [List.mem_cons, List.not_mem_nil, or_false] at hq
            rw [q3, mput_ne (by omega), mput_ne (by omega), rDrop_o (by omega) (by omega) (by omega), t1 q (by simp only [List.mem_cons, List.not_mem_nil, or_false]; omega), p3, mput_ne (by omega), tDrop_o (by omega) (by omega) (by omega) (by omega), s1 q (by simp only [List.mem_cons, List.not_mem_nil, or_false]; omega)]
          have f : ∀ t : Int, t ∉ [1, 3, 10, 32] → M'' 66 t = M 66 t := by
            intro t ht
            simp only [List.mem_cons, List.not_mem_nil, or_false] at ht
            rw [q3, mput_nk (by omega), mput_ne (by decide), rDrop_66 (by decide) (by decide), if_neg (by omega), t2 t (by omega) (by omega), e66]
          have up : ∀ q : Nat, q = 71 ∨ q = 72 ∨ q = 73 → M'' q = (mput (rDrop N1 71 72 10 i) 73 i (N1 73 (M 66 10 - 1))) q := by
            intro q hq
            rw [q3, mput_ne (by omega)]
          have cl : ∀ q : Nat, q = 7 ∨ q = 8 ∨ q = 9 ∨ q = 10 → M'' q = (tDrop M1 7 16 i) q := by
            intro q hq
            rw [lo q (by omega), p3, mput_ne (by omega)]
          have g0 : ∀ y : Int, y ≠ 14 → M'' 0 y = M 0 y := by
            intro y hy
            rw [lo 0 (by decide), p3, mput_nk hy, tDrop_o (by decide) (by decide) (by decide) (by decide), s1 0 (by decide)]
          have g14 : M'' 0 14 = 1 := by rw [lo 0 (by decide), p3, mput_eq]
          have g32 : M'' 66 32 = 0 := by rw [q3, mput_eq]
          have v1 : M'' 1 1 = 0 := by rw [lo 1 (by decide), p3, mput_ne (by decide), tDrop_o (by decide) (by decide) (by decide) (by decide)]; exact s1'
          have v2 : M'' 66 1 = 0 := by rw [q3, mput_nk (by decide), mput_ne (by decide), rDrop_66 (by decide) (by decide), if_neg (by decide), t1']
          have il : i < M 66 10 := by omega
          have hw : tW M'' 7 30 16 := (drop_tW W (i := i) ⟨p1, by omega⟩).cg (cl 7 (by decide)) (cl 9 (by decide))
          have f6 : M'' 66 10 = M 66 10 - 1 := by rw [q3, mput_nk (by decide), mput_ne (by decide), rDrop_66 (by decide) (by decide), if_pos rfl, c2]
          have hT : cT M'' 7 16 71 72 10 := (drop_cT (by decide) (by decide) (by decide) (by decide) T3 wl (i := i) ⟨p1, by omega⟩).fin (cl 7 (by decide)) (cl 8 (by decide)) (cl 9 (by decide)) (by rw [up 71 (by decide), mput_ne (by decide)]) (by rw [up 72 (by decide), mput_ne (by decide)]) (by rw [f6, rDrop_66 (by decide) (by decide), if_pos rfl, c2])
          have x10 : ∀ y, M'' 10 y = if y = i then M 10 (M 66 10 - 1) else M 10 y := fun y => by
            rw [cl 10 (by decide)]
            have t := tDrop_3 M1 7 16 i y
            rw [cn] at t
            rw [← m10]
            exact t
          have x73 : ∀ y, M'' 73 y = if y = i then M 73 (M 66 10 - 1) else M 73 y := fun y => by
            rw [up 73 (by decide), mput_at, rDrop_o (by decide) (by decide) (by decide), m73]
          have hcc : M'' 7 5 = M'' 66 10 := hT.1
          have k23 : ∀ y, 0 ≤ y → y < M'' 66 10 → (1 ≤ M'' 73 y ∧ M'' 73 y ≤ 4) ∧ M'' 10 y = M'' 73 y := by
            intro y y0 y1
            rw [f6] at y1
            rw [x10, x73]
            split
            · exact K1 _ (by omega) (by omega)
            · exact K1 _ y0 (by omega)
          exact h.t7 r f g0 g14 g32 v1 v2 hw hT (fun y y0 y1 => by rw [(k23 y y0 (by omega)).2]; exact (k23 y y0 (by omega)).1) (fun y y0 y1 => (k23 y y0 y1).1) (fun y y0 y1 => (k23 y y0 y1).2)
        · omega
        · exact absurd p0 q0
        · exact absurd p0 q0
        · exact absurd p0 q0
      · rcases b4 with ⟨q0, q1, _⟩ | ⟨q0, q1, q2, q3⟩ | ⟨q0, _⟩ | ⟨q0, _⟩ | ⟨q0, _⟩
        · omega
        · exact ⟨by rw [p2, q2, cn], tk (Or.inr p3) q3⟩
        · exact absurd p0 q0
        · exact absurd p0 q0
        · exact absurd p0 q0
      · rcases b4 with ⟨q0, _⟩ | ⟨q0, _⟩ | ⟨q0, q1, q2, q3⟩ | ⟨q0, q1, _⟩ | ⟨q0, q1, _⟩
        · exact absurd q0 p0
        · exact absurd q0 p0
        · refine ⟨by rw [p2, q2, cn], ?_⟩
          have lo : ∀ q : Nat, q < 66 → M'' q = M' q := by
            intro q hq
            rw [q3, mput_ne (by omega), mput_ne (by omega), t1 q (by simp only [List.mem_cons, List.not_mem_nil, or_false]; omega)]
          have r : ∀ q : Nat, q ∉ [0, 1, 2, 7, 8, 9, 10, 66, 68, 71, 72, 73] → M'' q = M q := by
            intro q hq
            simp only [List.mem_cons, List.not_mem_nil, or_false] at hq
            rw [q3, mput_ne (by omega), mput_ne (by omega), t1 q (by simp only [List.mem_cons, List.not_mem_nil, or_false]; omega), p3, mput_ne (by omega), mput_ne (by omega), s1 q (by simp only [List.mem_cons, List.not_mem_nil, or_false]; omega)]
          have f : ∀ t : Int, t ∉ [1, 3, 10, 32] → M'' 66 t = M 66 t := by
            intro t ht
            simp only [List.mem_cons, List.not_mem_nil, or_false] at ht
            rw [q3, mput_nk (by omega), mput_ne (by decide), t2 t (by omega) (by omega), e66]
          have up : ∀ q : Nat, q = 71 ∨ q = 72 ∨ q = 73 → M'' q = (mput N1 73 i kind) q := by
            intro q hq
            rw [q3, mput_ne (by omega)]
          have cl : ∀ q : Nat, q = 7 ∨ q = 8 ∨ q = 9 ∨ q = 10 → M'' q = (mput M1 10 i kind) q := by
            intro q hq
            rw [lo q (by omega), p3, mput_ne (by omega)]
          have g0 : ∀ y : Int, y ≠ 14 → M'' 0 y = M 0 y := by
            intro y hy
            rw [lo 0 (by decide), p3, mput_nk hy, mput_ne (by decide), s1 0 (by decide)]
          have g14 : M'' 0 14 = 1 := by rw [lo 0 (by decide), p3, mput_eq]
          have g32 : M'' 66 32 = 0 := by rw [q3, mput_eq]
          have v1 : M'' 1 1 = 0 := by rw [lo 1 (by decide), p3, mput_ne (by decide), mput_ne (by decide)]; exact s1'
          have v2 : M'' 66 1 = 0 := by rw [q3, mput_nk (by decide), mput_ne (by decide), t1']
          have hw : tW M'' 7 30 16 := W.cg (by rw [cl 7 (by decide), mput_ne (by decide)]) (by rw [cl 9 (by decide), mput_ne (by decide)])
          have f6 : M'' 66 10 = M 66 10 := by rw [q3, mput_nk (by decide), mput_ne (by decide), c2]
          have hT : cT M'' 7 16 71 72 10 := T3.fin (by rw [cl 7 (by decide), mput_ne (by decide)]) (by rw [cl 8 (by decide), mput_ne (by decide)]) (by rw [cl 9 (by decide), mput_ne (by decide)]) (by rw [up 71 (by decide), mput_ne (by decide)]) (by rw [up 72 (by decide), mput_ne (by decide)]) (by rw [f6, c2])
          have x10 : ∀ y, M'' 10 y = if y = i then kind else M 10 y := fun y => by rw [cl 10 (by decide), mput_at, m10]
          have x73 : ∀ y, M'' 73 y = if y = i then kind else M 73 y := fun y => by rw [up 73 (by decide), mput_at, m73]
          have hcc : M'' 7 5 = M'' 66 10 := hT.1
          have k23 : ∀ y, 0 ≤ y → y < M'' 66 10 → (1 ≤ M'' 73 y ∧ M'' 73 y ≤ 4) ∧ M'' 10 y = M'' 73 y := by
            intro y y0 y1
            rw [f6] at y1
            rw [x10, x73]
            split
            · exact ⟨by omega, rfl⟩
            · exact K1 _ y0 (by omega)
          exact h.t7 r f g0 g14 g32 v1 v2 hw hT (fun y y0 y1 => by rw [(k23 y y0 (by omega)).2]; exact (k23 y y0 (by omega)).1) (fun y y0 y1 => (k23 y y0 y1).1) (fun y y0 y1 => (k23 y y0 y1).2)
        · omega
        · omega
      · rcases b4 with ⟨q0, _⟩ | ⟨q0, _⟩ | ⟨q0, q1, _⟩ | ⟨q0, q1, q2, q3, q4⟩ | ⟨q0, q1, q2, _⟩
        · exact absurd q0 p0
        · exact absurd q0 p0
        · omega
        · exact ⟨by rw [p3, q3], tk (Or.inl p4) q4⟩
        · omega
      · rcases b4 with ⟨q0, _⟩ | ⟨q0, _⟩ | ⟨q0, q1, _⟩ | ⟨q0, q1, q2, _⟩ | ⟨q0, q1, q2, q4, q3⟩
        · exact absurd q0 p0
        · exact absurd q0 p0
        · omega
        · omega
        · refine ⟨by rw [p4, q4, cn], ?_⟩
          have lo : ∀ q : Nat, q < 66 → M'' q = M' q := by
            intro q hq
            rw [q3, mput_ne (by omega), mput_ne (by omega), rAdd_o (by omega) (by omega) (by omega), t1 q (by simp only [List.mem_cons, List.not_mem_nil, or_false]; omega)]
          have r : ∀ q : Nat, q ∉ [0, 1, 2, 7, 8, 9, 10, 66, 68, 71, 72, 73] → M'' q = M q := by
            intro q hq
            simp only [List.mem_cons, List.not_mem_nil, or_false] at hq
            rw [q3, mput_ne (by omega), mput_ne (by omega), rAdd_o (by omega) (by omega) (by omega), t1 q (by simp only [List.mem_cons, List.not_mem_nil, or_false]; omega), p3, mput_ne (by omega), tAdd_o (by omega) (by omega) (by omega) (by omega), s1 q (by simp only [List.mem_cons, List.not_mem_nil, or_false]; omega)]
          have f : ∀ t : Int, t ∉ [1, 3, 10, 32] → M'' 66 t = M 66 t := by
            intro t ht
            simp only [List.mem_cons, List.not_mem_nil, or_false] at ht
            rw [q3, mput_nk (by omega), mput_ne (by decide), rAdd_66 (by decide) (by decide), if_neg (by omega), t2 t (by omega) (by omega), e66]
          have up : ∀ q : Nat, q = 71 ∨ q = 72 ∨ q = 73 → M'' q = (mput (rAdd N1 71 72 10) 73 (M 66 10) kind) q := by
            intro q hq
            rw [q3, mput_ne (by omega)]
          have cl : ∀ q : Nat, q = 7 ∨ q = 8 ∨ q = 9 ∨ q = 10 → M'' q = (tAdd M1 7 16 (M 1 1) kind) q := by
            intro q hq
            rw [lo q (by omega), p3, mput_ne (by omega)]
          have g0 : ∀ y : Int, y ≠ 14 → M'' 0 y = M 0 y := by
            intro y hy
            rw [lo 0 (by decide), p3, mput_nk hy, tAdd_o (by decide) (by decide) (by decide) (by decide), s1 0 (by decide)]
          have g14 : M'' 0 14 = 1 := by rw [lo 0 (by decide), p3, mput_eq]
          have g32 : M'' 66 32 = 0 := by rw [q3, mput_eq]
          have v1 : M'' 1 1 = 0 := by rw [lo 1 (by decide), p3, mput_ne (by decide), tAdd_o (by decide) (by decide) (by decide) (by decide)]; exact s1'
          have v2 : M'' 66 1 = 0 := by rw [q3, mput_nk (by decide), mput_ne (by decide), rAdd_66 (by decide) (by decide), if_neg (by decide), t1']
          have hw : tW M'' 7 30 16 := (add_tW W (kind := kind) (by omega) (n := M 1 1) ⟨by omega, n1.2⟩).cg (cl 7 (by decide)) (cl 9 (by decide))
          have f6 : M'' 66 10 = M 66 10 + 1 := by rw [q3, mput_nk (by decide), mput_ne (by decide), rAdd_66 (by decide) (by decide), if_pos rfl, c2]
          have hT : cT M'' 7 16 71 72 10 := (add_cT (kind := kind) (by decide) (by decide) (by decide) (by decide) (by decide) T3 wl hl.1 n1.2 hl.2).fin (cl 7 (by decide)) (cl 8 (by decide)) (cl 9 (by decide)) (by rw [up 71 (by decide), mput_ne (by decide)]) (by rw [up 72 (by decide), mput_ne (by decide)]) (by rw [f6, rAdd_66 (by decide) (by decide), if_pos rfl, c2])
          have x10 : ∀ y, M'' 10 y = if y = M 66 10 then kind else M 10 y := fun y => by
            rw [cl 10 (by decide)]
            have t := tAdd_3 M1 7 16 (M 1 1) kind y
            rw [cn] at t
            rw [← m10]
            exact t
          have x73 : ∀ y, M'' 73 y = if y = M 66 10 then kind else M 73 y := fun y => by rw [up 73 (by decide), mput_at, rAdd_o (by decide) (by decide) (by decide), m73]
          have hcc : M'' 7 5 = M'' 66 10 := hT.1
          have k23 : ∀ y, 0 ≤ y → y < M'' 66 10 → (1 ≤ M'' 73 y ∧ M'' 73 y ≤ 4) ∧ M'' 10 y = M'' 73 y := by
            intro y y0 y1
            rw [f6] at y1
            rw [x10, x73]
            split
            · exact ⟨by omega, rfl⟩
            · exact K1 _ y0 (by omega)
          exact h.t7 r f g0 g14 g32 v1 v2 hw hT (fun y y0 y1 => by rw [(k23 y y0 (by omega)).2]; exact (k23 y y0 (by omega)).1) (fun y y0 y1 => (k23 y y0 y1).1) (fun y y0 y1 => (k23 y y0 y1).2)
