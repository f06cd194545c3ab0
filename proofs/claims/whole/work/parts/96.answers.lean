/-! ANSWERS that agree, and the coupling behind them -/
theorem q_fault {M : Mm} {e d : Nat} {w z z' : Int} (h : Cpl M e d) (a : z = if w = 0 then M 16 0 else if w = 1 then M 16 1 else -1) (b : z' = if w = 0 then M 66 26 else if w = 1 then M 66 27 else -1) : z = z' := by
  have k := h.2.2.2.2.2.2.2.2
  rw [a, b, k.1, k.2]
theorem q_ordered {M : Mm} {e d : Nat} {i z z' : Int} (h : Cpl M e d) (a : z = if 0 ≤ i ∧ i < M 58 7 then M 65 i else -1) (b : z' = if 0 ≤ i ∧ i < M 66 52 then M 104 i else -1) : z = z' := by
  have k := h.2.2.2.2.2.2.2.1
  rw [a, b, k.1]
  by_cases c : 0 ≤ i ∧ i < M 66 52
  · rw [if_pos c, if_pos c, k.2 i c.1 c.2]
  · rw [if_neg c, if_neg c]
theorem q_word {M : Mm} {e d : Nat} {i k j z z' : Int} (h : Cpl M e d) (a : z = if 0 ≤ i ∧ i < M e 7 ∧ 0 ≤ k ∧ k < M (e + 5) (M 41 i) ∧ 0 ≤ j ∧ j < wL M e (M 41 i) k then M (e + 1) (wS M e (M 41 i) k + j) else -1) (b : z' = if 0 ≤ i ∧ i < M 66 24 ∧ 0 ≤ k ∧ k < M 79 (M 85 i) ∧ 0 ≤ j ∧ j < M 78 (40 * M 85 i + k) then M 77 (16 * (40 * M 85 i + k) + j) else -1) : z = z' := by
  obtain ⟨e1, e2, e3, e4⟩ := h.2.2.2.2.2.1
  have hR := h.2.1.2.2.2.2.1.2.2
  rw [a, b, e1]
  by_cases c : 0 ≤ i ∧ i < M 66 24
  · have r := hR i c.1 c.2
    rw [(e3 i c.1 c.2).2]
    have t := e2 (M 85 i) r.1 r.2
    rw [t.1]
    by_cases c2 : 0 ≤ k ∧ k < M 79 (M 85 i)
    · have u := t.2 k c2.1 c2.2
      rw [u.1]
      by_cases c3 : 0 ≤ j ∧ j < M 78 (40 * M 85 i + k)
      · rw [if_pos ⟨c.1, c.2, c2.1, c2.2, c3.1, c3.2⟩, if_pos ⟨c.1, c.2, c2.1, c2.2, c3.1, c3.2⟩, u.2 j c3.1 c3.2]
      · rw [if_neg (fun q => c3 q.2.2.2.2), if_neg (fun q => c3 q.2.2.2.2)]
    · rw [if_neg (fun q => c2 ⟨q.2.2.1, q.2.2.2.1⟩), if_neg (fun q => c2 ⟨q.2.2.1, q.2.2.2.1⟩)]
  · rw [if_neg (fun q => c ⟨q.1, q.2.1⟩), if_neg (fun q => c ⟨q.1, q.2.1⟩)]
theorem q_shared {M M' M'' : Mm} {e d : Nat} {i j z z' : Int} (h : Cpl M e d) (a : (¬ ((0 ≤ i ∧ i < M e 7) ∧ 0 ≤ j ∧ j < M e 7) ∧ z = -2 ∧ M' = M) ∨ (((0 ≤ i ∧ i < M e 7) ∧ 0 ≤ j ∧ j < M e 7) ∧ FrK M M' e ∧ z = M' 34 (M' 41 i * 24 + M' 41 j))) (b : (¬ ((0 ≤ i ∧ i < M' 66 24) ∧ 0 ≤ j ∧ j < M' 66 24) ∧ z' = -2 ∧ M'' = M') ∨ (((0 ≤ i ∧ i < M' 66 24) ∧ 0 ≤ j ∧ j < M' 66 24) ∧ Tfs M' M'' ∧ z' = shB M'' i j (M'' 88 i).toNat)) : z = z' ∧ Cpl M'' e d := by
  have n := h.n
  rw [n.1] at a
  rcases a with ⟨a1, a2, a3⟩ | ⟨a1, a2, a3⟩
  · subst a3
    rcases b with ⟨b1, b2, b3⟩ | ⟨b1, b2, b3⟩
    · subst b3; exact ⟨by rw [a2, b2], h⟩
    · exact absurd b1 a1
  · have e66 : M' 66 = M 66 := a2.1 66 (by decide)
    rw [e66] at b
    rcases b with ⟨b1, b2, b3⟩ | ⟨b1, b2, b3⟩
    · exact absurd a1 b1
    · obtain ⟨c1, c2⟩ := h.bothK (by omega) a2 b2
      have e24 : M'' 66 24 = M 66 24 := by rw [b2.2.1 24 (by decide) (by decide) (by decide), e66]
      refine ⟨?_, c1⟩
      rw [a3, b3, ← b2.lo 34 (by decide), ← b2.lo 41 (by decide)]
      exact c2.sh (by omega) (by omega)
theorem q_cost {M M' M'' : Mm} {e d : Nat} {i j z z' : Int} (h : Cpl M e d) (a : (¬ ((0 ≤ i ∧ i < M e 7) ∧ (0 ≤ j ∧ j < M e 7) ∧ i ≠ j) ∧ z = -2 ∧ M' = M) ∨ (((0 ≤ i ∧ i < M e 7) ∧ (0 ≤ j ∧ j < M e 7) ∧ i ≠ j) ∧ FrK M M' e ∧ z = hC M' e i j)) (b : (¬ ((0 ≤ i ∧ i < M' 66 24) ∧ (0 ≤ j ∧ j < M' 66 24) ∧ i ≠ j) ∧ z' = -2 ∧ M'' = M') ∨ (((0 ≤ i ∧ i < M' 66 24) ∧ (0 ≤ j ∧ j < M' 66 24) ∧ i ≠ j) ∧ Tfs M' M'' ∧ z' = M'' 90 (24 * i + j))) : z = z' ∧ Cpl M'' e d := by
  have n := h.n
  have he := h.he
  rw [n.1] at a
  rcases a with ⟨a1, a2, a3⟩ | ⟨a1, a2, a3⟩
  · subst a3
    rcases b with ⟨b1, b2, b3⟩ | ⟨b1, b2, b3⟩
    · subst b3; exact ⟨by rw [a2, b2], h⟩
    · exact absurd b1 a1
  · have e66 : M' 66 = M 66 := a2.1 66 (by decide)
    rw [e66] at b
    rcases b with ⟨b1, b2, b3⟩ | ⟨b1, b2, b3⟩
    · exact absurd a1 b1
    · obtain ⟨c1, c2⟩ := h.bothK (by omega) a2 b2
      have e24 : M'' 66 24 = M 66 24 := by rw [b2.2.1 24 (by decide) (by decide) (by decide), e66]
      refine ⟨?_, c1⟩
      have l := b2.lo
      have f := c2.2.2.2.2.2.2.2.2.2
      have g := (f.2.1 i a1.1.1 (by omega)).2 j a1.2.1.1 (by omega)
      unfold prc at g
      rw [if_neg a1.2.2] at g
      rw [a3, b3, g, ← c2.cost (by omega) (by omega)]
      exact (hC_sm (l 15 (by decide)) (l 34 (by decide)) (l 41 (by decide)) (l (e + 6) (by omega)) (l 32 (by decide)) i j).symm
/-- one tree, seen from both sides -/
theorem Cpl.one {M M' M'' : Mm} {e d : Nat} (h : Cpl M e d) (hn : 1 ≤ M 66 24) (f : Frs M M' e) (t : Tfs M' M'') : M'' 66 24 = M 66 24 ∧ M'' e 7 = M 66 24 ∧ (∀ q, 0 ≤ q → q < M 66 24 → M'' 95 q = M'' 51 q) ∧ ∃ r, BnT M'' (M 66 24) r ∧ M'' 50 4 = r ∧ ∀ r', TT (M'' 95) (M 66 24) r' → r' = r := by
  obtain ⟨c1, c2, c3⟩ := h.both hn f t
  have n := h.n
  have n' := c1.n
  have e24 : M'' 66 24 = M 66 24 := by rw [t.2.1 24 (by decide) (by decide) (by decide), f.1 66 (by decide)]
  have e7 : M'' e 7 = M 66 24 := by omega
  have tr := (c2.tree c3).2.2
  rw [e24] at tr
  have hB : BF e M'' := fun _ => Clo.of c3
  obtain ⟨r, r1, r2, r3⟩ := hB.bones (by omega)
  rw [e7] at r1 r3
  refine ⟨e24, e7, fun q a b => (tr q a b).symm, r, ⟨by omega, r1, r3⟩, r2, fun r' h' => r1.root h' (fun q a b => (tr q a b).symm)⟩
theorem q_sentence {M M' M'' : Mm} {e d : Nat} {i w z z' : Int} (h : Cpl M e d) (a : (¬ (0 ≤ i ∧ i < M e 7) ∧ z = -2 ∧ M' = M) ∨ ((0 ≤ i ∧ i < M e 7) ∧ Frs M M' e ∧ senX M' e i w z)) (b : (¬ (0 ≤ i ∧ i < M' 66 24) ∧ z' = -2 ∧ M'' = M') ∨ ((0 ≤ i ∧ i < M' 66 24) ∧ ∃ r, Tfs M' M'' ∧ TT (M'' 95) (M'' 66 24) r ∧ senR M'' r i w z')) : z = z' ∧ Cpl M'' e d := by
  have n := h.n
  have he := h.he
  rw [n.1] at a
  rcases a with ⟨a1, a2, a3⟩ | ⟨a1, a2, a3⟩
  · subst a3
    rcases b with ⟨b1, b2, b3⟩ | ⟨b1, b2⟩
    · subst b3; exact ⟨by rw [a2, b2], h⟩
    · exact absurd b1 a1
  · have e66 : M' 66 = M 66 := a2.1 66 (by decide)
    rw [e66] at b
    rcases b with ⟨b1, b2, b3⟩ | ⟨b1, r', b2, b3, b4⟩
    · exact absurd a1 b1
    · obtain ⟨c1, c2, c3⟩ := h.both (by omega) a2 b2
      obtain ⟨e24, e7, hd, r, r1, r2, r3⟩ := h.one (by omega) a2 b2
      refine ⟨?_, c1⟩
      have l := b2.lo
      have q : senX M'' e i w z := by
        unfold senX at *
        rw [l (e + 5) (by omega), l 41 (by decide), l 33 (by decide), l 32 (by decide), l (e + 6) (by omega), l 51 (by decide), l 52 (by decide), l 54 (by decide)]
        exact a3
      rw [e24] at b3
      have er := r3 r' b3
      rw [er] at b4
      unfold senR at b4
      rw [e24] at b4
      have hi : 0 ≤ i ∧ i < M'' 66 24 := by omega
      have hE := c2.2.2.1
      have hp := hE.2.2.1 i hi.1 hi.2
      have hr := c2.2.2.2.2.2.1.2.2 i hi.1 hi.2
      have hb := bHu_cg (h := i) hd (M 66 24).toNat (by omega)
      have wc : w = 0 ∨ w = 1 ∨ w = 2 ∨ w = 3 ∨ w = 4 ∨ w = 5 ∨ w = 6 ∨ w = 7 ∨ (w < 0 ∨ 7 < w) := by omega
      obtain ⟨x0, x1, x2, x3, x4, x5, x6, x7, x8⟩ := q
      obtain ⟨y0, y1, y2, y3, y4, y5, y6, y7, y8⟩ := b4
      rcases wc with c | c | c | c | c | c | c | c | c
      · rw [x0 c, y0 c, hp.2]; exact (hE.2.1 _ hr.1 hr.2).1
      · rw [x1 c, y1 c]; exact c2.cnt hi
      · rw [x2 c, y2 c]; exact c2.kind hi
      · rw [x3 c, y3 c]; exact hp.1
      · rw [x4 c, y4 c]; exact (hd i a1.1 a1.2).symm
      · rw [x5 c, y5 c, (r1.2.2 i a1.1 a1.2).1]; exact hb.symm
      · obtain ⟨lo, up, hv⟩ := r1.2.1.iv a1
        rw [x6 c, y6 c lo up ((Iv_cg r1.2.1 hd).mp hv)]
        exact ((r1.2.2 i a1.1 a1.2).2 lo up hv).2
      · rw [x7 c, y7 c]; exact hp.2
      · rw [x8 c, y8 c]
theorem stF_cg {f g : Int → Int} {h : Int} : ∀ k : Nat, (∀ d, 0 ≤ d → d < (k : Int) → g d = f d) → stF g h k = stF f h k := by
  intro k
  unfold stF
  induction k with
  | zero => intro _; rfl
  | succ k ih =>
    intro hg
    rw [sumI, sumI, ih (fun d a b => hg d a (by omega)), hg k (by omega) (by omega)]
theorem q_stands {M M' M'' : Mm} {e d : Nat} {i z z' : Int} (h : Cpl M e d) (a : (¬ (0 ≤ i ∧ i < M e 7) ∧ z = -2 ∧ M' = M) ∨ ((0 ≤ i ∧ i < M e 7) ∧ Frs M M' e ∧ z = stF (M' 51) i (M' e 7).toNat)) (b : (¬ (0 ≤ i ∧ i < M' 66 24) ∧ z' = -2 ∧ M'' = M') ∨ ((0 ≤ i ∧ i < M' 66 24) ∧ Tfs M' M'' ∧ z' = stF (M'' 95) i (M'' 66 24).toNat)) : z = z' ∧ Cpl M'' e d := by
  have n := h.n
  have he := h.he
  rw [n.1] at a
  rcases a with ⟨a1, a2, a3⟩ | ⟨a1, a2, a3⟩
  · subst a3
    rcases b with ⟨b1, b2, b3⟩ | ⟨b1, b2⟩
    · subst b3; exact ⟨by rw [a2, b2], h⟩
    · exact absurd b1 a1
  · have e66 : M' 66 = M 66 := a2.1 66 (by decide)
    rw [e66] at b
    rcases b with ⟨b1, b2, b3⟩ | ⟨b1, b2, b3⟩
    · exact absurd a1 b1
    · obtain ⟨c1, c2, c3⟩ := h.both (by omega) a2 b2
      obtain ⟨e24, e7, hd, r, r1, r2, r3⟩ := h.one (by omega) a2 b2
      refine ⟨?_, c1⟩
      rw [a3, b3, ← b2.lo 51 (by decide), ← b2.lo e (by omega), e7, e24]
      exact (stF_cg _ (fun q x y => hd q x (by omega))).symm
theorem q_count {M M' M'' : Mm} {e d : Nat} {w z z' : Int} (h : Cpl M e d) (a : (w ≠ 7 ∧ M' = M ∧ cntX M e w z) ∨ (w = 7 ∧ ((M e 7 = 0 ∧ z = -1 ∧ M' = M) ∨ (M e 7 ≠ 0 ∧ Frs M M' e ∧ z = M' 50 4)))) (b : (w ≠ 7 ∧ M'' = M' ∧ cntR M' w z') ∨ (w = 7 ∧ M' 66 24 = 0 ∧ z' = -1 ∧ M'' = M') ∨ (w = 7 ∧ M' 66 24 ≠ 0 ∧ ∃ r, Tfs M' M'' ∧ TT (M'' 95) (M'' 66 24) r ∧ z' = r)) : z = z' ∧ Cpl M'' e d := by
  have n := h.n
  rcases a with ⟨a1, a2, a3⟩ | ⟨a1, ⟨a2, a3, a4⟩ | ⟨a2, a3, a4⟩⟩
  · subst a2
    rcases b with ⟨b1, b2, b3⟩ | ⟨b1, _⟩ | ⟨b1, _⟩
    · subst b2
      refine ⟨?_, h⟩
      have wc : w = 0 ∨ w = 1 ∨ w = 2 ∨ w = 3 ∨ w = 4 ∨ w = 5 ∨ w = 6 ∨ ((10 ≤ w ∧ w ≤ 13) ∧ 0 ≤ w - 10 ∧ w - 10 < 4) ∨ (w < 0 ∨ (7 < w ∧ w < 10) ∨ 13 < w) := by clear a3 b3 h; omega
      have nc : M'' 66 24 = 0 ∨ 1 ≤ M'' 66 24 := by clear a3 b3 h; omega
      obtain ⟨x0, x1, x2, x3, x4, x5, x6, x7, x8⟩ := a3
      obtain ⟨y0, y1, y2, y3, y4, y5, y6, y7, y8⟩ := b3
      obtain ⟨_, _, k1, ⟨k2, k3, k4, k5⟩, k6, k7, k8, k9, k10⟩ := h
      rcases wc with c | c | c | c | c | c | c | c | c
      · rw [x0 c, y0 c]; exact n.1
      · rw [x1 c, y1 c, n.1]
        rcases nc with q | q
        · rw [if_pos q, if_pos q]
        · rw [k7.2.2.2 q]
      · rw [x2 c, y2 c]; exact k2.1
      · rw [x3 c, y3 c]; exact k3.1
      · rw [x4 c, y4 c]; exact k4.1
      · rw [x5 c, y5 c]; exact k8.1
      · rw [x6 c, y6 c]; exact k1.1
      · rw [x7 c.1, y7 c.1]; exact k6 (w - 10) c.2.1 c.2.2
      · rw [x8 c, y8 c]
    · exact absurd b1 a1
    · exact absurd b1 a1
  · subst a4
    rcases b with ⟨b1, _⟩ | ⟨b1, b2, b3, b4⟩ | ⟨b1, b2, _⟩
    · exact absurd a1 b1
    · subst b4; exact ⟨by rw [a3, b3], h⟩
    · exact absurd (n.1.symm.trans a2) b2
  · have e66 : M' 66 = M 66 := a3.1 66 (by decide)
    rw [e66] at b
    rcases b with ⟨b1, _⟩ | ⟨b1, b2, b3, b4⟩ | ⟨b1, b2, r', b3, b4, b5⟩
    · exact absurd a1 b1
    · exact absurd (n.1.trans b2) a2
    · obtain ⟨c1, c2, c3⟩ := h.both (by omega) a3 b3
      obtain ⟨e24, e7, hd, r, r1, r2, r3⟩ := h.one (by omega) a3 b3
      rw [e24] at b4
      exact ⟨by rw [a4, b5, ← b3.lo 50 (by decide), r2, r3 r' b4], c1⟩
