/-! FINDING and MARKS on both sides -/
theorem Bz.uq {b c : Int} {P Q : Prop} (h : Bz b P) (h' : Bz c Q) (g : P ↔ Q) : b = c := by
  rcases h with ⟨h1, h2⟩ | ⟨h1, h2⟩
  · rcases h' with ⟨k1, k2⟩ | ⟨k1, k2⟩
    · rw [h1, k1]
    · exact absurd (g.1 h2) k2
  · rcases h' with ⟨k1, k2⟩ | ⟨k1, k2⟩
    · exact absurd (g.2 k2) h2
    · rw [h1, k1]
theorem Fsh.sym {M : Mm} {e : Nat} (h : Fsh M e) {i j : Int} (hi : 0 ≤ i ∧ i < M 66 24) (hj : 0 ≤ j ∧ j < M 66 24) : M 34 (M 41 j * 24 + M 41 i) = M 34 (M 41 i * 24 + M 41 j) := by
  obtain ⟨he, hT, hE, hW, hR, hr, _, hn, hF, hK⟩ := h
  have e1 := (hE.2.2.1 i hi.1 hi.2).2
  have e2 := (hE.2.2.1 j hj.1 hj.2).2
  have s1 := hr.2.2 i hi.1 hi.2
  have s2 := hr.2.2 j hj.1 hj.2
  rw [e1, e2]
  by_cases c : M 85 j ≤ M 85 i
  · have q := hF.2.2.1 (M 85 i) (M 85 j) s2.1 c (by rw [hE.1]; exact s1.2)
    rw [q.1, q.2]
  · have q := hF.2.2.1 (M 85 j) (M 85 i) s1.1 (by omega) (by rw [hE.1]; exact s2.2)
    rw [q.1, q.2]
theorem FnX_lo {M M' : Mm} {e : Nat} {i b1 b2 b3 b4 b5 : Int} (he : e < 66) (l : ∀ a, a < 66 → M' a = M a) (h : FnX M e i b1 b2 b3 b4 b5) : FnX M' e i b1 b2 b3 b4 b5 := by
  unfold FnX supX twX stX kX at *
  rw [l 31 (by decide), l 32 (by decide), l 33 (by decide), l 34 (by decide), l 35 (by decide), l 41 (by decide), l 51 (by decide), l 52 (by decide), l e he]
  exact h
theorem Fn_eq {M : Mm} {e : Nat} {r i b1 b2 b3 b4 b5 c1 c2 c3 c4 c5 : Int} (h : Fsh M e) (tr : ∀ q, 0 ≤ q → q < M 66 24 → M 95 q = M 51 q) (bn : BnT M (M 66 24) r) (hi : 0 ≤ i ∧ i < M 66 24) (a : FnX M e i b1 b2 b3 b4 b5) (b : FnR M i c1 c2 c3 c4 c5) : b1 = c1 ∧ b2 = c2 ∧ b3 = c3 ∧ b4 = c4 ∧ b5 = c5 := by
  obtain ⟨a1, a2, a3, a4, a5⟩ := a
  obtain ⟨d1, d2, d3, d4, d5⟩ := b
  have e7 : M e 7 = M 66 24 := h.2.2.1.1
  have kd : ∀ q, 0 ≤ q → q < M 66 24 → kX M q = M 89 q := fun q q0 q1 => h.kind ⟨q0, q1⟩
  have ki := kd i hi.1 hi.2
  rw [ki] at a1 a2 a5
  rw [e7] at a1
  refine ⟨a1.uq d1 ?_, a2.uq d2 ?_, a3.uq d3 ?_, a4.uq d4 (h.stale hi), a5.uq d5 ?_⟩
  · have s : supX M i (M 66 24) ↔ supR M i (M 66 24) := by
      constructor
      · rintro ⟨q, q0, q1, q2, q3⟩
        exact ⟨q, q0, q1, by rw [tr q q0 q1]; exact q2, by rw [← kd q q0 q1]; exact q3⟩
      · rintro ⟨q, q0, q1, q2, q3⟩
        exact ⟨q, q0, q1, by rw [← tr q q0 q1]; exact q2, by rw [kd q q0 q1]; exact q3⟩
    unfold baR
    rw [s]
  · unfold opR
    rw [(bn.2.2 i hi.1 hi.2).1, bHu_cg tr (M 66 24).toNat (by omega)]
  · have hb : 0 ≤ M 88 i := (((h.2.2.2.2.2.2.2.2.2.1 i hi.1 hi.2)).B h.2.2.2.2.2.1 hi).1.1
    have hc := h.cnt hi
    have ti := tr i hi.1 hi.2
    rw [hc]
    unfold twR
    constructor
    · rintro ⟨g1, g2, q, q0, q1, q2, q3⟩
      have qn : q < M 66 24 := by omega
      rw [hc, h.sym hi ⟨q0, qn⟩, h.sh hi ⟨q0, qn⟩] at q3
      exact ⟨q, q0, qn, q1, by rw [ti]; exact g1, by rw [ti, tr q q0 qn]; exact q2, by omega, q3⟩
    · rintro ⟨q, q0, qn, q1, g1, q2, g2, q3⟩
      rw [ti] at g1 q2
      rw [tr q q0 qn] at q2
      refine ⟨g1, by omega, q, q0, q1, q2, ?_⟩
      rw [hc, h.sym hi ⟨q0, qn⟩, h.sh hi ⟨q0, qn⟩]
      exact q3
  · constructor
    · rintro ⟨g1, g2⟩
      exact ⟨g1, by omega, by omega⟩
    · rintro ⟨g1, g2, g3⟩
      exact ⟨g1, by omega⟩
theorem Cpl.fns {M M' M'' : Mm} {e d : Nat} {i b1 b2 b3 b4 b5 c1 c2 c3 c4 c5 : Int} (h : Cpl M e d) (f : Frs M M' e) (t : Tfs M' M'') (hi : 0 ≤ i ∧ i < M 66 24) (a : FnX M' e i b1 b2 b3 b4 b5) (b : FnR M'' i c1 c2 c3 c4 c5) : b1 = c1 ∧ b2 = c2 ∧ b3 = c3 ∧ b4 = c4 ∧ b5 = c5 := by
  have hn : 1 ≤ M 66 24 := by omega
  obtain ⟨_, g2, _⟩ := h.both hn f t
  obtain ⟨o1, o2, o3, r, o4, _⟩ := h.one hn f t
  have he := h.he
  rw [← o1] at o3 o4 hi
  exact Fn_eq g2 o3 o4 hi (FnX_lo (by omega) t.lo a) b
theorem q_finding {M M' M'' : Mm} {e d : Nat} {i z z' : Int} (h : Cpl M e d) (a : (¬ (0 ≤ i ∧ i < M e 7) ∧ z = -2 ∧ M' = M) ∨ ((0 ≤ i ∧ i < M e 7) ∧ Frs M M' e ∧ FndX M' e i z)) (b : (¬ (0 ≤ i ∧ i < M' 66 24) ∧ z' = -2 ∧ M'' = M') ∨ ((0 ≤ i ∧ i < M' 66 24) ∧ Tfs M' M'' ∧ FndR M'' i z')) : z = z' ∧ Cpl M'' e d := by
  have n := h.n
  rw [n.1] at a
  rcases a with ⟨a1, a2, a3⟩ | ⟨a1, a2, a3⟩
  · subst a3
    rcases b with ⟨b1, b2, b3⟩ | ⟨b1, _⟩
    · subst b3; exact ⟨by rw [a2, b2], h⟩
    · exact absurd b1 a1
  · have e66 : M' 66 = M 66 := a2.1 66 (by decide)
    rw [e66] at b
    rcases b with ⟨b1, _⟩ | ⟨_, b2, b3⟩
    · exact absurd a1 b1
    · refine ⟨?_, (h.frs a2).tfs b2⟩
      obtain ⟨x1, x2, x3, x4, x5, x6, x7⟩ := a3
      obtain ⟨y1, y2, y3, y4, y5, y6, y7⟩ := b3
      obtain ⟨g1, g2, g3, g4, g5⟩ := h.fns a2 b2 a1 x6 y6
      rw [x7, y7, g1, g2, g3, g4, g5]
theorem q_marks {M M' M'' : Mm} {e d : Nat} {a1 a2 a3 a4 a5 z z' : Int} (h : Cpl M e d) (a : (¬ (okP a1 ∧ okP a2 ∧ okP a3 ∧ okP a4 ∧ okP a5) ∧ z = -2 ∧ M' = M) ∨ ((okP a1 ∧ okP a2 ∧ okP a3 ∧ okP a4 ∧ okP a5) ∧ Frs M M' e ∧ ∃ g : Int → Int, (∀ i, 0 ≤ i → i < M e 7 → MkX M' e a1 a2 a3 a4 a5 i (g i)) ∧ z = sumI g (M e 7).toNat)) (b : (¬ (okP a1 ∧ okP a2 ∧ okP a3 ∧ okP a4 ∧ okP a5) ∧ z' = -2 ∧ M'' = M') ∨ ((okP a1 ∧ okP a2 ∧ okP a3 ∧ okP a4 ∧ okP a5) ∧ M' 66 24 = 0 ∧ z' = 0 ∧ M'' = M') ∨ ((okP a1 ∧ okP a2 ∧ okP a3 ∧ okP a4 ∧ okP a5) ∧ M' 66 24 ≠ 0 ∧ Tfs M' M'' ∧ ∃ g : Int → Int, (∀ i, 0 ≤ i → i < M' 66 24 → MkV M'' a1 a2 a3 a4 a5 i (g i)) ∧ z' = sumI g (M' 66 24).toNat)) : z = z' ∧ Cpl M'' e d := by
  have n := h.n
  rw [n.1] at a
  generalize (okP a1 ∧ okP a2 ∧ okP a3 ∧ okP a4 ∧ okP a5) = P at a b
  rcases a with ⟨p1, p2, p3⟩ | ⟨p1, p2, g, p3, p4⟩
  · rcases b with ⟨q1, q2, q3⟩ | ⟨q1, _⟩ | ⟨q1, _⟩
    · exact ⟨by rw [p2, q2], by rw [q3, p3]; exact h⟩
    · exact absurd q1 p1
    · exact absurd q1 p1
  · have e66 : M' 66 = M 66 := p2.1 66 (by decide)
    rw [e66] at b
    rcases b with ⟨q1, _⟩ | ⟨_, q2, q3, q4⟩ | ⟨_, q2, q3, g', q4, q5⟩
    · exact absurd p1 q1
    · refine ⟨?_, by rw [q4]; exact h.frs p2⟩
      rw [p4, q2, q3]
      rfl
    · refine ⟨?_, (h.frs p2).tfs q3⟩
      rw [p4, q5]
      refine sumI_cg _ (fun i i0 i1 => ?_)
      have hi : 0 ≤ i ∧ i < M 66 24 := by omega
      obtain ⟨x1, x2, x3, x4, x5, x6, x7⟩ := p3 i hi.1 hi.2
      obtain ⟨y1, y2, y3, y4, y5, y6, y7⟩ := q4 i hi.1 hi.2
      obtain ⟨g1, g2, g3, g4, g5⟩ := h.fns p2 q3 hi x6 y6
      rw [x7, y7, g1, g2, g3, g4, g5]
