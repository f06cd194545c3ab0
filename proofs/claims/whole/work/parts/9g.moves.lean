/-! MOVE, ARRANGE: answers and coupling -/
theorem q_move {M M' M'' : Mm} {e d : Nat} {t f z z' : Int} (h : Cpl M e d) (a : (¬ ((0 ≤ t ∧ t < M e 7) ∧ 0 ≤ f ∧ f ≤ M e 7) ∧ z = -2 ∧ M' = M) ∨ (((0 ≤ t ∧ t < M e 7) ∧ 0 ≤ f ∧ f ≤ M e 7) ∧ ∃ M1 r l u, Frs M M1 e ∧ TT (M1 51) (M e 7) r ∧ Iv (M1 51) (M e 7) r t l u ∧ ((l ≤ f ∧ f ≤ u ∧ z = -2 ∧ M' = M1) ∨ (¬ (l ≤ f ∧ f ≤ u) ∧ MvP M1 M' (M e 7) z (mvA (M1 41) l u f))))) (b : (¬ ((0 ≤ t ∧ t < M' 66 24) ∧ 0 ≤ f ∧ f ≤ M' 66 24) ∧ z' = -2 ∧ M'' = M') ∨ (((0 ≤ t ∧ t < M' 66 24) ∧ 0 ≤ f ∧ f ≤ M' 66 24) ∧ ∃ M1 r l u, Tfs M' M1 ∧ TT (M1 95) (M' 66 24) r ∧ Iv (M1 95) (M' 66 24) r t l u ∧ ((l ≤ f ∧ f ≤ u ∧ z' = -2 ∧ M'' = M1) ∨ (¬ (l ≤ f ∧ f ≤ u) ∧ MvR M1 M'' (M' 66 24) z' (mvA (M1 85) l u f))))) : z = z' ∧ Cpl M'' e d := by
  have n := h.n
  rw [n.1] at a
  rcases a with ⟨a1, a2, a3⟩ | ⟨a1, M1, r, l, u, fr, T, iv, a2⟩
  · subst a3
    rcases b with ⟨b1, b2, b3⟩ | ⟨b1, _⟩
    · subst b3; exact ⟨by rw [a2, b2], h⟩
    · exact absurd b1 a1
  · have hi : ∀ q : Nat, q ∉ [0, 40, 41, 42] → M' q = M1 q := by
      intro q hq
      rcases a2 with ⟨_, _, _, a⟩ | ⟨_, a⟩
      · rw [a]
      · exact a.1 q hq
    have s : ∀ q, 66 ≤ q → M' q = M1 q := fun q hq => hi q (by simp only [List.mem_cons, List.not_mem_nil, or_false]; omega)
    have e66 : M' 66 = M 66 := by rw [hi 66 (by decide), fr.1 66 (by decide)]
    rw [e66] at b
    rcases b with ⟨b1, _⟩ | ⟨_, N1, r', l', u', tf, T', iv', b2⟩
    · exact absurd a1 b1
    · obtain ⟨o, o41, o55, o7, hC⟩ := ord_OHu h (by omega) fr s tf
      have er : r' = r := T.root T' o.2.1
      subst er
      have lu := iv.uq ((Iv_cg T o.2.1).2 iv')
      obtain ⟨el, eu⟩ := lu
      subst el
      subst eu
      have lo := tf.lo
      have u0 : ∀ q : Nat, q < 66 → uM M1 N1 q = M1 q := fun q hq => by unfold uM; rw [if_pos hq]
      have u1 : ∀ q : Nat, 66 ≤ q → uM M1 N1 q = N1 q := fun q hq => by unfold uM; rw [if_neg (by omega)]
      rcases a2 with ⟨p1, p2, p3, p4⟩ | ⟨p1, p2⟩
      · rcases b2 with ⟨q1, q2, q3, q4⟩ | ⟨q1, _⟩
        · refine ⟨by rw [p3, q3], ?_⟩
          have ee : uM M1 N1 = N1 := by
            funext q
            by_cases c : q < 66
            · rw [u0 q c, lo q c, p4]
            · rw [u1 q (by omega)]
          rw [q4, ← ee]
          exact hC
        · exact absurd ⟨p1, p2⟩ q1
      · rcases b2 with ⟨q1, q2, _⟩ | ⟨q1, q2⟩
        · exact absurd ⟨q1, q2⟩ p1
        · have tf2 := q2.tf tf.2.2.2
          obtain ⟨x1, x2, x3, x4, x5, x6⟩ := p2
          obtain ⟨y1, y2, y3, y4, y5, y6⟩ := q2
          have pm : Pmt (M 66 24) (mvA (fun x => x) l u f) := by
            have := iv.1
            exact mvA_pm (by omega) a1.2 p1
          have h85 := o.2.2.2.1
          refine ⟨?_, hC.mvd (p := mvA (fun x => x) l u f) (by rw [u1 66 (by decide), o.1]; exact pm) (fun q hq => ?_) (fun k hk => ?_) (fun k hk => ?_) ?_ ?_ (fun i i0 i1 => ?_) (fun i i0 i1 => ?_) ?_ tf2⟩
          · rw [x6, y6]
            refine cntB_congr _ (fun i i0 i1 => ?_)
            have q := pm.1 i i0 (by omega)
            rw [mvA_id, mvA_id (N1 85), h85 i i0 (by omega), h85 _ q.1 q.2]
          · simp only [List.mem_cons, List.not_mem_nil, or_false] at hq
            rw [y1 q (by simp only [List.mem_cons, List.not_mem_nil, or_false]; omega)]
            by_cases c : q < 66
            · rw [u0 q c, lo q c, hi q (by simp only [List.mem_cons, List.not_mem_nil, or_false]; omega)]
            · rw [u1 q (by omega)]
          · simp only [List.mem_cons, List.not_mem_nil, or_false] at hk
            rw [y2 k (by omega), u1 66 (by decide)]
          · rw [y1 0 (by decide), lo 0 (by decide), x2 k hk, u0 0 (by decide)]
          · rw [y1 0 (by decide), lo 0 (by decide), x3]
          · rw [y1 40 (by decide), lo 40 (by decide), x4, u0 40 (by decide)]
          · rw [u1 66 (by decide), o.1] at i1
            rw [y1 41 (by decide), lo 41 (by decide), x5 i i0 i1, u0 41 (by decide), mvA_id]
          · rw [u1 66 (by decide), o.1] at i1
            rw [y4 i i0 i1, u1 85 (by decide), mvA_id]
          · rw [y1 58 (by decide), lo 58 (by decide), hi 58 (by decide), u0 58 (by decide)]
theorem q_arrange {M M' M'' : Mm} {e d : Nat} {g z z' : Int} (h : Cpl M e d) (a : (¬ (0 ≤ g ∧ g < M e 7) ∧ z = -2 ∧ M' = M) ∨ ((0 ≤ g ∧ g < M e 7) ∧ ∃ M1 r, Frs M M1 e ∧ BnT M1 (M e 7) r ∧ ((9 < bHu (M1 51) g (M e 7).toNat ∧ z = -1 ∧ M' = M1) ∨ (bHu (M1 51) g (M e 7).toNat ≤ 9 ∧ ∃ al be M2 M3, XKp M1 M2 M3 (M e 7) g al be ∧ ((268435456 ≤ M3 63 0 ∧ z = -1 ∧ M' = M3) ∨ (M3 63 0 < 268435456 ∧ oRow M2 (M3 63) (M3 64) ∧ ∃ l u, Iv (M1 51) (M e 7) r g l u ∧ MvP M3 M' (M e 7) z (arF (M3 41) l (xoF M2 M3) (xoS M2 M3) (M2 58 8).toNat))))))) (b : (¬ (0 ≤ g ∧ g < M' 66 24) ∧ z' = -2 ∧ M'' = M') ∨ ((0 ≤ g ∧ g < M' 66 24) ∧ ∃ M1 r, Tfs M' M1 ∧ TT (M1 95) (M1 66 24) r ∧ ((9 < bHu (M1 95) g (M1 66 24).toNat ∧ z' = -1 ∧ M'' = M1) ∨ (bHu (M1 95) g (M1 66 24).toNat ≤ 9 ∧ ∃ al be M2 M3, RKp M1 M2 M3 r g al be ∧ ((1000000 ≤ M3 103 0 ∧ z' = -1 ∧ M'' = M3) ∨ (M3 103 0 < 1000000 ∧ rRow M2 (M3 103) (M3 105) (M2 66 47).toNat ∧ ∃ l u, Iv (M1 95) (M1 66 24) r g l u ∧ MvR M3 M'' (M' 66 24) z' (arF (M3 85) l (roF M2 M3) (roS M2 M3) (M2 66 47).toNat))))))) : z = z' ∧ Cpl M'' e d := by
  have n := h.n
  rw [n.1] at a
  rcases a with ⟨a1, a2, a3⟩ | ⟨a1, M1, r, f, bn, a2⟩
  · subst a3
    rcases b with ⟨b1, b2, b3⟩ | ⟨b1, _⟩
    · subst b3; exact ⟨by rw [a2, b2], h⟩
    · exact absurd b1 a1
  · have hi : ∀ q : Nat, q ∉ [0, 40, 41, 42] → ¬ (58 ≤ q ∧ q ≤ 64) → M' q = M1 q := by
      intro q hq hq2
      rcases a2 with ⟨_, _, a⟩ | ⟨_, al, be, M2, M3, x, ⟨_, _, a⟩ | ⟨_, _, l, u, _, a⟩⟩
      · rw [a]
      · rw [a, x.sm.1 q (by omega)]
      · rw [a.1 q hq, x.sm.1 q (by omega)]
    have s : ∀ q, 66 ≤ q → M' q = M1 q := fun q hq => hi q (by simp only [List.mem_cons, List.not_mem_nil, or_false]; omega) (by omega)
    have e66 : M' 66 = M 66 := by rw [s 66 (by decide), f.1 66 (by decide)]
    rw [e66] at b
    rcases b with ⟨b1, _⟩ | ⟨_, N1, r', t, hT, b2⟩
    · exact absurd a1 b1
    · obtain ⟨o, o41, o55, o7, hC⟩ := ord_OHu h (by omega) f s t
      have eb : bHu (N1 95) g (N1 66 24).toNat = bHu (M1 51) g (M 66 24).toNat := by
        rw [o.1]
        exact bHu_cg o.2.1 _ (by omega)
      have lo := t.lo
      have u0 : ∀ q : Nat, q < 66 → uM M1 N1 q = M1 q := fun q hq => by unfold uM; rw [if_pos hq]
      have u1 : ∀ q : Nat, 66 ≤ q → uM M1 N1 q = N1 q := fun q hq => by unfold uM; rw [if_neg (by omega)]
      rw [eb] at b2
      rcases a2 with ⟨p1, p2, p3⟩ | ⟨p1, al, be, M2, M3, x, p2⟩
      · rcases b2 with ⟨q1, q2, q3⟩ | ⟨q1, _⟩
        · refine ⟨by rw [p2, q2], ?_⟩
          have ee : uM M1 N1 = N1 := by
            funext q
            by_cases c : q < 66
            · rw [u0 q c, lo q c, p3]
            · rw [u1 q (by omega)]
          rw [q3, ← ee]
          exact hC
        · exact absurd p1 (by omega)
      · rcases b2 with ⟨q1, _⟩ | ⟨q1, al', be', N2, N3, y, q2⟩
        · exact absurd p1 (by omega)
        · obtain ⟨an1, an2, an3⟩ := ord_ansu h a1 f bn p1 x s t hT y
          obtain ⟨xs1, xs2⟩ := x.sm
          obtain ⟨ys1, ys2⟩ := y.sm
          rcases p2 with ⟨p3, p4, p5⟩ | ⟨p3, p4, l, u, iv, p5⟩
          · rcases q2 with ⟨q3, q4, q5⟩ | ⟨q3, _⟩
            · refine ⟨by rw [p4, q4], hC.tod (fun q hq => ?_) (fun k hk => ?_) ?_ ?_⟩
              · simp only [List.mem_cons, List.not_mem_nil, or_false] at hq
                rw [q5, ys1 q (by simp only [List.mem_cons, List.not_mem_nil, or_false]; omega)]
                by_cases c : q < 66
                · rw [u0 q c, lo q c, p5, xs1 q (by omega)]
                · rw [u1 q (by omega)]
              · simp only [List.mem_cons, List.not_mem_nil, or_false] at hk
                rw [q5, ys2 k (by omega), u1 66 (by decide)]
              · rw [q5, ys1 58 (by decide), lo 58 (by decide), p5, xs2, ← u0 58 (by decide)]
                exact hC.1.2.2.2.2.2.2.2.1
              · refine hC.2.2.2.2.2.2.2.1.cg ?_ ?_ ?_ ?_
                · rw [q5, ys1 58 (by decide), lo 58 (by decide), p5, xs2, u0 58 (by decide)]
                · rw [q5, ys1 65 (by decide), lo 65 (by decide), p5, xs1 65 (by decide), u0 65 (by decide)]
                · rw [q5, ys1 104 (by decide), u1 104 (by decide)]
                · rw [q5, ys2 52 (by decide), u1 66 (by decide)]
            · exfalso; omega
          · rcases q2 with ⟨q3, _⟩ | ⟨q3, q4, l', u', iv', q5⟩
            · exfalso; omega
            · have w := an3 p3 p4 q4
              rw [o.1] at hT iv'
              have er : r' = r := bn.2.1.root hT o.2.1
              subst er
              obtain ⟨el, eu⟩ := iv.uq ((Iv_cg bn.2.1 o.2.1).2 iv')
              subst el
              subst eu
              have pm : Pmt (M 66 24) (arF (fun x => x) l (xoF M2 M3) (xoS M2 M3) (M2 58 8).toNat) := ar_pm bn a1 p1 x.1 iv x.2.2 p3 p4
              have hT3 : TF N3 := t.2.2.2.sm (fun q hq => ys1 q (by simp only [List.mem_cons, List.not_mem_nil, or_false] at hq ⊢; omega)) (fun k hk => ys2 k (by simp only [List.mem_cons, List.not_mem_nil, or_false] at hk; omega))
              have tf2 := q5.tf hT3
              obtain ⟨x1, x2, x3, x4, x5, x6⟩ := p5
              obtain ⟨y1, y2, y3, y4, y5, y6⟩ := q5
              have h85 := o.2.2.2.1
              have m41 : M3 41 = M1 41 := xs1 41 (by decide)
              have n85 : N3 85 = N1 85 := ys1 85 (by decide)
              have eg : ∀ i, arF (N3 85) l (roF N2 N3) (roS N2 N3) (N2 66 47).toNat i = arF (N3 85) l (xoF M2 M3) (xoS M2 M3) (M2 58 8).toNat i := by
                rw [← an1]
                exact arF_cg _ (fun j hj => by have q := w (j : Int) (by omega) (by omega); exact ⟨q.2.1.symm, q.2.2.symm⟩)
              clear w an3
              refine ⟨?_, hC.mvd (p := arF (fun x => x) l (xoF M2 M3) (xoS M2 M3) (M2 58 8).toNat) (by rw [u1 66 (by decide), o.1]; exact pm) (fun q hq => ?_) (fun k hk => ?_) (fun k hk => ?_) ?_ ?_ (fun i i0 i1 => ?_) (fun i i0 i1 => ?_) ?_ tf2⟩
              · rw [x6, y6]
                refine cntB_congr _ (fun i i0 i1 => ?_)
                have q := pm.1 i i0 (by omega)
                rw [eg, arF_id, arF_id (a := N3 85), m41, n85, h85 i i0 (by omega), h85 _ q.1 q.2]
              · simp only [List.mem_cons, List.not_mem_nil, or_false] at hq
                rw [y1 q (by simp only [List.mem_cons, List.not_mem_nil, or_false]; omega), ys1 q (by simp only [List.mem_cons, List.not_mem_nil, or_false]; omega)]
                by_cases c : q < 66
                · rw [u0 q c, lo q c, hi q (by simp only [List.mem_cons, List.not_mem_nil, or_false]; omega) (by omega)]
                · rw [u1 q (by omega)]
              · simp only [List.mem_cons, List.not_mem_nil, or_false] at hk
                rw [y2 k (by omega), ys2 k (by omega), u1 66 (by decide)]
              · rw [y1 0 (by decide), ys1 0 (by decide), lo 0 (by decide), x2 k hk, xs1 0 (by decide), u0 0 (by decide)]
              · rw [y1 0 (by decide), ys1 0 (by decide), lo 0 (by decide), x3]
              · rw [y1 40 (by decide), ys1 40 (by decide), lo 40 (by decide), x4, xs1 40 (by decide), u0 40 (by decide)]
              · rw [u1 66 (by decide), o.1] at i1
                rw [y1 41 (by decide), ys1 41 (by decide), lo 41 (by decide), x5 i i0 i1, u0 41 (by decide), arF_id, m41]
              · rw [u1 66 (by decide), o.1] at i1
                rw [y4 i i0 i1, u1 85 (by decide), eg, arF_id, n85]
              · rw [y1 58 (by decide), ys1 58 (by decide), lo 58 (by decide), x1 58 (by decide), xs2, u0 58 (by decide)]
