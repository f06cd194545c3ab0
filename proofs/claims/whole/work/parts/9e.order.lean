/-! ORDER on both sides -/
def uM (M1 N1 : Mm) : Mm := fun a => if a < 66 then M1 a else N1 a
theorem uM_t {M1 M' N1 : Mm} (s : ∀ a, 66 ≤ a → M' a = M1 a) (t : Tfs M' N1) : Tfs M1 (uM M1 N1) := by
  have v : ∀ a : Nat, 66 ≤ a → uM M1 N1 a = N1 a := fun a ha => by unfold uM; rw [if_neg (by omega)]
  refine ⟨fun a ha => ?_, fun k x y w => ?_, ?_, ?_⟩
  · by_cases c : a < 66
    · unfold uM; rw [if_pos c]
    · rw [v a (by omega), t.1 a ha, s a (by omega)]
  · rw [v 66 (by decide), t.2.1 k x y w, s 66 (by decide)]
  · rw [v 66 (by decide)]; exact t.2.2.1
  · exact t.2.2.2.sm (fun a ha => v a (by simp only [List.mem_cons, List.not_mem_nil, or_false] at ha; omega)) (fun k _ => by rw [v 66 (by decide)])
theorem ord_OHu {M M1 M' N1 : Mm} {e d : Nat} (h : Cpl M e d) (hn : 1 ≤ M 66 24) (f : Frs M M1 e) (s : ∀ a, 66 ≤ a → M' a = M1 a) (t : Tfs M' N1) : OH M1 N1 (M 66 24) (M 66 41) ∧ N1 66 41 = M 66 41 ∧ M1 55 2 = M 66 41 ∧ M1 e 7 = M 66 24 ∧ Cpl (uM M1 N1) e d := by
  have he := h.he
  have tv := uM_t s t
  have v : ∀ a : Nat, 66 ≤ a → uM M1 N1 a = N1 a := fun a ha => by unfold uM; rw [if_neg (by omega)]
  have c := h.frs f
  obtain ⟨c1, c2, c3⟩ := h.both hn f tv
  obtain ⟨e24, e7, hd, _⟩ := h.one hn f tv
  have m66 : M1 66 = M 66 := f.1 66 (by decide)
  have p66 : M' 66 = M1 66 := s 66 (by decide)
  have n1 := c.n
  rw [m66] at n1
  have hX := c.1.2.2.2.2.2.2.1.2.1
  have lo := tv.lo
  have pr := c.2.2.2.2.2.2.1
  have es := c.2.2.2.2.2.1
  have r : ∀ a : Nat, a ∉ tRows → 66 ≤ a → N1 a = M1 a := fun a x y => by rw [t.1 a x, s a y]
  unfold cPr at pr
  rw [m66] at pr
  refine ⟨⟨?_, fun q a b => ?_, ?_, fun i a b => ?_, fun i j a b x y => ?_, fun x a b => ?_, fun q a b => ?_⟩, ?_, pr.1, n1.1, c1⟩
  · rw [v 66 (by decide)] at e24; exact e24
  · have q2 := hd q a b
    rw [v 95 (by decide), lo 51 (by decide)] at q2
    exact q2
  · rw [hX.1]; exact n1.1
  · rw [r 85 (by decide) (by decide)]
    exact (es.2.2.1 i a (by rw [m66]; exact b)).2.symm
  · exact hX.2.2 i j a (by omega) x (by omega)
  · rw [r 96 (by decide) (by decide), r 97 (by decide) (by decide)]
    exact pr.2 x a b
  · have q2 := c2.kind (i := q) (by rw [e24]; exact ⟨a, b⟩)
    rw [lo 32 (by decide), lo 41 (by decide), v 89 (by decide)] at q2
    exact q2.symm
  · rw [t.2.1 41 (by decide) (by decide) (by decide), p66, m66]
theorem ord_ansu {M M1 M2 M3 M' N1 N2 N3 : Mm} {e d : Nat} {r r' g : Int} {al be al' be' : Int → Int} (h : Cpl M e d) (hg : 0 ≤ g ∧ g < M 66 24) (f : Frs M M1 e) (bn : BnT M1 (M 66 24) r) (h9 : bHu (M1 51) g (M 66 24).toNat ≤ 9) (x : XKp M1 M2 M3 (M 66 24) g al be) (s : ∀ a, 66 ≤ a → M' a = M1 a) (t : Tfs M' N1) (hT : TT (N1 95) (N1 66 24) r') (y : RKp N1 N2 N3 r' g al' be') : M2 58 8 = N2 66 47 ∧ ((M3 63 0 = 268435456 ∧ N3 103 0 = 1000000) ∨ (M3 63 0 ≤ 10000 ∧ N3 103 0 = M3 63 0)) ∧ (M3 63 0 < 268435456 → oRow M2 (M3 63) (M3 64) → rRow N2 (N3 103) (N3 105) (N2 66 47).toNat → ∀ k : Int, 0 ≤ k → k < M2 58 8 → M2 59 (M3 64 k) = N2 98 (N3 105 k) ∧ xoF M2 M3 k = roF N2 N3 k ∧ xoS M2 M3 k = roS N2 N3 k) := by
  obtain ⟨o, o41, o55, o7, _⟩ := ord_OHu h (by omega) f s t
  have x1 := x.1
  have y1 := y.1
  rw [o55] at x1
  rw [o41] at y1
  have om := OM_mk bn hT hg h9 o x1 y1
  refine ⟨om.2.2.1, ord_eq om x.2.2 y.2.2, fun h0 hr hr' k k0 k1 => ?_⟩
  have w := (row_eq om x.2.2 y.2.2 h0 hr hr' (M2 58 8).toNat (by omega)).2 k.toNat (by omega)
  rw [Int.toNat_of_nonneg k0] at w
  have q := (hr k.toNat (by omega)).1
  rw [Int.toNat_of_nonneg k0] at q
  have u := om.2.2.2.1 (M3 64 k) q.1 q.2
  unfold xoF roF xoS roS
  rw [w, u.2.1, u.2.2.1, u.2.2.2.1]
  exact ⟨rfl, by omega, rfl⟩
theorem XKp.sm {M1 M2 M3 : Mm} {n g : Int} {al be : Int → Int} (x : XKp M1 M2 M3 n g al be) : (∀ q : Nat, ¬ (58 ≤ q ∧ q ≤ 64) → M3 q = M1 q) ∧ M3 58 7 = M1 58 7 := by
  obtain ⟨⟨⟨B, u, sB⟩, _⟩, s3, _⟩ := x
  refine ⟨fun q hq => ?_, ?_⟩
  · rw [s3 q (by simp only [List.mem_cons, List.not_mem_nil, or_false]; omega), sB q (by simp only [List.mem_cons, List.not_mem_nil, or_false]; omega), u.1 q (by simp only [List.mem_cons, List.not_mem_nil, or_false]; omega)]
  · rw [s3 58 (by decide), sB 58 (by decide), u.2.1 7 (by decide) (by decide)]
theorem RKp.sm {N1 N2 N3 : Mm} {r g : Int} {al be : Int → Int} (y : RKp N1 N2 N3 r g al be) : (∀ q : Nat, q ∉ [66, 98, 99, 100, 101, 102, 103, 105] → N3 q = N1 q) ∧ ∀ k : Int, k ≠ 47 → N3 66 k = N1 66 k := by
  obtain ⟨⟨⟨B, u, sB⟩, _⟩, s3, _⟩ := y
  refine ⟨fun q hq => ?_, fun k hk => ?_⟩
  · simp only [List.mem_cons, List.not_mem_nil, or_false] at hq
    rw [s3 q (by simp only [List.mem_cons, List.not_mem_nil, or_false]; omega), sB q (by simp only [List.mem_cons, List.not_mem_nil, or_false]; omega), u.1 q (by simp only [List.mem_cons, List.not_mem_nil, or_false]; omega)]
  · rw [s3 66 (by decide), sB 66 (by decide), u.2.1 k hk]
theorem Cpl.tod {M M'' : Mm} {e d : Nat} (h : Cpl M e d) (r : ∀ q : Nat, q ∉ [58, 59, 60, 61, 62, 63, 64, 65, 66, 98, 99, 100, 101, 102, 103, 104, 105] → M'' q = M q) (f : ∀ t : Int, t ∉ [47, 52] → M'' 66 t = M 66 t) (g58 : 0 ≤ M'' 58 7 ∧ M'' 58 7 ≤ 10) (c : cTo M'') : Cpl M'' e d := by
  have he := h.he
  have hX := h.1
  have hR := h.2.1
  exact ⟨⟨hX.1, ⟨by rw [(r 0 (by decide))]; exact hX.2.1.1, by rw [(r 0 (by decide))]; exact hX.2.1.2⟩, by rw [(r 1 (by decide))]; exact hX.2.2.1, ⟨hX.2.2.2.1.1.cg (r 3 (by decide)) (r 5 (by decide)), hX.2.2.2.1.2.1.cg (r 7 (by decide)) (r 9 (by decide)), hX.2.2.2.1.2.2.cg (r 11 (by decide)) (r 13 (by decide))⟩, by rw [(r 7 (by decide)), (r 10 (by decide))]; exact hX.2.2.2.2.1, by rw [(r 15 (by decide))]; exact hX.2.2.2.2.2.1, ⟨hX.2.2.2.2.2.2.1.1.cg (r e (by simp only [List.mem_cons, List.not_mem_nil, or_false]; omega)) (r (e + 2) (by simp only [List.mem_cons, List.not_mem_nil, or_false]; omega)) (r (e + 3) (by simp only [List.mem_cons, List.not_mem_nil, or_false]; omega)) (r (e + 4) (by simp only [List.mem_cons, List.not_mem_nil, or_false]; omega)) (r (e + 5) (by simp only [List.mem_cons, List.not_mem_nil, or_false]; omega)), plOk_cg hX.2.2.2.2.2.2.1.2.1 (r e (by simp only [List.mem_cons, List.not_mem_nil, or_false]; omega)) (r 40 (by decide)) (r 41 (by decide)), prOk_cg hX.2.2.2.2.2.2.1.2.2 (r e (by simp only [List.mem_cons, List.not_mem_nil, or_false]; omega)) (r 55 (by decide)) (r 56 (by decide)) (r 57 (by decide))⟩, g58, fun x => (hX.kf (by rw [(r 0 (by decide))] at x; exact x)).sm (fun q hq => r q (by simp only [List.mem_cons, List.not_mem_nil, or_false] at hq ⊢; omega)), fun x y => (hX.bf (by rw [(r 0 (by decide))] at x; exact x) (by rw [(r 0 (by decide))] at y; exact y)).sm (fun q hq => r q (by simp only [List.mem_cons, List.not_mem_nil, or_false] at hq ⊢; omega))⟩,
    ⟨by rw [(f 1 (by decide))]; exact hR.1, ⟨hR.2.1.1.cg (f 6 (by decide)) (r 70 (by decide)), hR.2.1.2.1.cg (f 10 (by decide)) (r 72 (by decide)), hR.2.1.2.2.cg (f 13 (by decide)) (r 75 (by decide))⟩, by rw [(f 10 (by decide)), (r 73 (by decide))]; exact hR.2.2.1, by unfold wgR; rw [(r 76 (by decide))]; exact hR.2.2.2.1, hR.2.2.2.2.1.cg (f 24 (by decide)) (r 78 (by decide)) (r 79 (by decide)) (r 85 (by decide)), hR.2.2.2.2.2.1.cg (f 24 (by decide)) (f 41 (by decide)) (r 96 (by decide)) (r 97 (by decide)), by rw [← c.1]; exact g58, fun x => (hR.tf (by rw [(f 32 (by decide))] at x; exact x)).sm (fun q hq => r q (by simp only [List.mem_cons, List.not_mem_nil, or_false] at hq ⊢; omega)) (fun j hj => f j (by simp only [List.mem_cons, List.not_mem_nil, or_false] at hj ⊢; omega))⟩,
    h.2.2.1.cg (r 1 (by decide)) (r 2 (by decide)) (r 67 (by decide)) (f 1 (by decide)), ⟨h.2.2.2.1.1.cg (r 3 (by decide)) (r 4 (by decide)) (r 5 (by decide)) (r 69 (by decide)) (r 70 (by decide)) (f 6 (by decide)), h.2.2.2.1.2.1.cg (r 7 (by decide)) (r 8 (by decide)) (r 9 (by decide)) (r 71 (by decide)) (r 72 (by decide)) (f 10 (by decide)), h.2.2.2.1.2.2.1.cg (r 11 (by decide)) (r 12 (by decide)) (r 13 (by decide)) (r 74 (by decide)) (r 75 (by decide)) (f 13 (by decide)), by rw [(r 10 (by decide)), (r 73 (by decide)), (f 10 (by decide))]; exact h.2.2.2.1.2.2.2⟩, by rw [(r 15 (by decide)), (r 76 (by decide))]; exact h.2.2.2.2.1, h.2.2.2.2.2.1.cg (fun q hq => r q (by simp only [List.mem_cons, List.not_mem_nil, or_false] at hq ⊢; omega)) (f 24 (by decide)) (f 25 (by decide)), h.2.2.2.2.2.2.1.cg (r 55 (by decide)) (r 56 (by decide)) (r 57 (by decide)) (r 96 (by decide)) (r 97 (by decide)) (f 41 (by decide)), c, by rw [(r 16 (by decide)), (f 26 (by decide)), (f 27 (by decide))]; exact h.2.2.2.2.2.2.2.2⟩
theorem q_order {M M' M'' : Mm} {e d : Nat} {g z z' : Int} (h : Cpl M e d) (a : (¬ (0 ≤ g ∧ g < M e 7) ∧ z = -2 ∧ M' = M) ∨ ((0 ≤ g ∧ g < M e 7) ∧ ∃ M1 r, Frs M M1 e ∧ BnT M1 (M e 7) r ∧ ((9 < bHu (M1 51) g (M e 7).toNat ∧ z = -1 ∧ M' = M1) ∨ (bHu (M1 51) g (M e 7).toNat ≤ 9 ∧ ∃ al be M2 M3, XKp M1 M2 M3 (M e 7) g al be ∧ ((268435456 ≤ M3 63 0 ∧ z = -1 ∧ M' = M3) ∨ (M3 63 0 < 268435456 ∧ oRow M2 (M3 63) (M3 64) ∧ odX M2 M3 M' z)))))) (b : (¬ (0 ≤ g ∧ g < M' 66 24) ∧ z' = -2 ∧ M'' = M') ∨ ((0 ≤ g ∧ g < M' 66 24) ∧ ∃ M1 r, Tfs M' M1 ∧ TT (M1 95) (M1 66 24) r ∧ ((9 < bHu (M1 95) g (M1 66 24).toNat ∧ z' = -1 ∧ M'' = M1) ∨ (bHu (M1 95) g (M1 66 24).toNat ≤ 9 ∧ ∃ al be M2 M3, RKp M1 M2 M3 r g al be ∧ ((1000000 ≤ M3 103 0 ∧ z' = -1 ∧ M'' = M3) ∨ (M3 103 0 < 1000000 ∧ rRow M2 (M3 103) (M3 105) (M2 66 47).toNat ∧ odR M2 M3 M'' z')))))) : z = z' ∧ Cpl M'' e d := by
  have n := h.n
  rw [n.1] at a
  rcases a with ⟨a1, a2, a3⟩ | ⟨a1, M1, r, f, bn, a2⟩
  · subst a3
    rcases b with ⟨b1, b2, b3⟩ | ⟨b1, _⟩
    · subst b3; exact ⟨by rw [a2, b2], h⟩
    · exact absurd b1 a1
  · have hi : ∀ q : Nat, ¬ (58 ≤ q ∧ q ≤ 65) → M' q = M1 q := by
      intro q hq
      rcases a2 with ⟨_, _, a⟩ | ⟨_, al, be, M2, M3, x, ⟨_, _, a⟩ | ⟨_, _, a⟩⟩
      · rw [a]
      · rw [a, x.sm.1 q (by omega)]
      · rw [a.2.1 q (by simp only [List.mem_cons, List.not_mem_nil, or_false]; omega), x.sm.1 q (by omega)]
    have s : ∀ q, 66 ≤ q → M' q = M1 q := fun q hq => hi q (by omega)
    have e66 : M' 66 = M 66 := by rw [hi 66 (by decide), f.1 66 (by decide)]
    rw [e66] at b
    rcases b with ⟨b1, _⟩ | ⟨_, N1, r', t, hT, b2⟩
    · exact absurd a1 b1
    · obtain ⟨o, o41, o55, o7, hC⟩ := ord_OHu h (by omega) f s t
      have eb : bHu (N1 95) g (N1 66 24).toNat = bHu (M1 51) g (M 66 24).toNat := by
        rw [o.1]
        exact bHu_cg o.2.1 _ (by omega)
      have lo := t.lo
      have u0 : ∀ q : Nat, q < 66 → uM M1 N1 q = M1 q := fun q hq => by unfold uM; rw [if_pos hq]
      have u1 : ∀ q : Nat, 66 ≤ q → uM M1 N1 q = N1 q := fun q hq => by unfold uM; rw [if_neg (by omega)]
      rw [eb] at b2
      rcases a2 with ⟨p1, p2, p3⟩ | ⟨p1, al, be, M2, M3, x, p2⟩
      · rcases b2 with ⟨q1, q2, q3⟩ | ⟨q1, _⟩
        · refine ⟨by rw [p2, q2], ?_⟩
          have ee : uM M1 N1 = N1 := by
            funext q
            by_cases c : q < 66
            · rw [u0 q c, lo q c, p3]
            · rw [u1 q (by omega)]
          rw [q3, ← ee]
          exact hC
        · exact absurd p1 (by omega)
      · rcases b2 with ⟨q1, _⟩ | ⟨q1, al', be', N2, N3, y, q2⟩
        · exact absurd p1 (by omega)
        · obtain ⟨an1, an2, an3⟩ := ord_ansu h a1 f bn p1 x s t hT y
          have oi := (x.1.oi bn a1 p1).1
          obtain ⟨xs1, xs2⟩ := x.sm
          obtain ⟨ys1, ys2⟩ := y.sm
          rcases p2 with ⟨p3, p4, p5⟩ | ⟨p3, p4, p5⟩
          · rcases q2 with ⟨q3, q4, q5⟩ | ⟨q3, _⟩
            · refine ⟨by rw [p4, q4], hC.tod (fun q hq => ?_) (fun k hk => ?_) ?_ ?_⟩
              · simp only [List.mem_cons, List.not_mem_nil, or_false] at hq
                rw [q5, ys1 q (by simp only [List.mem_cons, List.not_mem_nil, or_false]; omega)]
                by_cases c : q < 66
                · rw [u0 q c, lo q c, hi q (by omega)]
                · rw [u1 q (by omega)]
              · simp only [List.mem_cons, List.not_mem_nil, or_false] at hk
                rw [q5, ys2 k (by omega), u1 66 (by decide)]
              · rw [q5, ys1 58 (by decide), lo 58 (by decide), p5, xs2, ← u0 58 (by decide)]
                exact hC.1.2.2.2.2.2.2.2.1
              · refine hC.2.2.2.2.2.2.2.1.cg ?_ ?_ ?_ ?_
                · rw [q5, ys1 58 (by decide), lo 58 (by decide), p5, xs2, u0 58 (by decide)]
                · rw [q5, ys1 65 (by decide), lo 65 (by decide), p5, xs1 65 (by decide), u0 65 (by decide)]
                · rw [q5, ys1 104 (by decide), u1 104 (by decide)]
                · rw [q5, ys2 52 (by decide), u1 66 (by decide)]
            · exfalso; omega
          · rcases q2 with ⟨q3, _⟩ | ⟨q3, q4, q5⟩
            · exfalso; omega
            · have w := an3 p3 p4 q4
              obtain ⟨x1, x2, x3, x4⟩ := p5
              obtain ⟨y1, y2, y3, y4, y5⟩ := q5
              have v58 : M'' 58 7 = M2 58 8 := by rw [y2 58 (by decide), ys1 58 (by decide), lo 58 (by decide), x3]
              refine ⟨by rw [x1, y1]; clear w; omega, hC.tod (fun q hq => ?_) (fun k hk => ?_) ?_ ⟨?_, fun k k0 k1 => ?_⟩⟩
              · simp only [List.mem_cons, List.not_mem_nil, or_false] at hq
                rw [y2 q (by simp only [List.mem_cons, List.not_mem_nil, or_false]; omega), ys1 q (by simp only [List.mem_cons, List.not_mem_nil, or_false]; omega)]
                by_cases c : q < 66
                · rw [u0 q c, lo q c, hi q (by omega)]
                · rw [u1 q (by omega)]
              · simp only [List.mem_cons, List.not_mem_nil, or_false] at hk
                rw [y3 k (by omega), ys2 k (by omega), u1 66 (by decide)]
              · rw [v58]; clear w; omega
              · rw [v58, y4, an1]
              · rw [y4, ← an1] at k1
                rw [y5 k k0 (by rw [← an1]; exact k1), y2 65 (by decide), ys1 65 (by decide), lo 65 (by decide), x4 k k0 k1]
                exact (w k k0 k1).1.symm
