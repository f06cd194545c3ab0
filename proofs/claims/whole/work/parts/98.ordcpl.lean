/-! ORDERS under the coupling -/
def vM (M1 N1 : Mm) : Mm := fun a => if 58 ≤ a ∧ a ≤ 65 then M1 a else N1 a
theorem vM_t {M1 M' N1 : Mm} (s : ∀ a, ¬ (58 ≤ a ∧ a ≤ 65) → M' a = M1 a) (t : Tfs M' N1) : Tfs M1 (vM M1 N1) := by
  have v : ∀ a : Nat, ¬ (58 ≤ a ∧ a ≤ 65) → vM M1 N1 a = N1 a := fun a ha => by unfold vM; rw [if_neg ha]
  refine ⟨fun a ha => ?_, fun k x y w => ?_, ?_, ?_⟩
  · by_cases c : 58 ≤ a ∧ a ≤ 65
    · unfold vM; rw [if_pos c]
    · rw [v a c, t.1 a ha, s a c]
  · rw [v 66 (by decide), t.2.1 k x y w, s 66 (by decide)]
  · rw [v 66 (by decide)]; exact t.2.2.1
  · exact t.2.2.2.sm (fun a ha => v a (by simp only [List.mem_cons, List.not_mem_nil, or_false] at ha; omega)) (fun k _ => by rw [v 66 (by decide)])
theorem ord_OH {M M1 M' N1 : Mm} {e d : Nat} (h : Cpl M e d) (hn : 1 ≤ M 66 24) (f : Frs M M1 e) (s : ∀ a, ¬ (58 ≤ a ∧ a ≤ 65) → M' a = M1 a) (t : Tfs M' N1) : OH M1 N1 (M 66 24) (M 66 41) ∧ N1 66 41 = M 66 41 ∧ M1 55 2 = M 66 41 ∧ M1 e 7 = M 66 24 ∧ Cpl (vM M1 N1) e d := by
  have he := h.he
  have tv := vM_t s t
  have v : ∀ a : Nat, ¬ (58 ≤ a ∧ a ≤ 65) → vM M1 N1 a = N1 a := fun a ha => by unfold vM; rw [if_neg ha]
  have c := h.frs f
  obtain ⟨c1, c2, c3⟩ := h.both hn f tv
  obtain ⟨e24, e7, hd, _⟩ := h.one hn f tv
  have m66 : M1 66 = M 66 := f.1 66 (by decide)
  have p66 : M' 66 = M1 66 := s 66 (by decide)
  have n1 := c.n
  rw [m66] at n1
  have hX := c.1.2.2.2.2.2.2.1.2.1
  have lo := tv.lo
  have pr := c.2.2.2.2.2.2.1
  have es := c.2.2.2.2.2.1
  have r : ∀ a : Nat, a ∉ tRows → ¬ (58 ≤ a ∧ a ≤ 65) → N1 a = M1 a := fun a x y => by rw [t.1 a x, s a y]
  unfold cPr at pr
  rw [m66] at pr
  refine ⟨⟨?_, fun q a b => ?_, ?_, fun i a b => ?_, fun i j a b x y => ?_, fun x a b => ?_, fun q a b => ?_⟩, ?_, pr.1, n1.1, c1⟩
  · rw [v 66 (by decide)] at e24; exact e24
  · have q2 := hd q a b
    rw [v 95 (by decide), lo 51 (by decide)] at q2
    exact q2
  · rw [hX.1]; exact n1.1
  · rw [r 85 (by decide) (by decide)]
    exact (es.2.2.1 i a (by rw [m66]; exact b)).2.symm
  · exact hX.2.2 i j a (by omega) x (by omega)
  · rw [r 96 (by decide) (by decide), r 97 (by decide) (by decide)]
    exact pr.2 x a b
  · have q2 := c2.kind (i := q) (by rw [e24]; exact ⟨a, b⟩)
    rw [lo 32 (by decide), lo 41 (by decide), v 89 (by decide)] at q2
    exact q2.symm
  · rw [t.2.1 41 (by decide) (by decide) (by decide), p66, m66]
theorem ord_ans {M M1 M2 M3 M' N1 N2 N3 : Mm} {e d : Nat} {r r' g : Int} {al be al' be' : Int → Int} (h : Cpl M e d) (hg : 0 ≤ g ∧ g < M 66 24) (f : Frs M M1 e) (bn : BnT M1 (M 66 24) r) (h9 : bHu (M1 51) g (M 66 24).toNat ≤ 9) (x : XKp M1 M2 M3 (M 66 24) g al be) (s : ∀ a, ¬ (58 ≤ a ∧ a ≤ 65) → M' a = M1 a) (t : Tfs M' N1) (hT : TT (N1 95) (N1 66 24) r') (y : RKp N1 N2 N3 r' g al' be') : M2 58 8 = N2 66 47 ∧ ((M3 63 0 = 268435456 ∧ N3 103 0 = 1000000) ∨ (M3 63 0 ≤ 10000 ∧ N3 103 0 = M3 63 0)) ∧ (M3 63 0 < 268435456 → oRow M2 (M3 63) (M3 64) → rRow N2 (N3 103) (N3 105) (N2 66 47).toNat → ∀ k : Int, 0 ≤ k → k < M2 58 8 → M2 59 (M3 64 k) = N2 98 (N3 105 k) ∧ xoF M2 M3 k = roF N2 N3 k ∧ xoS M2 M3 k = roS N2 N3 k) := by
  obtain ⟨o, o41, o55, o7, _⟩ := ord_OH h (by omega) f s t
  have x1 := x.1
  have y1 := y.1
  rw [o55] at x1
  rw [o41] at y1
  have om := OM_mk bn hT hg h9 o x1 y1
  refine ⟨om.2.2.1, ord_eq om x.2.2 y.2.2, fun h0 hr hr' k k0 k1 => ?_⟩
  have w := (row_eq om x.2.2 y.2.2 h0 hr hr' (M2 58 8).toNat (by omega)).2 k.toNat (by omega)
  rw [Int.toNat_of_nonneg k0] at w
  have q := (hr k.toNat (by omega)).1
  rw [Int.toNat_of_nonneg k0] at q
  have u := om.2.2.2.1 (M3 64 k) q.1 q.2
  unfold xoF roF xoS roS
  rw [w, u.2.1, u.2.2.1, u.2.2.2.1]
  exact ⟨rfl, by omega, rfl⟩
