/-! PAIR: both sides see the same pairs -/
theorem Rch_cg {f s f' s' : Int → Int} {m a b : Int} (hg : ∀ p, 0 ≤ p → p < m → f' p = f p ∧ s' p = s p) : Rch f s m a b ↔ Rch f' s' m a b := by
  constructor
  · intro h S ha hc
    exact h S ha (fun p p0 p1 hp => by rw [← (hg p p0 p1).2]; exact hc p p0 p1 (by rw [(hg p p0 p1).1]; exact hp))
  · intro h S ha hc
    exact h S ha (fun p p0 p1 hp => by rw [(hg p p0 p1).2]; exact hc p p0 p1 (by rw [← (hg p p0 p1).1]; exact hp))
theorem pair_sees {M : Mm} {e d : Nat} {a b : Int} (h : Cpl M e d) (ha : 0 ≤ a ∧ a < M 66 24) (hb : 0 ≤ b ∧ b < M 66 24) : (Rch (M 56) (M 57) (M 55 2) (M 41 b) (M 41 a) ↔ Rch (M 96) (M 97) (M 66 41) (M 85 b) (M 85 a)) ∧ ((∃ p, 0 ≤ p ∧ p < M 55 2 ∧ M 56 p = M 41 a ∧ M 57 p = M 41 b) ↔ hsR M (M 85 a) (M 85 b) (M 66 41)) := by
  have k := h.2.2.2.2.2.2.1
  have es := h.2.2.2.2.2.1
  have e1 := (es.2.2.1 a ha.1 ha.2).2
  have e2 := (es.2.2.1 b hb.1 hb.2).2
  rw [e1, e2, k.1]
  refine ⟨Rch_cg k.2, ?_⟩
  unfold hsR
  constructor
  · rintro ⟨p, p0, p1, p2, p3⟩
    exact ⟨p, p0, p1, by rw [(k.2 p p0 p1).1]; exact p2, by rw [(k.2 p p0 p1).2]; exact p3⟩
  · rintro ⟨p, p0, p1, p2, p3⟩
    exact ⟨p, p0, p1, by rw [← (k.2 p p0 p1).1]; exact p2, by rw [← (k.2 p p0 p1).2]; exact p3⟩
