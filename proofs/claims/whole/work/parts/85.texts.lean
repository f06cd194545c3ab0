/-! TEXTS: what the class's scanner has read, and how the reference's rows match it -/
def TX (t : Nat) (S : Mm) (k : Int) : Prop := (0 ≤ S t 7 ∧ S t 7 ≤ 24) ∧ (0 ≤ S t 6 ∧ S t 6 ≤ 40 * S t 7) ∧
  (∀ w, 0 ≤ w → w < S t 6 → 0 ≤ S (t + 2) w ∧ 1 ≤ S (t + 3) w ∧ S (t + 3) w ≤ 16 ∧ S (t + 2) w + S (t + 3) w ≤ k) ∧
  (∀ s, 0 ≤ s → s < S t 7 → (0 ≤ S (t + 4) s ∧ S (t + 4) s ≤ 40 * s) ∧ (1 ≤ S (t + 5) s ∧ S (t + 5) s ≤ 40) ∧ S (t + 4) s + S (t + 5) s ≤ S t 6 ∧ (s + 1 = S t 7 → S (t + 4) s + S (t + 5) s = S t 6)) ∧
  ∀ s s', 0 ≤ s → s < s' → s' < S t 7 → S (t + 4) s + S (t + 5) s ≤ S (t + 4) s'
def TMt (t : Nat) (S A : Mm) (ex : Int) : Prop := (∀ s w, 0 ≤ s → s < S t 7 → 0 ≤ w → w < S (t + 5) s → (S (t + 4) s + w ≠ ex → A 81 (40 * s + w) = S (t + 3) (S (t + 4) s + w)) ∧ ∀ j, 0 ≤ j → j < S (t + 3) (S (t + 4) s + w) → A 80 (16 * (40 * s + w) + j) = S (t + 1) (S (t + 2) (S (t + 4) s + w) + j)) ∧ ∀ s, 0 ≤ s → s < S t 7 → A 83 s = S (t + 6) s
theorem TX.mrk {t : Nat} {S S' : Mm} {p b : Int} {g : Int → Int} (h : TX t S p) (q : Mrk t S S' p b g) : TX t S' (p + 1) := by
  obtain ⟨_, q2, _, q4, q5, q6, q7, _⟩ := q
  obtain ⟨h1, h2, h3, h4, h5⟩ := h
  unfold TX
  rw [q2, q4, q5, q6, q7]
  exact ⟨h1, h2, fun w a c => by have := h3 w a c; omega, h4, h5⟩
theorem TMt.mrk {t : Nat} {S S' A : Mm} {p b ex : Int} {g : Int → Int} (h : TX t S p) (m : TMt t S A ex) (q : Mrk t S S' p b g) : TMt t S' A ex := by
  obtain ⟨_, q2, q3, q4, q5, q6, q7, q8⟩ := q
  obtain ⟨h1, h2, h3, h4, h5⟩ := h
  unfold TMt
  rw [q2, q4, q5, q6, q7, q8]
  refine ⟨fun s w a c d e => ⟨(m.1 s w a c d e).1, fun j j0 j1 => ?_⟩, m.2⟩
  have k1 := h4 s a c
  have k2 := h3 (S (t + 4) s + w) (by omega) (by omega)
  rw [q3, if_neg (by omega)]
  exact (m.1 s w a c d e).2 j j0 j1
/-- a new sentence, its first word -/
theorem TX.fst {t : Nat} {S S' : Mm} {p b pa : Int} (hp : 0 ≤ p) (h : TX t S p) (h7 : S t 7 < 24) (q : Fst t S S' p b pa) : TX t S' (p + 1) := by
  obtain ⟨_, ⟨q6, q7⟩, q1, q2, q3, q4, q5, _⟩ := q
  obtain ⟨h1, h2, h3, h4, h5⟩ := h
  unfold TX
  rw [q6, q7]
  refine ⟨by omega, by omega, fun w a c => ?_, fun s a c => ?_, fun s s' a c d => ?_⟩
  · rw [q2, q3]
    by_cases e : w = S t 6
    · rw [if_pos e, if_pos e]; omega
    · rw [if_neg e, if_neg e]; have := h3 w a (by omega); omega
  · rw [q4, q5]
    by_cases e : s = S t 7
    · rw [if_pos e, if_pos e]; omega
    · rw [if_neg e, if_neg e]; have := h4 s a (by omega); omega
  · rw [q4, q5, q4, if_neg (by omega), if_neg (by omega)]
    by_cases e : s' = S t 7
    · rw [if_pos e]; have := h4 s a (by omega); omega
    · rw [if_neg e]; exact h5 s s' a c (by omega)
theorem TMt.fst {t : Nat} {S S' A A' : Mm} {p b pa : Int} (h : TX t S p) (h7 : S t 7 < 24) (m : TMt t S A (-1)) (q : Fst t S S' p b pa) (a81 : A' 81 = A 81) (a80 : ∀ x, A' 80 x = if x = 16 * (40 * S t 7 + 0) + 0 then b else A 80 x) (a83 : ∀ x, A' 83 x = if x = S t 7 then pa else A 83 x) : TMt t S' A' (S t 6) := by
  obtain ⟨_, ⟨q6, q7⟩, q1, q2, q3, q4, q5, q8⟩ := q
  obtain ⟨h1, h2, h3, h4, h5⟩ := h
  unfold TMt
  rw [q7]
  refine ⟨fun s w a c d e => ?_, fun s a c => ?_⟩
  · rw [q5] at e
    rw [q4, a81]
    by_cases es : s = S t 7
    · subst es
      rw [if_pos rfl] at e ⊢
      have ew : w = 0 := by omega
      subst ew
      refine ⟨fun n => absurd (by omega) n, fun j j0 j1 => ?_⟩
      rw [q3, if_pos (by omega)] at j1
      have ej : j = 0 := by omega
      subst ej
      rw [a80, if_pos rfl, q2, if_pos (by omega), q1, if_pos (by omega)]
    · rw [if_neg es] at e ⊢
      have k1 := h4 s a (by omega)
      have k2 := h3 (S (t + 4) s + w) (by omega) (by omega)
      have mm := m.1 s w a (by omega) d e
      rw [q3, if_neg (by omega)]
      refine ⟨fun _ => mm.1 (by omega), fun j j0 j1 => ?_⟩
      rw [a80, if_neg (by omega), q2, if_neg (by omega), q1, if_neg (by omega)]
      exact mm.2 j j0 j1
  · rw [a83, q8]
    by_cases es : s = S t 7
    · rw [if_pos es, if_pos es]
    · rw [if_neg es, if_neg es]; exact m.2 s a (by omega)
/-- a further word of the sentence -/
theorem TX.wrd {t : Nat} {S S' : Mm} {p b : Int} (hp : 0 ≤ p) (h : TX t S p) (h7 : 1 ≤ S t 7) (h40 : S (t + 5) (S t 7 - 1) < 40) (hle : S t 6 < 40 * S t 7) (q : Wrd t S S' p b) : TX t S' (p + 1) := by
  obtain ⟨_, ⟨q6, q7⟩, q1, q2, q3, q4, q5, _⟩ := q
  obtain ⟨h1, h2, h3, h4, h5⟩ := h
  unfold TX
  rw [q6, q7, q4]
  refine ⟨h1, by omega, fun w a c => ?_, fun s a c => ?_, fun s s' a c d => ?_⟩
  · rw [q2, q3]
    by_cases e : w = S t 6
    · rw [if_pos e, if_pos e]; omega
    · rw [if_neg e, if_neg e]; have := h3 w a (by omega); omega
  · rw [q5]
    by_cases e : s = S t 7 - 1
    · subst e; rw [if_pos rfl]; have := h4 (S t 7 - 1) a c; omega
    · rw [if_neg e]; have := h4 s a c; omega
  · rw [q5, if_neg (by omega)]; exact h5 s s' a c d
theorem TMt.wrd {t : Nat} {S S' A A' : Mm} {p b : Int} (h : TX t S p) (h7 : 1 ≤ S t 7) (m : TMt t S A (-1)) (q : Wrd t S S' p b) (a81 : A' 81 = A 81) (a83 : A' 83 = A 83) (h40 : S (t + 5) (S t 7 - 1) < 40) (a80 : ∀ x, A' 80 x = if x = 16 * (40 * (S t 7 - 1) + S (t + 5) (S t 7 - 1)) + 0 then b else A 80 x) : TMt t S' A' (S t 6) := by
  obtain ⟨_, ⟨q6, q7⟩, q1, q2, q3, q4, q5, q8⟩ := q
  obtain ⟨h1, h2, h3, h4, h5⟩ := h
  have kl := h4 (S t 7 - 1) (by omega) (by omega)
  unfold TMt
  rw [q7, q4, q8, a83, a81]
  refine ⟨fun s w a c d e => ?_, m.2⟩
  rw [q5] at e
  have k1 := h4 s a c
  by_cases es : s = S t 7 - 1 ∧ w = S (t + 5) (S t 7 - 1)
  · obtain ⟨es, ew⟩ := es
    subst es; subst ew
    have eg : S (t + 4) (S t 7 - 1) + S (t + 5) (S t 7 - 1) = S t 6 := kl.2.2.2 (by omega)
    rw [eg]
    refine ⟨fun n => absurd rfl n, fun j j0 j1 => ?_⟩
    rw [q3, if_pos rfl] at j1
    have ej : j = 0 := by omega
    subst ej
    rw [a80, if_pos rfl, q2, if_pos rfl, q1, if_pos (by omega)]
  · have ew : w < S (t + 5) s := by
      by_cases e2 : s = S t 7 - 1
      · rw [if_pos e2] at e; rw [e2]; omega
      · rw [if_neg e2] at e; exact e
    have k2 := h3 (S (t + 4) s + w) (by omega) (by omega)
    have mm := m.1 s w a c d ew
    rw [q3, if_neg (by omega)]
    refine ⟨fun _ => mm.1 (by omega), fun j j0 j1 => ?_⟩
    rw [a80, if_neg (by
      by_cases e2 : s = S t 7 - 1
      · rw [e2] at ew ⊢; omega
      · omega), q2, if_neg (by omega), q1, if_neg (by omega)]
    exact mm.2 j j0 j1
/-- a further letter of the last word -/
theorem TX.ltr {t : Nat} {S S' : Mm} {p b : Int} (h : TX t S p) (h6 : 1 ≤ S t 6) (h16 : S (t + 3) (S t 6 - 1) < 16) (hpos : S (t + 2) (S t 6 - 1) + S (t + 3) (S t 6 - 1) = p) (q : Ltr t S S' p b) : TX t S' (p + 1) ∧ S' (t + 2) (S' t 6 - 1) + S' (t + 3) (S' t 6 - 1) = p + 1 := by
  obtain ⟨_, q2, q1, q4, q3, q5, q6, q7⟩ := q
  obtain ⟨h1, h2, h3, h4, h5⟩ := h
  refine ⟨?_, by rw [q2, q4, q3, if_pos rfl]; omega⟩
  unfold TX
  rw [q2, q4, q5, q6]
  refine ⟨h1, h2, fun w a c => ?_, h4, h5⟩
  rw [q3]
  by_cases e : w = S t 6 - 1
  · subst e; rw [if_pos rfl]; have := h3 (S t 6 - 1) a c; omega
  · rw [if_neg e]; have := h3 w a c; omega
theorem TX.lastw {t : Nat} {S : Mm} {k : Int} (h : TX t S k) (h7 : 1 ≤ S t 7) {s w : Int} (a : 0 ≤ s) (c : s < S t 7) (d : 0 ≤ w) (e : w < S (t + 5) s) : S (t + 4) s + w = S t 6 - 1 ↔ s = S t 7 - 1 ∧ w = S (t + 5) (S t 7 - 1) - 1 := by
  obtain ⟨h1, h2, h3, h4, h5⟩ := h
  have kl := (h4 (S t 7 - 1) (by omega) (by omega))
  have kl2 := kl.2.2.2 (by omega)
  have ks := h4 s a c
  constructor
  · intro g
    by_cases es : s = S t 7 - 1
    · subst es; exact ⟨rfl, by omega⟩
    · have := h5 s (S t 7 - 1) a (by omega) (by omega)
      omega
  · rintro ⟨rfl, rfl⟩; omega
theorem TMt.ltr {t : Nat} {S S' A A' : Mm} {p b : Int} (h : TX t S p) (h7 : 1 ≤ S t 7) (h16 : S (t + 3) (S t 6 - 1) < 16) (hpos : S (t + 2) (S t 6 - 1) + S (t + 3) (S t 6 - 1) = p) (m : TMt t S A (S t 6 - 1)) (q : Ltr t S S' p b) (a81 : A' 81 = A 81) (a83 : A' 83 = A 83) (a80 : ∀ x, A' 80 x = if x = 16 * (40 * (S t 7 - 1) + (S (t + 5) (S t 7 - 1) - 1)) + S (t + 3) (S t 6 - 1) then b else A 80 x) : TMt t S' A' (S' t 6 - 1) := by
  have hl := fun {s w : Int} a c d e => h.lastw h7 (s := s) (w := w) a c d e
  obtain ⟨_, q2, q1, q4, q3, q5, q6, q7⟩ := q
  obtain ⟨h1, h2, h3, h4, h5⟩ := h
  unfold TMt
  rw [q2, q4, q5, q6, q7, a81, a83]
  refine ⟨fun s w a c d e => ?_, m.2⟩
  have k1 := h4 s a c
  have k2 := h3 (S (t + 4) s + w) (by omega) (by omega)
  have mm := m.1 s w a c d e
  have hh := hl a c d e
  have kl := h4 (S t 7 - 1) (by omega) (by omega)
  have kl2 := kl.2.2.2 (by omega)
  have k3 := h3 (S t 6 - 1) (by omega) (by omega)
  by_cases eg : S (t + 4) s + w = S t 6 - 1
  · obtain ⟨es, ew⟩ := hh.mp eg
    rw [eg] at mm k2 ⊢
    refine ⟨fun n => absurd rfl n, fun j j0 j1 => ?_⟩
    rw [q3, if_pos rfl] at j1
    by_cases ej : j = S (t + 3) (S t 6 - 1)
    · rw [a80, if_pos (by rw [es, ew, ej]), q1, if_pos (by omega)]
    · rw [a80, if_neg (by rw [es, ew]; omega), q1, if_neg (by omega)]
      exact mm.2 j j0 (by omega)
  · have hne : ¬ (s = S t 7 - 1 ∧ w = S (t + 5) (S t 7 - 1) - 1) := fun g => eg (hh.mpr g)
    rw [q3, if_neg eg]
    refine ⟨fun _ => mm.1 eg, fun j j0 j1 => ?_⟩
    rw [a80, if_neg (by
      intro g
      apply hne
      have : s = S t 7 - 1 := by omega
      exact ⟨this, by omega⟩), q1, if_neg (by omega)]
    exact mm.2 j j0 j1
/-- the word's length is told -/
theorem TMt.done {t : Nat} {S A A' : Mm} {k : Int} (h : TX t S k) (h7 : 1 ≤ S t 7) (m : TMt t S A (S t 6 - 1)) (a80 : A' 80 = A 80) (a83 : A' 83 = A 83) (a81 : ∀ x, A' 81 x = if x = 40 * (S t 7 - 1) + (S (t + 5) (S t 7 - 1) - 1) then S (t + 3) (S t 6 - 1) else A 81 x) : TMt t S A' (-1) := by
  have hl := fun {s w : Int} a c d e => h.lastw h7 (s := s) (w := w) a c d e
  obtain ⟨h1, h2, h3, h4, h5⟩ := h
  unfold TMt
  rw [a80, a83]
  refine ⟨fun s w a c d e => ?_, m.2⟩
  have mm := m.1 s w a c d e
  have hh := hl a c d e
  have k1 := h4 s a c
  have kl := h4 (S t 7 - 1) (by omega) (by omega)
  refine ⟨fun _ => ?_, mm.2⟩
  rw [a81]
  by_cases eg : S (t + 4) s + w = S t 6 - 1
  · obtain ⟨es, ew⟩ := hh.mp eg
    rw [if_pos (by rw [es, ew]), eg]
  · have hne : ¬ (s = S t 7 - 1 ∧ w = S (t + 5) (S t 7 - 1) - 1) := fun g => eg (hh.mpr g)
    rw [if_neg (by
      intro g
      apply hne
      have : s = S t 7 - 1 := by omega
      exact ⟨this, by omega⟩)]
    exact mm.1 eg
theorem TX.ok {t : Nat} {S : Mm} {k : Int} (hk : k ≤ 3000) (h : TX t S k) : txOk S t := by
  obtain ⟨h1, h2, h3, h4, h5⟩ := h
  refine ⟨h1, fun s a c => ?_⟩
  have k1 := h4 s a c
  refine ⟨⟨k1.1.1, k1.2.1.1, k1.2.1.2, by omega, fun e => h5 s (s + 1) a (by omega) e⟩, fun w d e => ?_⟩
  have := h3 (S (t + 4) s + w) (by omega) (by omega)
  omega
