/-- units: the head and those that hang on it, in their order -/
def cU (f : Int → Int) (h : Int) (d : Nat) : Int := cntB (fun q => (q == h) || (f q == h)) d
theorem cU_s (f : Int → Int) (h : Int) (d : Nat) : cU f h (d + 1) = cU f h d + (if (d : Int) = h ∨ f (d : Int) = h then 1 else 0) := by
  unfold cU
  rw [cntB]
  by_cases c : (d : Int) = h ∨ f (d : Int) = h
  · rw [if_pos c, if_pos (by simpa using c)]
  · rw [if_neg c, if_neg (by simpa using c)]
theorem cU_le (f : Int → Int) (h : Int) (d : Nat) : 0 ≤ cU f h d ∧ cU f h d ≤ (d : Int) := cntB_nn _ d
theorem cU_mono (f : Int → Int) (h : Int) {a b : Nat} (hab : a ≤ b) : cU f h a ≤ cU f h b := by
  have := cntB_mono (fun q => (q == h) || (f q == h)) a (b - a)
  rw [show a + (b - a) = b by omega] at this
  exact this
theorem cU_at (f : Int → Int) (h : Int) : ∀ (n : Nat) (k : Int), 0 ≤ k → k < cU f h n → ∃ q : Nat, q < n ∧ ((q : Int) = h ∨ f (q : Int) = h) ∧ cU f h q = k := by
  intro n
  induction n with
  | zero => intro k a b; have := (cU_le f h 0).2; omega
  | succ n ih =>
    intro k a b
    rw [cU_s] at b
    by_cases c : k < cU f h n
    · obtain ⟨q, q1, q2⟩ := ih k a c
      exact ⟨q, by omega, q2⟩
    · by_cases c2 : (n : Int) = h ∨ f (n : Int) = h
      · rw [if_pos c2] at b
        exact ⟨n, by omega, c2, by omega⟩
      · rw [if_neg c2] at b; omega
/-- units ahead of d, and how they stand in the order of those that hang -/
theorem cU_bHu {f : Int → Int} {h : Int} (hf : f h ≠ h) (h0 : 0 ≤ h) : ∀ d : Nat, cU f h d = bHu f h d + (if h < (d : Int) then 1 else 0) := by
  intro d
  induction d with
  | zero => rw [if_neg (by omega)]; rfl
  | succ d ih =>
    rw [cU_s, bHu_s, ih]
    have hx : (d : Int) = h → f (d : Int) ≠ h := fun e => by rw [e]; exact hf
    by_cases c : (d : Int) = h
    · have c2 := hx c
      repeat' split
      all_goals omega
    · clear hx
      repeat' split
      all_goals omega
def UL (M A : Mm) (h : Int) (d : Nat) : Prop := Sm M A [58, 59, 60, 61, 62] ∧ (∀ k : Int, k ≠ 8 → k ≠ 9 → A 58 k = M 58 k) ∧ A 58 8 = cU (M 51) h d ∧ A 58 9 = (if h < (d : Int) then cU (M 51) h h.toNat else 0) ∧ ∀ q : Nat, q < d → ((q : Int) = h ∨ M 51 (q : Int) = h) → A 59 (cU (M 51) h q) = (q : Int) ∧ A 60 (cU (M 51) h q) = (if (q : Int) = h then h else M 53 (q : Int)) ∧ A 61 (cU (M 51) h q) = (if (q : Int) = h then 1 else M 54 (q : Int)) ∧ A 62 (cU (M 51) h q) = 0
theorem UL.skip {M A : Mm} {h : Int} {d : Nat} (t : UL M A h d) (h1 : (d : Int) ≠ h) (h2 : M 51 (d : Int) ≠ h) : UL M A h (d + 1) := by
  obtain ⟨t1, t2, t3, t4, t5⟩ := t
  refine ⟨t1, t2, by rw [cU_s, if_neg (fun q => q.elim h1 h2), t3]; omega, ?_, fun q hq e => ?_⟩
  · rw [t4]
    by_cases c : h < (d : Int)
    · rw [if_pos c, if_pos (by omega)]
    · rw [if_neg c, if_neg (by omega)]
  · by_cases c : q = d
    · subst c; exact absurd e (fun q => q.elim h1 h2)
    · exact t5 q (by omega) e
theorem oAdd_v (M : Mm) (s f n k : Int) : oAdd M s f n 59 k = (if k = M 58 8 then s else M 59 k) ∧ oAdd M s f n 60 k = (if k = M 58 8 then f else M 60 k) ∧ oAdd M s f n 61 k = (if k = M 58 8 then n else M 61 k) ∧ oAdd M s f n 62 k = (if k = M 58 8 then 0 else M 62 k) ∧ oAdd M s f n 58 8 = M 58 8 + 1 ∧ ∀ j : Int, j ≠ 8 → oAdd M s f n 58 j = M 58 j := by
  unfold oAdd
  refine ⟨?_, ?_, ?_, ?_, ?_, fun j hj => ?_⟩
  · rw [mput_ne (by decide), mput_ne (by decide), mput_ne (by decide), mput_ne (by decide), mput_at]
  · rw [mput_ne (by decide), mput_ne (by decide), mput_ne (by decide), mput_at, mput_ne (by decide)]
  · rw [mput_ne (by decide), mput_ne (by decide), mput_at, mput_ne (by decide), mput_ne (by decide)]
  · rw [mput_ne (by decide), mput_at, mput_ne (by decide), mput_ne (by decide), mput_ne (by decide)]
  · rw [mput_eq]
  · rw [mput_nk hj, mput_ne (by decide), mput_ne (by decide), mput_ne (by decide), mput_ne (by decide)]
theorem oAdd_sm (M : Mm) (s f n : Int) : Sm M (oAdd M s f n) [58, 59, 60, 61, 62] := by
  unfold oAdd
  exact (((((Sm.rf M _).put (by decide)).put (by decide)).put (by decide)).put (by decide)).put (by decide)
theorem UL.next {M A B : Mm} {h f s : Int} {d : Nat} (t : UL M A h d) (hd : (d : Int) = h ∨ M 51 (d : Int) = h) (hf : f = if (d : Int) = h then h else M 53 (d : Int)) (hs : s = if (d : Int) = h then 1 else M 54 (d : Int)) (hB : ((d : Int) = h ∧ B = oAdd (mput A 58 9 (A 58 8)) (d : Int) f s) ∨ ((d : Int) ≠ h ∧ B = oAdd A (d : Int) f s)) : UL M B h (d + 1) := by
  obtain ⟨t1, t2, t3, t4, t5⟩ := t
  have hb := cU_le (M 51) h d
  have key : Sm M B [58, 59, 60, 61, 62] ∧ (∀ k : Int, k ≠ 8 → k ≠ 9 → B 58 k = M 58 k) ∧ B 58 8 = A 58 8 + 1 ∧ (∀ k, B 59 k = (if k = A 58 8 then (d : Int) else A 59 k) ∧ B 60 k = (if k = A 58 8 then f else A 60 k) ∧ B 61 k = (if k = A 58 8 then s else A 61 k) ∧ B 62 k = (if k = A 58 8 then 0 else A 62 k)) ∧ B 58 9 = if (d : Int) = h then A 58 8 else A 58 9 := by
    rcases hB with ⟨c, rfl⟩ | ⟨c, rfl⟩
    · have e8 : mput A 58 9 (A 58 8) 58 8 = A 58 8 := by rw [mput_nk (by decide)]
      refine ⟨(t1.put (by decide)).tr (oAdd_sm _ _ _ _) (fun _ h => h) (fun _ h => h), fun k k1 k2 => ?_, ?_, fun k => ?_, ?_⟩
      · rw [(oAdd_v _ _ _ _ 0).2.2.2.2.2 k k1, mput_nk k2]; exact t2 k k1 k2
      · rw [(oAdd_v _ _ _ _ 0).2.2.2.2.1, e8]
      · obtain ⟨v1, v2, v3, v4, _⟩ := oAdd_v (mput A 58 9 (A 58 8)) (d : Int) f s k
        rw [v1, v2, v3, v4, e8, mput_ne (by decide), mput_ne (by decide), mput_ne (by decide), mput_ne (by decide)]
        exact ⟨rfl, rfl, rfl, rfl⟩
      · rw [(oAdd_v _ _ _ _ 0).2.2.2.2.2 9 (by decide), mput_eq, if_pos c]
    · refine ⟨t1.tr (oAdd_sm _ _ _ _) (fun _ h => h) (fun _ h => h), fun k k1 k2 => ?_, (oAdd_v _ _ _ _ 0).2.2.2.2.1, fun k => ?_, ?_⟩
      · rw [(oAdd_v _ _ _ _ 0).2.2.2.2.2 k k1]; exact t2 k k1 k2
      · obtain ⟨v1, v2, v3, v4, _⟩ := oAdd_v A (d : Int) f s k
        exact ⟨v1, v2, v3, v4⟩
      · rw [(oAdd_v _ _ _ _ 0).2.2.2.2.2 9 (by decide), if_neg c]
  obtain ⟨k1, k2, k3, k4, k5⟩ := key
  refine ⟨k1, k2, by rw [k3, t3, cU_s, if_pos hd], ?_, fun q hq e => ?_⟩
  · rw [k5]
    by_cases c : (d : Int) = h
    · rw [if_pos c, if_pos (by omega), t3, show h.toNat = d by omega]
    · rw [if_neg c, t4]
      by_cases c2 : h < (d : Int)
      · rw [if_pos c2, if_pos (by omega)]
      · rw [if_neg c2, if_neg (by omega)]
  · by_cases c : q = d
    · subst c
      obtain ⟨v1, v2, v3, v4⟩ := k4 (cU (M 51) h q)
      rw [v1, v2, v3, v4, if_pos t3.symm, if_pos t3.symm, if_pos t3.symm, if_pos t3.symm]
      exact ⟨rfl, hf, hs, rfl⟩
    · have hlt : cU (M 51) h q + 1 ≤ cU (M 51) h d := by
        have := cU_mono (M 51) h (a := q + 1) (b := d) (by omega)
        rw [cU_s, if_pos e] at this
        exact this
      obtain ⟨v1, v2, v3, v4⟩ := k4 (cU (M 51) h q)
      have hne : ¬ cU (M 51) h q = A 58 8 := by omega
      rw [v1, v2, v3, v4, if_neg hne, if_neg hne, if_neg hne, if_neg hne]
      exact t5 q (by omega) e
/-- the bones are those of a tree -/
def BnT (M : Mm) (n r : Int) : Prop := (1 ≤ n ∧ n ≤ 24) ∧ TT (M 51) n r ∧ ∀ i, 0 ≤ i → i < n → M 52 i = bHu (M 51) i n.toNat ∧ ∀ l u, Iv (M 51) n r i l u → M 53 i = l ∧ M 54 i = u - l + 1
theorem BnT.nh {M : Mm} {n r h : Int} (b : BnT M n r) (hh : 0 ≤ h ∧ h < n) : M 51 h ≠ h := by
  intro e
  exact b.2.1.nself hh e (Onw.self _ _ _)
/-- what a unit is -/
theorem UL.of {M A : Mm} {n r h : Int} (b : BnT M n r) (hh : 0 ≤ h ∧ h < n) (t : UL M A h n.toNat) {k : Int} (h0 : 0 ≤ k) (h1 : k < A 58 8) : ∃ q : Nat, (q : Int) < n ∧ k = cU (M 51) h q ∧ A 59 k = (q : Int) ∧ A 62 k = 0 ∧ (((q : Int) = h ∧ k = A 58 9 ∧ A 60 k = h ∧ A 61 k = 1) ∨ ((q : Int) ≠ h ∧ k ≠ A 58 9 ∧ M 51 (q : Int) = h ∧ ∀ l u, Iv (M 51) n r (q : Int) l u → A 60 k = l ∧ A 61 k = u - l + 1)) := by
  obtain ⟨t1, t2, t3, t4, t5⟩ := t
  obtain ⟨q, q1, q2, q3⟩ := cU_at (M 51) h n.toNat k h0 (by omega)
  have g := t5 q q1 q2
  rw [q3] at g
  rw [if_pos (by omega)] at t4
  refine ⟨q, by omega, q3.symm, g.1, g.2.2.2, ?_⟩
  by_cases c : (q : Int) = h
  · rw [if_pos c, if_pos c] at g
    left
    refine ⟨c, ?_, g.2.1, g.2.2.1⟩
    rw [t4, ← q3, show h.toNat = q by omega]
  · rw [if_neg c, if_neg c] at g
    have q4 := q2.resolve_left c
    right
    refine ⟨c, ?_, q4, fun l u hv => ?_⟩
    · rw [t4, ← q3]
      intro e
      have hle := cU_s (M 51) h h.toNat
      have hle2 := cU_s (M 51) h q
      rw [if_pos (Or.inl (by omega))] at hle
      rw [if_pos (Or.inr q4)] at hle2
      by_cases c2 : (q : Int) < h
      · have := cU_mono (M 51) h (a := q + 1) (b := h.toNat) (by omega); omega
      · have := cU_mono (M 51) h (a := h.toNat + 1) (b := q) (by omega); omega
    · have := (b.2.2 (q : Int) (by omega) (by omega)).2 l u hv
      rw [g.2.1, g.2.2.1]; exact this
theorem UL.hu {M A : Mm} {n r h : Int} (b : BnT M n r) (hh : 0 ≤ h ∧ h < n) (t : UL M A h n.toNat) : 0 ≤ A 58 9 ∧ A 58 9 < A 58 8 ∧ A 59 (A 58 9) = h ∧ A 60 (A 58 9) = h ∧ A 61 (A 58 9) = 1 := by
  obtain ⟨t1, t2, t3, t4, t5⟩ := t
  rw [if_pos (by omega)] at t4
  have g := t5 h.toNat (by omega) (Or.inl (by omega))
  rw [← t4, if_pos (by omega), if_pos (by omega)] at g
  have h1 := cU_le (M 51) h h.toNat
  have h2 := cU_s (M 51) h h.toNat
  rw [if_pos (Or.inl (by omega))] at h2
  have h3 := cU_mono (M 51) h (a := h.toNat + 1) (b := n.toNat) (by omega)
  exact ⟨by omega, by omega, by rw [g.1]; omega, g.2.1, g.2.2.1⟩
/-- place i is of the unit of q -/
def InU (f : Int → Int) (r h q i : Int) : Prop := (q = h ∧ i = h) ∨ (q ≠ h ∧ f q = h ∧ Onw f r q i)
theorem InU.uq {f : Int → Int} {n r h q q' i : Int} (T : TT f n r) (hh : 0 ≤ h ∧ h < n) (hi : 0 ≤ i ∧ i < n) (a : InU f r h q i) (b : InU f r h q' i) : q = q' := by
  rcases a with ⟨a1, a2⟩ | ⟨a1, a2, a3⟩ <;> rcases b with ⟨b1, b2⟩ | ⟨b1, b2, b3⟩
  · rw [a1, b1]
  · rw [a2] at b3; exact absurd b3 (T.nself hh b2)
  · rw [b2] at a3; exact absurd a3 (T.nself hh a2)
  · exact T.uniq hi hh.1 a2 b2 a3 b3
/-- unitOf tells it -/
theorem UO_in {M A B : Mm} {n r h i z : Int} (b : BnT M n r) (hh : 0 ≤ h ∧ h < n) (t : UL M B h n.toNat) (sB : Sm B A [62]) (hi : 0 ≤ i ∧ i < n) (q : UO A i z) : (z = -1 ∧ ¬ Onw (M 51) r h i) ∨ (0 ≤ z ∧ z < A 58 8 ∧ InU (M 51) r h (A 59 z) i) := by
  unfold UO at q
  rw [sB 58 (by decide), sB 60 (by decide), sB 61 (by decide)] at q
  rw [sB 58 (by decide), sB 59 (by decide)]
  have inn : ∀ k, 0 ≤ k → k < B 58 8 → ((B 60 k ≤ i ∧ i < B 60 k + B 61 k) ↔ InU (M 51) r h (B 59 k) i) := by
    intro k k0 k1
    obtain ⟨q, q1, q2, q3, q4, q5⟩ := t.of b hh k0 k1
    rcases q5 with ⟨g1, g2, g3, g4⟩ | ⟨g1, g2, g3, g4⟩
    · rw [g3, g4, q3]
      exact ⟨fun w => Or.inl ⟨g1, by omega⟩, fun w => by rcases w with ⟨_, w⟩ | ⟨w, _⟩ <;> omega⟩
    · obtain ⟨l, u, hv⟩ := b.2.1.iv (i := (q : Int)) (by omega)
      obtain ⟨e1, e2⟩ := g4 l u hv
      rw [e1, e2, q3]
      have hv2 := hv.2 i hi.1 hi.2
      exact ⟨fun w => Or.inr ⟨g1, g3, hv2.mpr (by omega)⟩, fun w => by
        rcases w with ⟨w, _⟩ | ⟨_, _, w⟩
        · exact absurd w g1
        · have := hv2.mp w; omega⟩
  rcases q with ⟨q1, q2⟩ | ⟨q1, q2, q3, q4⟩
  · left
    refine ⟨q1, fun o => ?_⟩
    have hu := t.hu b hh
    rcases (b.2.1.cases hi hh).mp o with e | ⟨x, x0, x1, x2, x3⟩
    · exact q2 (B 58 9) hu.1 hu.2.1 (by rw [hu.2.2.2.1, hu.2.2.2.2]; omega)
    · have e1 : (x.toNat : Int) = x := by omega
      have g := t.2.2.2.2 x.toNat (by omega) (Or.inr (by rw [e1]; exact x2))
      have hne : x ≠ h := fun e => b.nh hh (by rw [e] at x2; exact x2)
      have hs := cU_s (M 51) h x.toNat
      rw [if_pos (Or.inr (by rw [e1]; exact x2))] at hs
      have hm := cU_mono (M 51) h (a := x.toNat + 1) (b := n.toNat) (by omega)
      have hc := cU_le (M 51) h x.toNat
      refine q2 (cU (M 51) h x.toNat) hc.1 (by rw [t.2.2.1]; omega) ((inn _ hc.1 (by rw [t.2.2.1]; omega)).mpr ?_)
      rw [g.1, e1]
      exact Or.inr ⟨hne, x2, x3⟩
  · exact Or.inr ⟨q1, q2, (inn z q1 q2).mp q3⟩
theorem UL.inj {M A : Mm} {n r h : Int} (b : BnT M n r) (hh : 0 ≤ h ∧ h < n) (t : UL M A h n.toNat) {k k' : Int} (h0 : 0 ≤ k ∧ k < A 58 8) (h1 : 0 ≤ k' ∧ k' < A 58 8) (e : A 59 k = A 59 k') : k = k' := by
  obtain ⟨q, q1, q2, q3, _⟩ := t.of b hh h0.1 h0.2
  obtain ⟨q', q1', q2', q3', _⟩ := t.of b hh h1.1 h1.2
  rw [q2, q2', show q = q' by omega]
/-- units are fit for the orders -/
theorem UL.oi {M A B : Mm} {n r h : Int} (b : BnT M n r) (hh : 0 ≤ h ∧ h < n) (h9 : bHu (M 51) h n.toNat ≤ 9) (t : UL M B h n.toNat) (sB : Sm B A [62]) (hmk : ∀ u, 0 ≤ u → u < A 58 8 → 0 ≤ A 62 u ∧ A 62 u < 1024) : OI A := by
  have hu := t.hu b hh
  have e8 := t.2.2.1
  have hc := cU_bHu (b.nh hh) hh.1 n.toNat
  rw [if_pos (by omega)] at hc
  have e58 : A 58 = B 58 := sB 58 (by decide)
  unfold OI
  rw [e58] at hmk
  rw [e58, sB 59 (by decide), sB 60 (by decide), sB 61 (by decide)]
  refine ⟨by omega, by omega, fun u u0 u1 => ⟨?_, hmk u u0 u1⟩⟩
  have hn := b.1
  obtain ⟨q, q1, q2, q3, q4, q5⟩ := t.of b hh u0 u1
  rcases q5 with ⟨g1, g2, g3, g4⟩ | ⟨g1, g2, g3, g4⟩
  · rw [q3, g3, g4]; omega
  · obtain ⟨l, u', hv⟩ := b.2.1.iv (i := (q : Int)) (by omega)
    obtain ⟨e1, e2⟩ := g4 l u' hv
    have hv1 := hv.1
    rw [q3, e1, e2]; omega
def PO (M : Mm) (s i : Int) : Prop := (i = -1 ∧ ∀ k, 0 ≤ k → k < M 40 2 → M 41 k ≠ s) ∨ (0 ≤ i ∧ i < M 40 2 ∧ M 41 i = s)
def PUx (M A : Mm) (s a : Int) : Prop := ∃ i, PO M s i ∧ UO A i a
/-- masks with the kinds of units ahead of u -/
def UK (M A : Mm) (h n u : Int) : Prop := (∃ B, UL M B h n.toNat ∧ Sm B A [62]) ∧ ∀ b, 0 ≤ b → b < A 58 8 → (0 ≤ A 62 b ∧ A 62 b < 1024) ∧ ∀ j, 0 ≤ j → (inS (A 62 b) j ↔ b < u ∧ j = A 58 9 ∧ A 59 b ≠ h ∧ (kX M (A 59 b) = 1 ∨ kX M (A 59 b) = 2 ∨ kX M (A 59 b) = 3))
def UM (M A : Mm) (h n : Int) (al be : Int → Int) (p : Int) : Prop := (∃ B, UL M B h n.toNat ∧ Sm B A [62]) ∧ (∀ x, 0 ≤ x → x < p → PUx M A (M 56 x) (al x) ∧ PUx M A (M 57 x) (be x)) ∧
  ∀ b, 0 ≤ b → b < A 58 8 → (0 ≤ A 62 b ∧ A 62 b < 1024) ∧ ∀ j, 0 ≤ j → (inS (A 62 b) j ↔ (j = A 58 9 ∧ A 59 b ≠ h ∧ (kX M (A 59 b) = 1 ∨ kX M (A 59 b) = 2 ∨ kX M (A 59 b) = 3)) ∨ ∃ x, 0 ≤ x ∧ x < p ∧ al x = j ∧ be x = b ∧ al x ≠ be x ∧ 0 ≤ be x)
theorem UK.skip {M A : Mm} {h n u : Int} (t : UK M A h n u) (hu : ¬ (A 59 u ≠ h ∧ (kX M (A 59 u) = 1 ∨ kX M (A 59 u) = 2 ∨ kX M (A 59 u) = 3))) : UK M A h n (u + 1) := by
  refine ⟨t.1, fun b b0 b1 => ⟨(t.2 b b0 b1).1, fun j j0 => ?_⟩⟩
  rw [(t.2 b b0 b1).2 j j0]
  constructor
  · rintro ⟨g1, g2⟩; exact ⟨by omega, g2⟩
  · rintro ⟨g1, g2, g3⟩
    by_cases c : b = u
    · subst c; exact absurd g3 hu
    · exact ⟨by omega, g2, g3⟩
theorem UK.take {M A : Mm} {h n u : Int} (t : UK M A h n u) (h58 : 0 ≤ A 58 9 ∧ A 58 9 < 10) (hu0 : 0 ≤ u) (hu1 : u < A 58 8) (hu : A 59 u ≠ h ∧ (kX M (A 59 u) = 1 ∨ kX M (A 59 u) = 2 ∨ kX M (A 59 u) = 3)) : UK M (mput A 62 u (zor (A 62 u) (zshl 1 (A 58 9)))) h n (u + 1) := by
  obtain ⟨⟨B, tB, sB⟩, t2⟩ := t
  have e58 : mput A 62 u (zor (A 62 u) (zshl 1 (A 58 9))) 58 = A 58 := mput_ne (by decide)
  have e59 : mput A 62 u (zor (A 62 u) (zshl 1 (A 58 9))) 59 = A 59 := mput_ne (by decide)
  refine ⟨⟨B, tB, sB.put (by decide)⟩, fun b b0 b1 => ?_⟩
  rw [e58] at b1
  rw [e58, e59]
  have g := t2 b b0 b1
  by_cases c : b = u
  · subst c
    rw [mput_eq]
    refine ⟨zor_lt (n := 10) (by omega) g.1 h58, fun j j0 => ?_⟩
    rw [inS_or (by omega) (by omega) j, g.2 j j0]
    constructor
    · rintro (⟨g1, _⟩ | g1)
      · omega
      · exact ⟨by omega, by omega, hu⟩
    · rintro ⟨_, g2, _⟩
      exact Or.inr (by omega)
  · rw [mput_nk c]
    refine ⟨g.1, fun j j0 => ?_⟩
    rw [g.2 j j0]
    constructor
    · rintro ⟨g1, g2⟩; exact ⟨by omega, g2⟩
    · rintro ⟨g1, g2⟩; exact ⟨by omega, g2⟩
theorem UK.um {M A : Mm} {h n : Int} {al be : Int → Int} (t : UK M A h n (A 58 8)) : UM M A h n al be 0 := by
  refine ⟨t.1, fun x a b => by omega, fun b b0 b1 => ⟨(t.2 b b0 b1).1, fun j j0 => ?_⟩⟩
  rw [(t.2 b b0 b1).2 j j0]
  constructor
  · rintro ⟨_, g⟩; exact Or.inl g
  · rintro (g | ⟨x, x0, x1, _⟩)
    · exact ⟨b1, g⟩
    · omega
theorem UO_sm {A B : Mm} {i a : Int} (e1 : B 58 = A 58) (e2 : B 60 = A 60) (e3 : B 61 = A 61) (q : UO A i a) : UO B i a := by
  unfold UO at *
  rw [e1, e2, e3]; exact q
theorem UO_rg {A : Mm} {i a : Int} (q : UO A i a) : -1 ≤ a ∧ (0 ≤ a → a < A 58 8) := by
  rcases q with ⟨q, _⟩ | ⟨q1, q2, _⟩ <;> omega
theorem UM.next {M A B : Mm} {h n p a b : Int} {al be : Int → Int} (t : UM M A h n al be p) (hp : 0 ≤ p) (h8 : 1 ≤ A 58 8 ∧ A 58 8 ≤ 10) (ha : PUx M A (M 56 p) a) (hb : PUx M A (M 57 p) b) (hB : (0 ≤ a ∧ 0 ≤ b ∧ a ≠ b ∧ B = mput A 62 b (zor (A 62 b) (zshl 1 a))) ∨ (¬ (0 ≤ a ∧ 0 ≤ b ∧ a ≠ b) ∧ B = A)) : UM M B h n (upF al p a) (upF be p b) (p + 1) := by
  obtain ⟨⟨C, tC, sC⟩, t2, t3⟩ := t
  have ra : -1 ≤ a ∧ (0 ≤ a → a < A 58 8) := by obtain ⟨i, _, g⟩ := ha; exact UO_rg g
  have rb : -1 ≤ b ∧ (0 ≤ b → b < A 58 8) := by obtain ⟨i, _, g⟩ := hb; exact UO_rg g
  have sB : Sm A B [62] := by rcases hB with ⟨_, _, _, rfl⟩ | ⟨_, rfl⟩; exact (Sm.rf _ _).put (by decide); exact Sm.rf _ _
  have e58 : B 58 = A 58 := sB 58 (by decide)
  have e59 : B 59 = A 59 := sB 59 (by decide)
  have mv : ∀ {s c : Int}, PUx M A s c → PUx M B s c := fun ⟨i, i1, i2⟩ => ⟨i, i1, UO_sm e58 (sB 60 (by decide)) (sB 61 (by decide)) i2⟩
  refine ⟨⟨C, tC, sC.tr sB (fun _ h => h) (fun _ h => h)⟩, fun x x0 x1 => ?_, fun c c0 c1 => ?_⟩
  · by_cases e : x = p
    · subst e; rw [upF_eq, upF_eq]; exact ⟨mv ha, mv hb⟩
    · rw [upF_ne e, upF_ne e]; exact ⟨mv (t2 x x0 (by omega)).1, mv (t2 x x0 (by omega)).2⟩
  · rw [e58] at c1
    have g := t3 c c0 c1
    rw [e58, e59]
    have key : (0 ≤ B 62 c ∧ B 62 c < 1024) ∧ ∀ j, 0 ≤ j → (inS (B 62 c) j ↔ inS (A 62 c) j ∨ (c = b ∧ 0 ≤ a ∧ 0 ≤ b ∧ a ≠ b ∧ j = a)) := by
      rcases hB with ⟨q1, q2, q3, rfl⟩ | ⟨q1, rfl⟩
      · by_cases ec : c = b
        · subst ec
          rw [mput_eq]
          refine ⟨zor_lt (n := 10) (by omega) g.1 (by omega), fun j j0 => ?_⟩
          rw [inS_or (by omega) (by omega) j]
          exact ⟨fun w => w.elim Or.inl (fun w => Or.inr ⟨rfl, q1, q2, q3, by omega⟩), fun w => w.elim Or.inl (fun w => Or.inr (by omega))⟩
        · rw [mput_nk ec]
          exact ⟨g.1, fun j j0 => ⟨Or.inl, fun w => w.elim id (fun w => absurd w.1 ec)⟩⟩
      · exact ⟨g.1, fun j j0 => ⟨Or.inl, fun w => w.elim id (fun w => absurd ⟨w.2.1, w.2.2.1, w.2.2.2.1⟩ q1)⟩⟩
    refine ⟨key.1, fun j j0 => ?_⟩
    rw [key.2 j j0, g.2 j j0]
    constructor
    · rintro ((w | ⟨x, x0, x1, x2⟩) | ⟨w1, w2, w3, w4, w5⟩)
      · exact Or.inl w
      · refine Or.inr ⟨x, x0, by omega, ?_⟩
        rw [upF_ne (show x ≠ p by omega), upF_ne (show x ≠ p by omega)]
        exact x2
      · refine Or.inr ⟨p, hp, by omega, ?_⟩
        rw [upF_eq, upF_eq]
        exact ⟨w5.symm, w1.symm, w4, w3⟩
    · rintro (w | ⟨x, x0, x1, x2, x3, x4, x5⟩)
      · exact Or.inl (Or.inl w)
      · by_cases e : x = p
        · subst e
          rw [upF_eq] at x2 x3 x5
          rw [upF_eq, upF_eq] at x4
          exact Or.inr ⟨x3.symm, by omega, x5, x4, x2.symm⟩
        · rw [upF_ne e] at x2 x3 x5
          rw [upF_ne e, upF_ne e] at x4
          exact Or.inl (Or.inr ⟨x, x0, by omega, x2, x3, x4, x5⟩)

set_option maxRecDepth 20000 in
set_option maxHeartbeats 4000000 in
theorem ct_X10_bindUnits (E : Ev) (e : Nat) (he : e = 17 ∨ e = 24) (M : Mm) (hF : Fit M e) (r h : Int) (hb : BnT M (M e 7) r) (hh : 0 ≤ h ∧ h < M e 7) (hpl : M 40 2 = M e 7) (hpr : prOk M (M e 7)) (h9 : bHu (M 51) h (M e 7).toNat ≤ 9) (M0 : Mm) (hUL : UL M M0 h (M e 7).toNat) : Ct E yX10_bindUnits cX10_bindUnits 4 none 2 [zr E 0, zi h] M0 (pV (fun M' => ∃ al be : Int → Int, UM M M' h (M e 7) al be (M 55 2))) := by
  refine Ct.of (own := RX10) (lv0 := [some (zr E 0), some (zi h), none, none]) (by decide) rfl (Nat.le_of_ble_eq_true rfl) rfl (fun κ C => ?_)
  obtain ⟨hn, h06, hat, hk4, h34, h33, h31⟩ := hF
  have hp1 := hpr.1
  have L56 : ∀ (n9 : Nat) (p : Int) (A : Mm) (al be : Int → Int) (u3 : Option Value) (hp : 0 ≤ p ∧ p ≤ M 55 2) (hUM : UM M A h (M e 7) al be p) (hm : (M 55 2 - p).toNat < n9), Gm E κ (pV (fun M' => ∃ al be : Int → Int, UM M M' h (M e 7) al be (M 55 2))) 4 56 [some (zr E 0), some (zi h), some (zi p), u3] [] A := by
    intro n9
    induction n9 with
    | zero => intro p A al be u3 hp hUM hm; exact absurd hm (Nat.not_lt_zero _)
    | succ n9 ih56 =>
      intro p A al be u3 hp hUM hm
      obtain ⟨B, tB, sB⟩ := hUM.1
      have sA : Sm M A [58, 59, 60, 61, 62] := tB.1.tr sB (fun _ h => h) (by decide)
      have hu := tB.hu hb hh
      have e58 : A 58 = B 58 := sB 58 (by decide)
      rw [← e58, ← sB 59 (by decide), ← sB 60 (by decide), ← sB 61 (by decide)] at hu
      have hOI : OI A := tB.oi hb hh h9 sB (fun u a b => (hUM.2.2 u a b).1)
      have h8 := hOI.1
      have e32 : A 32 = M 32 := sA 32 (by decide)
      have e41 : A 41 = M 41 := sA 41 (by decide)
      have e55 : A 55 = M 55 := sA 55 (by decide)
      have e56 : A 56 = M 56 := sA 56 (by decide)
      have e57 : A 57 = M 57 := sA 57 (by decide)
      have e40 : A 40 = M 40 := sA 40 (by decide)
      refine s_iload_n C dX10_bindUnits_56 rfl ?_
      refine s_aload_n C dX10_bindUnits_57 rfl ?_
      refine s_getr (k := 12) (b := 55) C dX10_bindUnits_58 fl_X10_83 (by decide) rfl (by decide) rfl ?_
      refine s_geti (k := 2) (j := 2) (z := M 55 2) C dX10_bindUnits_61 fl_X10_155 (by decide) rfl (by decide) rfl (by rw [e55]) (fun r61 => ?_)
      refine s_icmp_ge (tgt := 112) C dX10_bindUnits_64 (by decide) (by omega) (by omega) (fun c64 => ?_) (fun c64 => ?_)
      · skip
        exact s_return C dX10_bindUnits_112 (⟨rfl, by have c0 : p = M 55 2 := (by omega); subst c0; exact ⟨al, be, hUM⟩⟩)
      · skip
        have hpp := hpr.2 p hp.1 (by omega)
        refine s_aload_n C dX10_bindUnits_67 rfl ?_
        refine s_getr (k := 13) (b := 58) C dX10_bindUnits_68 fl_X10_90 (by decide) rfl (by decide) rfl ?_
        refine s_aload_n C dX10_bindUnits_71 rfl ?_
        refine s_getr (k := 9) (b := 40) C dX10_bindUnits_72 fl_X10_62 (by decide) rfl (by decide) rfl ?_
        refine s_aload_n C dX10_bindUnits_75 rfl ?_
        refine s_getr (k := 12) (b := 55) C dX10_bindUnits_76 fl_X10_83 (by decide) rfl (by decide) rfl ?_
        refine s_getr (k := 0) (b := 56) C dX10_bindUnits_79 fl_X10_353 (by decide) rfl (by decide) rfl ?_
        refine s_iload_n C dX10_bindUnits_82 rfl ?_
        refine s_iaload (n := 20) (z := M 56 p) C dX10_bindUnits_83 (by decide) rfl rfl (by omega) (by omega) (by omega) (by rw [e56]) (fun r83 => ?_)
        refine s_callV1 C dX10_bindUnits_84 cy_X5_placeOf cv_X5_placeOf lk_X10_354 (ct_X5_placeOf E A (M 56 p) (by omega) (by rw [e40]; omega)) (by decide) (by decide) (by first | decide | (decide)) rfl (Nat.le_of_ble_eq_true rfl) (k_P (fun z84 q84 => ?_))
        have p84 : PO M (M 56 p) z84 := by unfold PO; rw [e40, e41] at q84; exact q84
        clear q84
        have r84 : -1 ≤ z84 ∧ z84 < 24 := by rcases p84 with ⟨g, _⟩ | ⟨g1, g2, _⟩ <;> omega
        refine s_aload_n C dX10_bindUnits_87 rfl ?_
        refine s_getr (k := 9) (b := 40) C dX10_bindUnits_88 fl_X10_62 (by decide) rfl (by decide) rfl ?_
        refine s_aload_n C dX10_bindUnits_91 rfl ?_
        refine s_getr (k := 12) (b := 55) C dX10_bindUnits_92 fl_X10_83 (by decide) rfl (by decide) rfl ?_
        refine s_getr (k := 1) (b := 57) C dX10_bindUnits_95 fl_X10_357 (by decide) rfl (by decide) rfl ?_
        refine s_iload_n C dX10_bindUnits_98 rfl ?_
        refine s_iaload (n := 20) (z := M 57 p) C dX10_bindUnits_99 (by decide) rfl rfl (by omega) (by omega) (by omega) (by rw [e57]) (fun r99 => ?_)
        refine s_callV1 C dX10_bindUnits_100 cy_X5_placeOf cv_X5_placeOf lk_X10_354 (ct_X5_placeOf E A (M 57 p) (by omega) (by rw [e40]; omega)) (by decide) (by decide) (by first | decide | (decide)) rfl (Nat.le_of_ble_eq_true rfl) (k_P (fun z100 q100 => ?_))
        have p100 : PO M (M 57 p) z100 := by unfold PO; rw [e40, e41] at q100; exact q100
        clear q100
        have r100 : -1 ≤ z100 ∧ z100 < 24 := by rcases p100 with ⟨g, _⟩ | ⟨g1, g2, _⟩ <;> omega
        refine s_callV2 C dX10_bindUnits_103 cy_X3_bind cv_X3_bind lk_X10_350 (ct_X3_bind E A z84 z100 (by omega) (by omega) hOI) (by decide) (by decide) (by first | decide | (decide)) rfl (Nat.le_of_ble_eq_true rfl) (k_V (fun M103 q103 => ?_))
        refine s_iinc (lv' := [_, _, _, _]) C dX10_bindUnits_106 rfl (by decide) rfl rfl rfl ?_
        refine s_goto (tgt := 56) C dX10_bindUnits_109 (by decide) ?_
        obtain ⟨ua, ub, u1, u2, u3⟩ := q103
        exact ih56 (p + 1) M103 _ _ _ (by clear u3; omega) (hUM.next hp.1 h8 ⟨z84, p84, u1⟩ ⟨z100, p100, u2⟩ u3) (by clear u3; omega)
  have L2 : ∀ (n9 : Nat) (u : Int) (A : Mm) (u3 : Option Value) (hu0 : 0 ≤ u ∧ u ≤ A 58 8) (hUK : UK M A h (M e 7) u) (hm : (A 58 8 - u).toNat < n9), Gm E κ (pV (fun M' => ∃ al be : Int → Int, UM M M' h (M e 7) al be (M 55 2))) 4 2 [some (zr E 0), some (zi h), some (zi u), u3] [] A := by
    intro n9
    induction n9 with
    | zero => intro u A u3 hu0 hUK hm; exact absurd hm (Nat.not_lt_zero _)
    | succ n9 ih2 =>
      intro u A u3 hu0 hUK hm
      obtain ⟨B, tB, sB⟩ := hUK.1
      have sA : Sm M A [58, 59, 60, 61, 62] := tB.1.tr sB (fun _ h => h) (by decide)
      have hu := tB.hu hb hh
      have e58 : A 58 = B 58 := sB 58 (by decide)
      rw [← e58, ← sB 59 (by decide), ← sB 60 (by decide), ← sB 61 (by decide)] at hu
      have hOI : OI A := tB.oi hb hh h9 sB (fun u a b => (hUK.2 u a b).1)
      have h8 := hOI.1
      have e32 : A 32 = M 32 := sA 32 (by decide)
      have e41 : A 41 = M 41 := sA 41 (by decide)
      have e55 : A 55 = M 55 := sA 55 (by decide)
      have e56 : A 56 = M 56 := sA 56 (by decide)
      have e57 : A 57 = M 57 := sA 57 (by decide)
      have e40 : A 40 = M 40 := sA 40 (by decide)
      refine s_iload_n C dX10_bindUnits_2 rfl ?_
      refine s_aload_n C dX10_bindUnits_3 rfl ?_
      refine s_getr (k := 13) (b := 58) C dX10_bindUnits_4 fl_X10_90 (by decide) rfl (by decide) rfl ?_
      refine s_geti (k := 8) (j := 8) C dX10_bindUnits_7 fl_X10_304 (by decide) rfl (by decide) rfl (rfl) (fun r7 => ?_)
      refine s_icmp_ge (tgt := 54) C dX10_bindUnits_10 (by decide) (by omega) (by omega) (fun c10 => ?_) (fun c10 => ?_)
      · skip
        refine s_iconst C dX10_bindUnits_54 ?_
        refine s_istore_n (lv' := [_, _, _, _]) C dX10_bindUnits_55 (by decide) rfl rfl ?_
        have c0 : u = A 58 8 := by omega
        subst c0
        exact L56 _ 0 A (fun _ => 0) (fun _ => 0) _ (by omega) hUK.um (Nat.lt_succ_self _)
      · skip
        obtain ⟨q, q1, q2, q3, q4, q5⟩ := tB.of hb hh hu0.1 (by rw [← e58]; omega)
        rw [← sB 59 (by decide)] at q3
        have pq := hat (q : Int) (by omega) (by omega)
        have pk := hk4 _ pq.1 pq.2
        refine s_aload_n C dX10_bindUnits_13 rfl ?_
        refine s_getr (k := 13) (b := 58) C dX10_bindUnits_14 fl_X10_90 (by decide) rfl (by decide) rfl ?_
        refine s_getr (k := 0) (b := 59) C dX10_bindUnits_17 fl_X10_347 (by decide) rfl (by decide) rfl ?_
        refine s_iload_n C dX10_bindUnits_20 rfl ?_
        refine s_iaload (n := 10) (z := A 59 u) C dX10_bindUnits_21 (by decide) rfl rfl (by omega) (by omega) (by omega) (rfl) (fun r21 => ?_)
        refine s_istore_n (lv' := [_, _, _, _]) C dX10_bindUnits_22 (by decide) rfl rfl ?_
        refine s_iload_n C dX10_bindUnits_23 rfl ?_
        refine s_iload_n C dX10_bindUnits_24 rfl ?_
        refine s_icmp_eq (tgt := 48) C dX10_bindUnits_25 (by decide) (by omega) (by omega) (fun c25 => ?_) (fun c25 => ?_)
        · skip
          refine s_iinc (lv' := [_, _, _, _]) C dX10_bindUnits_48 rfl (by decide) rfl rfl rfl ?_
          refine s_goto (tgt := 2) C dX10_bindUnits_51 (by decide) ?_
          first
            | exact ih2 (u + 1) A _ (by omega) (hUK.skip (fun g => g.1 c25)) (by omega)
            | exact ih2 (u + 1) A _ (by omega) (hUK.skip (fun g => q33.n c36 g.2)) (by omega)
            | exact ih2 (u + 1) _ _ (by rw [mput_ne (by decide)]; omega) (hUK.take (by omega) hu0.1 (by omega) ⟨c25, q33.y c36⟩) (by rw [mput_ne (by decide)]; omega)
        · skip
          refine s_aload_n C dX10_bindUnits_28 rfl ?_
          refine s_iload_n C dX10_bindUnits_29 rfl ?_
          refine s_callV1 C dX10_bindUnits_30 cy_X10_kindAt cv_X10_kindAt lk_X10_239 (ct_X10_kindAt E A (A 59 u) (by omega) (by rw [e41, q3]; omega)) (by decide) (by decide) (by first | decide | (decide)) rfl (Nat.le_of_ble_eq_true rfl) (k_P (fun z30 q30 => ?_))
          have q30b : z30 = kX M (A 59 u) := by rw [q30, e32, e41]; rfl
          clear q30
          have q30c : 0 ≤ z30 ∧ z30 ≤ 4 := by rw [q30b, q3]; exact pk
          refine s_callS1 C dX10_bindUnits_33 cy_X10_isBound cs_X10_isBound lk_X10_242 (ct_X10_isBound E A z30 (by omega)) (by decide) (Nat.le_of_ble_eq_true rfl) (k_P (fun z33 q33 => ?_))
          rw [q30b] at q33
          refine s_if_eq (tgt := 48) C dX10_bindUnits_36 (by decide) (by have := q33.b; omega) (fun c36 => ?_) (fun c36 => ?_)
          · skip
            refine s_iinc (lv' := [_, _, _, _]) C dX10_bindUnits_48 rfl (by decide) rfl rfl rfl ?_
            refine s_goto (tgt := 2) C dX10_bindUnits_51 (by decide) ?_
            first
              | exact ih2 (u + 1) A _ (by omega) (hUK.skip (fun g => g.1 c25)) (by omega)
              | exact ih2 (u + 1) A _ (by omega) (hUK.skip (fun g => q33.n c36 g.2)) (by omega)
              | exact ih2 (u + 1) _ _ (by rw [mput_ne (by decide)]; omega) (hUK.take (by omega) hu0.1 (by omega) ⟨c25, q33.y c36⟩) (by rw [mput_ne (by decide)]; omega)
          · skip
            refine s_aload_n C dX10_bindUnits_39 rfl ?_
            refine s_getr (k := 13) (b := 58) C dX10_bindUnits_40 fl_X10_90 (by decide) rfl (by decide) rfl ?_
            refine s_iload_n C dX10_bindUnits_43 rfl ?_
            refine s_iload_n C dX10_bindUnits_44 rfl ?_
            refine s_callV2 C dX10_bindUnits_45 cy_X3_bind cv_X3_bind lk_X10_350 (ct_X3_bind E A h (A 59 u) (by omega) (by omega) hOI) (by decide) (by decide) (by first | decide | (decide)) rfl (Nat.le_of_ble_eq_true rfl) (k_V (fun M45 q45 => ?_))
            have q45b : M45 = mput A 62 u (zor (A 62 u) (zshl 1 (A 58 9))) := by
              obtain ⟨ua, ub, u1, u2, u3⟩ := q45
              have k1 := UO_in hb hh tB sB hh u1
              have k2 := UO_in hb hh tB sB (i := A 59 u) (by omega) u2
              have qh : (q : Int) ≠ h ∧ M 51 (q : Int) = h := by
                rcases q5 with ⟨g, _⟩ | ⟨g1, _, g2, _⟩
                · exact absurd (q3.trans g) c25
                · exact ⟨g1, g2⟩
              have ea : ua = A 58 9 := by
                rcases k1 with ⟨_, g⟩ | ⟨g1, g2, g3⟩
                · exact absurd (Onw.self _ _ _) g
                · have := InU.uq hb.2.1 hh hh g3 (Or.inl ⟨rfl, rfl⟩)
                  exact (show ua = A 58 9 from by
                    have hx := tB.inj hb hh (k := ua) (k' := A 58 9) (by rw [← e58]; omega) (by rw [← e58]; omega) (by rw [← sB 59 (by decide), this, hu.2.2.1])
                    exact hx)
              have eb : ub = u := by
                rcases k2 with ⟨_, g⟩ | ⟨g1, g2, g3⟩
                · refine absurd ((hb.2.1.cases (i := A 59 u) (h := h) (by omega) hh).mpr (Or.inr ⟨(q : Int), by omega, by omega, qh.2, ?_⟩)) g
                  rw [q3]; exact Onw.self _ _ _
                · have := InU.uq hb.2.1 hh (i := A 59 u) (by omega) g3 (q' := (q : Int)) (Or.inr ⟨qh.1, qh.2, by rw [q3]; exact Onw.self _ _ _⟩)
                  exact tB.inj hb hh (by rw [← e58]; omega) (by rw [← e58]; omega) (by rw [← sB 59 (by decide), this, q3])
              have hne : ua ≠ ub := by
                rw [ea, eb]
                rcases q5 with ⟨g, _⟩ | ⟨_, g, _⟩
                · exact absurd g qh.1
                · rw [e58]; exact fun w => g w.symm
              rcases u3 with ⟨_, _, _, g⟩ | ⟨g, _⟩
              · rw [g, ea, eb]
              · exact absurd ⟨by omega, by omega, hne⟩ g
            clear q45
            subst q45b
            refine s_iinc (lv' := [_, _, _, _]) C dX10_bindUnits_48 rfl (by decide) rfl rfl rfl ?_
            refine s_goto (tgt := 2) C dX10_bindUnits_51 (by decide) ?_
            first
              | exact ih2 (u + 1) A _ (by omega) (hUK.skip (fun g => g.1 c25)) (by omega)
              | exact ih2 (u + 1) A _ (by omega) (hUK.skip (fun g => q33.n c36 g.2)) (by omega)
              | exact ih2 (u + 1) _ _ (by rw [mput_ne (by decide)]; omega) (hUK.take (by omega) hu0.1 (by omega) ⟨c25, q33.y c36⟩) (by rw [mput_ne (by decide)]; omega)
  refine s_iconst C dX10_bindUnits_0 ?_
  refine s_istore_n (lv' := [_, _, _, _]) C dX10_bindUnits_1 (by decide) rfl rfl ?_
  exact L2 _ 0 M0 _ (by have := (cU_le (M 51) h (M e 7).toNat); have := hUL.2.2.1; omega) ⟨⟨M0, hUL, Sm.rf _ _⟩, fun b b0 b1 => by
    obtain ⟨q, _, _, _, g, _⟩ := hUL.of hb hh b0 b1
    rw [g]
    exact ⟨by omega, fun j j0 => ⟨fun w => by simp [inS] at w, fun w => by omega⟩⟩⟩ (Nat.lt_succ_self _)

set_option maxRecDepth 20000 in
set_option maxHeartbeats 4000000 in
theorem ct_X10_findOrder (E : Ev) (e : Nat) (he : e = 17 ∨ e = 24) (M : Mm) (hF : Fit M e) (r h : Int) (hb : BnT M (M e 7) r) (hh : 0 ≤ h ∧ h < M e 7) (hpl : M 40 2 = M e 7) (hpr : prOk M (M e 7))  : Ct E yX10_findOrder cX10_findOrder 3 (some .int) 5 [zr E 0, zi h] M (pI (fun z M' => (9 < bHu (M 51) h (M e 7).toNat ∧ z = -1 ∧ M' = M) ∨ (bHu (M 51) h (M e 7).toNat ≤ 9 ∧ ∃ al be M2, UM M M2 h (M e 7) al be (M 55 2) ∧ Sm M2 M' [63, 64] ∧ oEq M2 (M' 63) ∧ ((268435456 ≤ M' 63 0 ∧ z = -1) ∨ (M' 63 0 < 268435456 ∧ oRow M2 (M' 63) (M' 64) ∧ z = M' 63 0))))) := by
  refine Ct.of (own := RX10) (lv0 := [some (zr E 0), some (zi h), none]) (by decide) rfl (Nat.le_of_ble_eq_true rfl) rfl (fun κ C => ?_)
  have hF0 := hF
  obtain ⟨hn, h06, hat, hk4, h34, h33, h31⟩ := hF
  have hp1 := hpr.1
  have hbn := hb.1
  have L25 : ∀ (n9 : Nat) (k : Nat) (A : Mm) (hk : (k : Int) ≤ M e 7) (h9 : bHu (M 51) h (M e 7).toNat ≤ 9) (hUL : UL M A h k) (hm : (M e 7 - (k : Int)).toNat < n9), Gm E κ (pI (fun z M' => (9 < bHu (M 51) h (M e 7).toNat ∧ z = -1 ∧ M' = M) ∨ (bHu (M 51) h (M e 7).toNat ≤ 9 ∧ ∃ al be M2, UM M M2 h (M e 7) al be (M 55 2) ∧ Sm M2 M' [63, 64] ∧ oEq M2 (M' 63) ∧ ((268435456 ≤ M' 63 0 ∧ z = -1) ∨ (M' 63 0 < 268435456 ∧ oRow M2 (M' 63) (M' 64) ∧ z = M' 63 0))))) 3 25 [some (zr E 0), some (zi h), some (zi (k : Int))] [] A := by
    intro n9
    induction n9 with
    | zero => intro k A  hk h9 hUL hm; exact absurd hm (Nat.not_lt_zero _)
    | succ n9 ih25 =>
      intro k A  hk h9 hUL hm
      have e58 : ∀ k : Int, k ≠ 8 → k ≠ 9 → A 58 k = M 58 k := hUL.2.1
      have s0 : A 0 = M 0 := hUL.1 0 (by decide)
      have s51 : A 51 = M 51 := hUL.1 51 (by decide)
      have s53 : A 53 = M 53 := hUL.1 53 (by decide)
      have s54 : A 54 = M 54 := hUL.1 54 (by decide)
      have se : A e = M e := hUL.1 e (by rcases he with rfl | rfl <;> decide)
      have hc := cU_bHu (hb.nh hh) hh.1 (M e 7).toNat
      rw [if_pos (by omega)] at hc
      have h8 := hUL.2.2.1
      have hcl := cU_le (M 51) h k
      refine s_iload_n C dX10_findOrder_25 rfl ?_
      refine s_aload_n C dX10_findOrder_26 rfl ?_
      refine s_getd (k := 6) (j := 6) (b := e) C dX10_findOrder_27 fl_X10_45 (by decide) rfl (by decide) rfl (by rw [s0]; exact h06) ?_
      refine s_geti (k := 7) (j := 7) (z := M e 7) C dX10_findOrder_30 fl_X10_149 (by rcases he with rfl | rfl <;> decide) (by rcases he with rfl | rfl <;> decide) (by decide) rfl (by rw [se]) (fun r30 => ?_)
      refine s_icmp_ge (tgt := 97) C dX10_findOrder_33 (by decide) (by omega) (by omega) (fun c33 => ?_) (fun c33 => ?_)
      · skip
        have c0 : k = (M e 7).toNat := by omega
        subst c0
        refine s_aload_n C dX10_findOrder_97 rfl ?_
        refine s_iload_n C dX10_findOrder_98 rfl ?_
        refine s_callV1 C dX10_findOrder_99 cy_X10_bindUnits cv_X10_bindUnits lk_X10_340 (ct_X10_bindUnits E e he M hF0 r h hb hh hpl hpr h9 A hUL) (by decide) (by decide) (by first | decide | (decide)) rfl (Nat.le_of_ble_eq_true rfl) (k_V (fun M99 q99 => ?_))
        obtain ⟨al, be, hUM⟩ := q99
        obtain ⟨B, tB, sB⟩ := hUM.1
        have hOI : OI M99 := tB.oi hb hh h9 sB (fun u a b => (hUM.2.2 u a b).1)
        refine s_aload_n C dX10_findOrder_102 rfl ?_
        refine s_getr (k := 13) (b := 58) C dX10_findOrder_103 fl_X10_90 (by decide) rfl (by decide) rfl ?_
        refine s_callV0 C dX10_findOrder_106 cy_X3_solve cv_X3_solve lk_X10_343 (ct_X3_solve E M99 hOI) (by decide) (by decide) (by first | decide | (decide)) rfl (Nat.le_of_ble_eq_true rfl) (k_I (fun z106 M106 q106 => ?_))
        obtain ⟨w1, w2, w3⟩ := q106
        have w4 : (z106 = 0 ∧ 268435456 ≤ M106 63 0) ∨ (z106 = 1 ∧ M106 63 0 < 268435456) := by rcases w3 with g | g; exact Or.inl g; exact Or.inr ⟨g.1, g.2.1⟩
        refine s_if_eq (tgt := 122) C dX10_findOrder_109 (by decide) (by omega) (fun c109 => ?_) (fun c109 => ?_)
        · skip
          refine s_iconst C dX10_findOrder_122 ?_
          exact s_ireturn C dX10_findOrder_123 (⟨_, rfl, Or.inr ⟨h9, al, be, M99, hUM, w1, w2, by
      first
        | exact Or.inl ⟨by omega, rfl⟩
        | (refine Or.inr ⟨by omega, ?_, q116⟩
           rcases w3 with ⟨g, _⟩ | ⟨_, _, g⟩
           · exact absurd g c109
           · exact g)⟩⟩)
        · skip
          refine s_aload_n C dX10_findOrder_112 rfl ?_
          refine s_getr (k := 13) (b := 58) C dX10_findOrder_113 fl_X10_90 (by decide) rfl (by decide) rfl ?_
          refine s_callV0 C dX10_findOrder_116 cy_X3_leastCost cv_X3_leastCost lk_X10_346 (ct_X3_leastCost E M106) (by decide) (by decide) (by first | decide | (decide)) rfl (Nat.le_of_ble_eq_true rfl) (k_P (fun z116 q116 => ?_))
          refine s_goto (tgt := 123) C dX10_findOrder_119 (by decide) ?_
          exact s_ireturn C dX10_findOrder_123 (⟨_, rfl, Or.inr ⟨h9, al, be, M99, hUM, w1, w2, by
      first
        | exact Or.inl ⟨by omega, rfl⟩
        | (refine Or.inr ⟨by omega, ?_, q116⟩
           rcases w3 with ⟨g, _⟩ | ⟨_, _, g⟩
           · exact absurd g c109
           · exact g)⟩⟩)
      · skip
        have hst : ((k : Int) = h ∨ M 51 (k : Int) = h) → cU (M 51) h k + 1 ≤ 10 := fun g => by
          have g1 := cU_s (M 51) h k
          rw [if_pos g] at g1
          have g2 := cU_mono (M 51) h (a := k + 1) (b := (M e 7).toNat) (by omega)
          omega
        refine s_iload_n C dX10_findOrder_36 rfl ?_
        refine s_iload_n C dX10_findOrder_37 rfl ?_
        refine s_icmp_ne (tgt := 52) C dX10_findOrder_38 (by decide) (by omega) (by omega) (fun c38 => ?_) (fun c38 => ?_)
        · skip
          refine s_aload_n C dX10_findOrder_52 rfl ?_
          refine s_getr (k := 11) (b := 50) C dX10_findOrder_53 fl_X10_76 (by decide) rfl (by decide) rfl ?_
          refine s_getr (k := 0) (b := 51) C dX10_findOrder_56 fl_X10_181 (by decide) rfl (by decide) rfl ?_
          refine s_iload_n C dX10_findOrder_59 rfl ?_
          refine s_iaload (n := 24) (z := M 51 (k : Int)) C dX10_findOrder_60 (by decide) rfl rfl (by omega) (by omega) (by omega) (by rw [s51]) (fun r60 => ?_)
          refine s_iload_n C dX10_findOrder_61 rfl ?_
          refine s_icmp_ne (tgt := 91) C dX10_findOrder_62 (by decide) (by omega) (by omega) (fun c62 => ?_) (fun c62 => ?_)
          · skip
            refine s_iinc (lv' := [_, _, _]) C dX10_findOrder_91 rfl (by decide) rfl rfl rfl ?_
            refine s_goto (tgt := 25) C dX10_findOrder_94 (by decide) ?_
            first
              | exact ih25 (k + 1) A (by omega) h9 (hUL.skip c38 c62) (by omega)
              | exact ih25 (k + 1) M46 (by omega) h9 (hUL.next (Or.inl c38) (f := h) (s := 1) (by rw [if_pos c38]) (by rw [if_pos c38]) (Or.inl ⟨c38, by rw [q46, c38]⟩)) (by omega)
              | exact ih25 (k + 1) M88 (by omega) h9 (hUL.next (Or.inr c62) (by rw [if_neg c38]) (by rw [if_neg c38]) (Or.inr ⟨c38, q88⟩)) (by omega)
          · skip
            refine s_aload_n C dX10_findOrder_65 rfl ?_
            refine s_getr (k := 13) (b := 58) C dX10_findOrder_66 fl_X10_90 (by decide) rfl (by decide) rfl ?_
            refine s_iload_n C dX10_findOrder_69 rfl ?_
            refine s_aload_n C dX10_findOrder_70 rfl ?_
            refine s_getr (k := 11) (b := 50) C dX10_findOrder_71 fl_X10_76 (by decide) rfl (by decide) rfl ?_
            refine s_getr (k := 2) (b := 53) C dX10_findOrder_74 fl_X10_298 (by decide) rfl (by decide) rfl ?_
            refine s_iload_n C dX10_findOrder_77 rfl ?_
            refine s_iaload (n := 24) (z := M 53 (k : Int)) C dX10_findOrder_78 (by decide) rfl rfl (by omega) (by omega) (by omega) (by rw [s53]) (fun r78 => ?_)
            refine s_aload_n C dX10_findOrder_79 rfl ?_
            refine s_getr (k := 11) (b := 50) C dX10_findOrder_80 fl_X10_76 (by decide) rfl (by decide) rfl ?_
            refine s_getr (k := 3) (b := 54) C dX10_findOrder_83 fl_X10_187 (by decide) rfl (by decide) rfl ?_
            refine s_iload_n C dX10_findOrder_86 rfl ?_
            refine s_iaload (n := 24) (z := M 54 (k : Int)) C dX10_findOrder_87 (by decide) rfl rfl (by omega) (by omega) (by omega) (by rw [s54]) (fun r87 => ?_)
            refine s_callV3 C dX10_findOrder_88 cy_X3_addPart cv_X3_addPart lk_X10_336 (ct_X3_addPart E A (k : Int) (M 53 (k : Int)) (M 54 (k : Int)) (by omega) r78 r87 (by have := hst (Or.inr c62); omega)) (by decide) (by decide) (by first | decide | (decide)) rfl (Nat.le_of_ble_eq_true rfl) (k_V (fun M88 q88 => ?_))
            refine s_iinc (lv' := [_, _, _]) C dX10_findOrder_91 rfl (by decide) rfl rfl rfl ?_
            refine s_goto (tgt := 25) C dX10_findOrder_94 (by decide) ?_
            first
              | exact ih25 (k + 1) A (by omega) h9 (hUL.skip c38 c62) (by omega)
              | exact ih25 (k + 1) M46 (by omega) h9 (hUL.next (Or.inl c38) (f := h) (s := 1) (by rw [if_pos c38]) (by rw [if_pos c38]) (Or.inl ⟨c38, by rw [q46, c38]⟩)) (by omega)
              | exact ih25 (k + 1) M88 (by omega) h9 (hUL.next (Or.inr c62) (by rw [if_neg c38]) (by rw [if_neg c38]) (Or.inr ⟨c38, q88⟩)) (by omega)
        · skip
          refine s_aload_n C dX10_findOrder_41 rfl ?_
          refine s_getr (k := 13) (b := 58) C dX10_findOrder_42 fl_X10_90 (by decide) rfl (by decide) rfl ?_
          refine s_iload_n C dX10_findOrder_45 rfl ?_
          refine s_callV1 C dX10_findOrder_46 cy_X3_addHead cv_X3_addHead lk_X10_333 (ct_X3_addHead E A h (by omega) (by have := hst (Or.inl c38); omega)) (by decide) (by decide) (by first | decide | (decide)) rfl (Nat.le_of_ble_eq_true rfl) (k_V (fun M46 q46 => ?_))
          refine s_goto (tgt := 91) C dX10_findOrder_49 (by decide) ?_
          refine s_iinc (lv' := [_, _, _]) C dX10_findOrder_91 rfl (by decide) rfl rfl rfl ?_
          refine s_goto (tgt := 25) C dX10_findOrder_94 (by decide) ?_
          first
            | exact ih25 (k + 1) A (by omega) h9 (hUL.skip c38 c62) (by omega)
            | exact ih25 (k + 1) M46 (by omega) h9 (hUL.next (Or.inl c38) (f := h) (s := 1) (by rw [if_pos c38]) (by rw [if_pos c38]) (Or.inl ⟨c38, by rw [q46, c38]⟩)) (by omega)
            | exact ih25 (k + 1) M88 (by omega) h9 (hUL.next (Or.inr c62) (by rw [if_neg c38]) (by rw [if_neg c38]) (Or.inr ⟨c38, q88⟩)) (by omega)
  refine s_aload_n C dX10_findOrder_0 rfl ?_
  refine s_getr (k := 11) (b := 50) C dX10_findOrder_1 fl_X10_76 (by decide) rfl (by decide) rfl ?_
  refine s_getr (k := 1) (b := 52) C dX10_findOrder_4 fl_X10_184 (by decide) rfl (by decide) rfl ?_
  refine s_iload_n C dX10_findOrder_7 rfl ?_
  refine s_iaload (n := 24) (z := bHu (M 51) h (M e 7).toNat) C dX10_findOrder_8 (by decide) rfl rfl (by omega) (by omega) (by omega) ((hb.2.2 h hh.1 hh.2).1) (fun r8 => ?_)
  refine s_bipush C dX10_findOrder_9 (by decide) ?_
  refine s_icmp_le (tgt := 16) C dX10_findOrder_11 (by decide) (by have := bHu_le (M 51) h (M e 7).toNat; omega) (by have := bHu_le (M 51) h (M e 7).toNat; omega) (fun c11 => ?_) (fun c11 => ?_)
  · skip
    refine s_aload_n C dX10_findOrder_16 rfl ?_
    refine s_getr (k := 13) (b := 58) C dX10_findOrder_17 fl_X10_90 (by decide) rfl (by decide) rfl ?_
    refine s_callV0 C dX10_findOrder_20 cy_X3_clear cv_X3_clear lk_X10_330 (ct_X3_clear E M) (by decide) (by decide) (by first | decide | (decide)) rfl (Nat.le_of_ble_eq_true rfl) (k_V (fun M20 q20 => ?_))
    subst q20
    refine s_iconst C dX10_findOrder_23 ?_
    refine s_istore_n (lv' := [_, _, _]) C dX10_findOrder_24 (by decide) rfl rfl ?_
    refine L25 _ 0 _ (by omega) (by omega) ⟨((Sm.rf M _).put (by decide)).put (by decide), fun k k1 k2 => by rw [mput_nk k2, mput_nk k1], ?_, ?_, fun q hq => by omega⟩ (Nat.lt_succ_self _)
    · rw [mput_nk (by decide), mput_eq]; rfl
    · rw [mput_eq, if_neg (by omega)]
  · skip
    refine s_iconst C dX10_findOrder_14 ?_
    exact s_ireturn C dX10_findOrder_15 (⟨_, rfl, Or.inl ⟨by omega, rfl, rfl⟩⟩)
