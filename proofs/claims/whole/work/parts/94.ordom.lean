/-! ORDERS: units of the class and items of the reference -/
/-- the two sides hold the same tree, places, pairs, kinds -/
def OH (M N : Mm) (n P : Int) : Prop := N 66 24 = n ∧ (∀ d, 0 ≤ d → d < n → N 95 d = M 51 d) ∧ M 40 2 = n ∧ (∀ i, 0 ≤ i → i < n → N 85 i = M 41 i) ∧ (∀ i j, 0 ≤ i → i < n → 0 ≤ j → j < n → M 41 i = M 41 j → i = j) ∧ (∀ x, 0 ≤ x → x < P → N 96 x = M 56 x ∧ N 97 x = M 57 x) ∧ ∀ q, 0 ≤ q → q < n → N 89 q = kX M q
/-- what unit u is, beside item p u -/
def UP (M A B : Mm) (n h : Int) (p : Int → Int) (u : Int) : Prop := ((0 ≤ p u ∧ p u < A 58 8) ∧ B 98 (p u) = A 59 u ∧ B 99 (p u) = A 61 u ∧ B 100 (p u) = A 59 u - A 60 u ∧ (p u = 0 ↔ u = A 58 9)) ∧ (0 ≤ A 59 u ∧ A 59 u < n) ∧ (A 59 u = h ↔ u = A 58 9) ∧ (A 59 u ≠ h → M 51 (A 59 u) = h)
theorem UP_mk {M A0 A N B0 B : Mm} {n r h P : Int} (b : BnT M n r) (hT : TT (N 95) (N 66 24) r) (hh : 0 ≤ h ∧ h < n) (o : OH M N n P) (t : UL M A0 h n.toNat) (sA : Sm A0 A [62]) (s : TI N B0 r h (N 66 24).toNat) (sB : Sm B0 B [101]) : A 58 8 = B 66 47 ∧ (∀ u, 0 ≤ u → u < A 58 8 → UP M A B n h (pi M A h) u) ∧ (∀ k, 0 ≤ k → k < A 58 8 → ∃ u, 0 ≤ u ∧ u < A 58 8 ∧ pi M A h u = k) ∧ (∀ u v, 0 ≤ u → u < v → v < A 58 8 → A 59 u < A 59 v) := by
  obtain ⟨o1, o2, o3, o4, o5, o6, o7⟩ := o
  have a58 : A 58 = A0 58 := sA 58 (by decide)
  have a59 : A 59 = A0 59 := sA 59 (by decide)
  have a60 : A 60 = A0 60 := sA 60 (by decide)
  have a61 : A 61 = A0 61 := sA 61 (by decide)
  have b66 : B 66 = B0 66 := sB 66 (by decide)
  have b98 : B 98 = B0 98 := sB 98 (by decide)
  have b99 : B 99 = B0 99 := sB 99 (by decide)
  have b100 : B 100 = B0 100 := sB 100 (by decide)
  have hn := b.1
  have hnh := b.nh hh
  have hc := cU_bHu hnh hh.1 n.toNat
  rw [if_pos (by omega)] at hc
  have hg : ∀ d, 0 ≤ d → d < n → M 51 d = N 95 d := fun d d0 d1 => (o2 d d0 d1).symm
  rw [o1] at s hT
  have s' := s
  obtain ⟨s1, s2, s3, s4, s5⟩ := s'
  have eb : ∀ d : Nat, (d : Int) ≤ n → bHu (N 95) h d = bHu (M 51) h d := bHu_cg o2
  rw [eb n.toNat (by omega)] at s3
  have t3 := t.2.2.1
  have e8 : A 58 8 = B 66 47 := by rw [a58, b66, t3, s3, hc]; omega
  have up : ∀ u, 0 ≤ u → u < A 58 8 → UP M A B n h (pi M A h) u ∧ ∃ q : Nat, u = cU (M 51) h q ∧ A 59 u = (q : Int) := by
    intro u u0 u1
    rw [a58] at u1
    obtain ⟨q, q1, q2, q3, q4, q5⟩ := UL.of b hh t u0 u1
    refine ⟨?_, q, q2, by rw [a59]; exact q3⟩
    unfold UP pi
    rw [a58, a59, a60, a61, b98, b99, b100, q3, Int.toNat_natCast]
    have hm := cU_le (M 51) h n.toNat
    rcases q5 with ⟨g1, g2, g3, g4⟩ | ⟨g1, g2, g3, g4⟩
    · rw [if_pos g1, g1, g3, g4]
      refine ⟨⟨⟨Int.le_refl _, by omega⟩, s4.1, s4.2.1, by rw [s4.2.2]; omega, fun _ => g2, fun _ => rfl⟩, hh, ⟨fun _ => g2, fun _ => rfl⟩, fun e => absurd rfl e⟩
    · have h1 := bHu_s (M 51) h q
      rw [if_pos g3] at h1
      have h2 := bHu_mono (M 51) h (a := q + 1) (b := n.toNat) (by omega)
      have h3 := bHu_le (M 51) h q
      have e95 : N 95 (q : Int) = h := by rw [o2 q (by omega) q1]; exact g3
      have z := s5 q (by omega) e95
      rw [eb q (by omega)] at z
      obtain ⟨l, w, hv⟩ := b.2.1.iv (i := (q : Int)) (by omega)
      have hv' : Iv (N 95) (N 66 24) r (q : Int) l w := by rw [o1]; exact (Iv_cg b.2.1 o2).mp hv
      have z2 := z.2 l w hv'
      have g5 := g4 l w hv
      rw [if_neg g1]
      refine ⟨⟨⟨by omega, by omega⟩, z.1, by rw [z2.1, g5.2], by rw [z2.2, g5.1], fun e => by omega, fun e => absurd e g2⟩, ⟨by omega, q1⟩, ⟨fun e => absurd e g1, fun e => absurd e g2⟩, fun _ => g3⟩
  refine ⟨e8, fun u u0 u1 => (up u u0 u1).1, fun k k0 k1 => ?_, fun u v u0 uv v1 => ?_⟩
  · by_cases c : k = 0
    · have w := UL.hu b hh t
      refine ⟨A 58 9, by rw [a58]; exact w.1, by rw [a58]; exact w.2.1, ?_⟩
      unfold pi
      rw [a58, a59, if_pos w.2.2.1, c]
    · obtain ⟨q, q1, q2, q3⟩ := bHu_at (M 51) h n.toNat (k - 1) (by omega) (by rw [a58, t3] at k1; omega)
      have g := t.2.2.2.2 q q1 (Or.inr q2)
      have h1 := cU_s (M 51) h q
      rw [if_pos (Or.inr q2)] at h1
      have h2 := cU_mono (M 51) h (a := q + 1) (b := n.toNat) (by omega)
      have h3 := cU_le (M 51) h q
      refine ⟨cU (M 51) h q, h3.1, by rw [a58, t3]; omega, ?_⟩
      unfold pi
      have qh : (q : Int) ≠ h := fun e => hnh (by rw [e] at q2; exact q2)
      rw [a59, g.1, if_neg qh, Int.toNat_natCast, q3]
      omega
  · obtain ⟨_, q, q1, q2⟩ := up u u0 (by omega)
    obtain ⟨_, q', q3, q4⟩ := up v (by omega) v1
    rw [q2, q4]
    by_cases c : q < q'
    · omega
    · have := cU_mono (M 51) h (a := q') (b := q) (by omega)
      omega
theorem InU.on {f : Int → Int} {n r h q i : Int} (T : TT f n r) (hh : 0 ≤ h ∧ h < n) (hi : 0 ≤ i ∧ i < n) (hq : 0 ≤ q ∧ q < n) (a : InU f r h q i) : Onw f r h i := by
  rw [T.cases hi hh]
  rcases a with ⟨_, a⟩ | ⟨_, a, c⟩
  · exact Or.inl a
  · exact Or.inr ⟨q, hq.1, hq.2, a, c⟩
theorem pl_eq {M A0 A N B : Mm} {n r h P s a a' : Int} {p : Int → Int} (b : BnT M n r) (hh : 0 ≤ h ∧ h < n) (o : OH M N n P) (t : UL M A0 h n.toNat) (sA : Sm A0 A [62]) (hO : OI A) (e8 : A 58 8 = B 66 47) (e95 : B 95 = N 95) (up : ∀ u, 0 ≤ u → u < A 58 8 → UP M A B n h p u) (sj : ∀ k, 0 ≤ k → k < A 58 8 → ∃ u, 0 ≤ u ∧ u < A 58 8 ∧ p u = k) (inj : ∀ u v, 0 ≤ u → u < v → v < A 58 8 → A 59 u < A 59 v) (x : PUx M A s a) (y : PLx N B r h s (N 66 24) a') : (a = -1 ∧ a' = -1) ∨ (0 ≤ a ∧ a < A 58 8 ∧ a' = p a) := by
  obtain ⟨o1, o2, o3, o4, o5, o6, o7⟩ := o
  obtain ⟨i, x1, x2⟩ := x
  rw [o1] at y
  rcases x1 with ⟨x1, x3⟩ | ⟨x1, x3, x4⟩
  · left
    rw [o3] at x3
    rcases x2 with ⟨x2, _⟩ | ⟨z0, z1, ⟨z2, _⟩, _⟩
    · refine ⟨x2, ?_⟩
      rcases y with ⟨y, _⟩ | ⟨j, j0, j1, j2, _⟩
      · exact y
      · exact absurd (by rw [← o4 j j0 j1]; exact j2) (x3 j j0 j1)
    · have := (hO.2.2 a z0 z1).1
      omega
  · rw [o3] at x3
    have T := b.2.1
    rcases UO_in b hh t sA ⟨x1, x3⟩ x2 with ⟨z1, z2⟩ | ⟨z0, z1, z2⟩
    · left
      refine ⟨z1, ?_⟩
      rcases y with ⟨y, _⟩ | ⟨j, j0, j1, j2, j3, _⟩
      · exact y
      · exfalso
        have ej : j = i := o5 j i j0 j1 x1 x3 (by rw [x4, ← o4 j j0 j1]; exact j2)
        rw [ej] at j3
        exact z2 ((Onw_cg T o2 ⟨x1, x3⟩).mpr j3)
    · right
      refine ⟨z0, z1, ?_⟩
      have ua := up a z0 z1
      have on := InU.on T hh ⟨x1, x3⟩ ua.2.1 z2
      rcases y with ⟨_, y⟩ | ⟨j, j0, j1, j2, j3, j4⟩
      · exact absurd ⟨by rw [o4 i x1 x3]; exact x4, (Onw_cg T o2 ⟨x1, x3⟩).mp on⟩ (y i x1 x3)
      · have ej : j = i := o5 j i j0 j1 x1 x3 (by rw [x4, ← o4 j j0 j1]; exact j2)
        rw [ej] at j4
        unfold ItP at j4
        rw [e95] at j4
        rcases j4 with ⟨k1, k2⟩ | ⟨k1, ⟨k2, k3⟩ | ⟨k2, k3, k4⟩⟩
        · have q : A 59 a = h := by
            rcases z2 with ⟨q, _⟩ | ⟨_, q1, q2⟩
            · exact q
            · rw [k1] at q2; exact absurd q2 (T.nself hh q1)
          rw [k2]
          exact (ua.1.2.2.2.2.mpr (ua.2.2.1.mp q)).symm
        · exfalso
          rcases z2 with ⟨_, q⟩ | ⟨q0, q1, q2⟩
          · exact k1 q
          · have hp : p a ≠ 0 := fun e => q0 (ua.2.2.1.mpr (ua.1.2.2.2.2.mp e))
            have hr := ua.1.1
            refine k3 (p a) (by omega) (by omega) ?_
            rw [ua.1.2.1]
            exact (Onw_cg T o2 ⟨x1, x3⟩).mp q2
        · obtain ⟨v, v0, v1, v2⟩ := sj a' (by omega) (by omega)
          have uv := up v v0 v1
          have hv : A 59 v ≠ h := fun e => by
            have := uv.1.2.2.2.2.mpr (uv.2.2.1.mp e)
            omega
          rw [← v2, uv.1.2.1] at k4
          have w : InU (M 51) r h (A 59 v) i := Or.inr ⟨hv, uv.2.2.2 hv, (Onw_cg T o2 ⟨x1, x3⟩).mpr k4⟩
          have e := InU.uq T hh ⟨x1, x3⟩ z2 w
          have ev : v = a := by
            by_cases c1 : v < a
            · have := inj v a v0 c1 z1; omega
            · by_cases c2 : a < v
              · have := inj a v z0 c2 v1; omega
              · omega
          rw [← v2, ev]
theorem OM_mk {M A N B : Mm} {n r r' h P : Int} {al be al' be' : Int → Int} (b : BnT M n r) (hT : TT (N 95) (N 66 24) r') (hh : 0 ≤ h ∧ h < n) (h9 : bHu (M 51) h n.toNat ≤ 9) (o : OH M N n P) (t : UM M A h n al be P) (s : TM N B r' h al' be' P) : OM A B h (pi M A h) := by
  have oo := o
  obtain ⟨o1, o2, o3, o4, o5, o6, o7⟩ := oo
  have hn := b.1
  have er : r' = r := b.2.1.root (by rw [o1] at hT; exact hT) o2
  rw [er] at hT s
  have hO := t.oi b hh h9
  have hR := s.ro (by rw [o1]; exact hn) hT (by rw [o1]; exact hh) (by rw [o1, bHu_cg o2 n.toNat (by omega)]; exact h9)
  obtain ⟨⟨A0, t1, sA⟩, t2, t3⟩ := t
  obtain ⟨⟨B0, s1, sB⟩, s2, s3⟩ := s
  obtain ⟨e8, up, sj, mo⟩ := UP_mk b hT hh o t1 sA s1 sB
  have e95 : B 95 = N 95 := by rw [sB 95 (by decide), s1.1 95 (by decide)]
  have hu := UL.hu b hh t1
  rw [← sA 58 (by decide), ← sA 61 (by decide)] at hu
  have pl : ∀ x, 0 ≤ x → x < P → ((al x = -1 ∧ al' x = -1) ∨ (0 ≤ al x ∧ al x < A 58 8 ∧ al' x = pi M A h (al x))) ∧ ((be x = -1 ∧ be' x = -1) ∨ (0 ≤ be x ∧ be x < A 58 8 ∧ be' x = pi M A h (be x))) := by
    intro x x0 x1
    have k1 := t2 x x0 x1
    have k2 := s2 x x0 x1
    rw [(o6 x x0 x1).1, (o6 x x0 x1).2] at k2
    exact ⟨pl_eq b hh o t1 sA hO e8 e95 up sj mo k1.1 k2.1, pl_eq b hh o t1 sA hO e8 e95 up sj mo k1.2 k2.2⟩
  have pj : ∀ u v, 0 ≤ u → u < A 58 8 → 0 ≤ v → v < A 58 8 → pi M A h u = pi M A h v → u = v := by
    intro u v u0 u1 v0 v1 e
    have k1 := (up u u0 u1).1.2.1
    have k2 := (up v v0 v1).1.2.1
    rw [e] at k1
    by_cases c1 : u < v
    · have := mo u v u0 c1 v1; omega
    · by_cases c2 : v < u
      · have := mo v u v0 c2 u1; omega
      · omega
  refine ⟨hO, hR, e8, fun u u0 u1 => (up u u0 u1).1, sj, mo, hu.2.2.2.2, fun u j u0 u1 j0 hj => ?_, fun k j k0 k1 j0 hj => ?_, fun u v u0 u1 v0 v1 => ?_⟩
  · rcases ((t3 u u0 u1).2 j j0).mp hj with ⟨g, _⟩ | ⟨x, x0, x1, x2, _⟩
    · have := hO.2.1; omega
    · rcases (pl x x0 x1).1 with g | g <;> omega
  · rcases ((s3 k k0 (by omega)).2 j j0).mp hj with ⟨g, _⟩ | ⟨x, x0, x1, x2, _⟩
    · have := hO.1; omega
    · rcases (pl x x0 x1).1 with g | g
      · omega
      · have := (up (al x) g.1 g.2.1).1.1
        omega
  · have uu := up u u0 u1
    have uv := up v v0 v1
    have ku := o7 (A 59 u) uu.2.1.1 uu.2.1.2
    rw [(t3 u u0 u1).2 v v0, (s3 (pi M A h u) uu.1.1.1 (by have := uu.1.1; omega)).2 (pi M A h v) uv.1.1.1, uu.1.2.1, ku]
    constructor
    · rintro (⟨g1, g2, g3⟩ | ⟨x, x0, x1, x2, x3, x4, x5⟩)
      · left
        have hp : pi M A h u ≠ 0 := fun e => g2 (uu.2.2.1.mpr (uu.1.2.2.2.2.mp e))
        have := uu.1.1
        refine ⟨uv.1.2.2.2.2.mpr g1, by omega, by omega, by omega⟩
      · right
        have q := pl x x0 x1
        have q1 := q.1.resolve_left (fun g => by omega)
        have q2 := q.2.resolve_left (fun g => by omega)
        refine ⟨x, x0, x1, by rw [q1.2.2, x2], by rw [q2.2.2, x3], fun e => x4 ?_⟩
        rw [q1.2.2, q2.2.2] at e
        exact pj _ _ q1.1 q1.2.1 q2.1 q2.2.1 e
    · rintro (⟨g1, g2, g3⟩ | ⟨x, x0, x1, x2, x3, x4⟩)
      · left
        have hp : A 59 u ≠ h := fun e => by
          have := uu.1.2.2.2.2.mpr (uu.2.2.1.mp e)
          omega
        exact ⟨uv.1.2.2.2.2.mp g1, hp, by omega⟩
      · right
        have k1 := uu.1.1
        have k2 := uv.1.1
        have q := pl x x0 x1
        have q1 := q.1.resolve_left (fun g => by omega)
        have q2 := q.2.resolve_left (fun g => by omega)
        have f1 : al x = v := pj _ _ q1.1 q1.2.1 v0 v1 (by omega)
        have f2 : be x = u := pj _ _ q2.1 q2.2.1 u0 u1 (by omega)
        exact ⟨x, x0, x1, f1, f2, fun e => x4 (by rw [q1.2.2, q2.2.2, e]), q2.1⟩
