/-! ORDERS: class and reference find the same -/
theorem Onw_cg {f g : Int → Int} {n r i q : Int} (T : TT f n r) (hg : ∀ d, 0 ≤ d → d < n → g d = f d) (hi : 0 ≤ i ∧ i < n) : Onw f r q i ↔ Onw g r q i := by
  obtain ⟨K, K0, K1, K2, K3, K4⟩ := T.way hi
  have e : ∀ j, j ≤ K → itf g j i = itf f j i := by
    intro j
    induction j with
    | zero => intro _; rfl
    | succ j ih =>
      intro hj
      have k1 := K1 j (by omega)
      rw [itf_s, itf_s, ih (by omega), hg _ k1.1 k1.2]
  constructor
  · rintro ⟨j, h1, h2⟩
    have hj : j ≤ K := by
      by_cases c : j ≤ K
      · exact c
      · exact absurd K3 (h2 K (by omega))
    exact ⟨j, by rw [e j hj]; exact h1, fun j2 h3 => by rw [e j2 (by omega)]; exact h2 j2 h3⟩
  · rintro ⟨j, h1, h2⟩
    have hj : j ≤ K := by
      by_cases c : j ≤ K
      · exact c
      · exact absurd (by rw [e K (by omega)]; exact K3) (h2 K (by omega))
    exact ⟨j, by rw [← e j hj]; exact h1, fun j2 h3 => by rw [← e j2 (by omega)]; exact h2 j2 h3⟩
theorem Iv_cg {f g : Int → Int} {n r i l u : Int} (T : TT f n r) (hg : ∀ d, 0 ≤ d → d < n → g d = f d) : Iv f n r i l u ↔ Iv g n r i l u := by
  unfold Iv
  refine ⟨fun ⟨a, b⟩ => ⟨a, fun d d0 d1 => by rw [← Onw_cg T hg ⟨d0, d1⟩]; exact b d d0 d1⟩, fun ⟨a, b⟩ => ⟨a, fun d d0 d1 => by rw [Onw_cg T hg ⟨d0, d1⟩]; exact b d d0 d1⟩⟩
theorem TT.root {f g : Int → Int} {n r r' : Int} (T : TT f n r) (T' : TT g n r') (hg : ∀ d, 0 ≤ d → d < n → g d = f d) : r' = r := by
  have h' := T'.1.1
  have h1 := T'.2
  rw [hg r' (by omega) (by omega)] at h1
  rcases T.rg (d := r') (by omega) with ⟨q, _⟩ | ⟨_, q⟩
  · exact q
  · omega
theorem bHu_cg {f g : Int → Int} {n h : Int} (hg : ∀ d, 0 ≤ d → d < n → g d = f d) : ∀ d : Nat, (d : Int) ≤ n → bHu g h d = bHu f h d := by
  intro d hd
  exact cntB_congr d (fun q q0 q1 => by rw [hg q q0 (by omega)])
/-- what an item of the class is beside one of the reference: kind of match, set by set -/
def pi (M1 M2 : Mm) (h u : Int) : Int := if M2 59 u = h then 0 else 1 + bHu (M1 51) h (M2 59 u).toNat
/-- units and items, and the bits that must be ahead -/
def OM (M2 N2 : Mm) (h : Int) (p : Int → Int) : Prop := OI M2 ∧ RO N2 ∧ M2 58 8 = N2 66 47 ∧ (∀ u, 0 ≤ u → u < M2 58 8 → (0 ≤ p u ∧ p u < M2 58 8) ∧ N2 98 (p u) = M2 59 u ∧ N2 99 (p u) = M2 61 u ∧ N2 100 (p u) = M2 59 u - M2 60 u ∧ (p u = 0 ↔ u = M2 58 9)) ∧ (∀ k, 0 ≤ k → k < M2 58 8 → ∃ u, 0 ≤ u ∧ u < M2 58 8 ∧ p u = k) ∧ (∀ u v, 0 ≤ u → u < v → v < M2 58 8 → M2 59 u < M2 59 v) ∧ M2 61 (M2 58 9) = 1 ∧
  (∀ u j, 0 ≤ u → u < M2 58 8 → 0 ≤ j → inS (M2 62 u) j → j < M2 58 8) ∧ (∀ k j, 0 ≤ k → k < M2 58 8 → 0 ≤ j → inS (N2 101 k) j → j < M2 58 8) ∧ ∀ u v, 0 ≤ u → u < M2 58 8 → 0 ≤ v → v < M2 58 8 → (inS (M2 62 u) v ↔ inS (N2 101 (p u)) (p v))
theorem OM.inj {M2 N2 : Mm} {h : Int} {p : Int → Int} (o : OM M2 N2 h p) {u v : Int} (hu : 0 ≤ u ∧ u < M2 58 8) (hv : 0 ≤ v ∧ v < M2 58 8) (e : p u = p v) : u = v := by
  have a := (o.2.2.2.1 u hu.1 hu.2).2.1
  have b := (o.2.2.2.1 v hv.1 hv.2).2.1
  rw [e] at a
  have hm := o.2.2.2.2.2.1
  by_cases c1 : u < v
  · have := hm u v hu.1 c1 hv.2; omega
  · by_cases c2 : v < u
    · have := hm v u hv.1 c2 hu.2; omega
    · omega
def ORl (M2 N2 : Mm) (p : Int → Int) (s t : Int) : Prop := (0 ≤ s ∧ s < o2n M2) ∧ (0 ≤ t ∧ t < r2n N2) ∧ (∀ u, 0 ≤ u → u < M2 58 8 → (inS s u ↔ inS t (p u))) ∧ gsz (M2 61) s (M2 58 8).toNat = ssz N2 t (N2 66 47).toNat ∧ pcS s = pcS t
theorem two_eq {M2 N2 : Mm} (h : M2 58 8 = N2 66 47) : o2n M2 = r2n N2 := by unfold o2n r2n; rw [h]
theorem ssz_gsz (N : Mm) (t : Int) (k : Nat) : ssz N t k = gsz (N 99) t k := rfl
theorem ORl.step {M2 N2 : Mm} {h : Int} {p : Int → Int} (o : OM M2 N2 h p) {s t u : Int} (r : ORl M2 N2 p s t) (hu : 0 ≤ u ∧ u < M2 58 8) (hn : ¬ inS s u) : ORl M2 N2 p (zor s (zshl 1 u)) (zor t (zshl 1 (p u))) ∧ gsz (M2 61) (zor s (zshl 1 u)) (M2 58 8).toNat = gsz (M2 61) s (M2 58 8).toNat + M2 61 u ∧ pcS (zor s (zshl 1 u)) = pcS s + 1 := by
  have hO := o.1
  have hR := o.2.1
  have hm := hO.1
  have w1 := o2n_le hO
  have w2 := r2n_le hR
  have e47 := o.2.2.1
  obtain ⟨r1, r2, r3, r4, r5⟩ := r
  have pu := o.2.2.2.1 u hu.1 hu.2
  have hn' : ¬ inS t (p u) := fun g => hn ((r3 u hu.1 hu.2).mpr g)
  have g1 := gsz_or (S := M2 61) (s := s) (u := u) (by omega) (by omega) hn (M2 58 8).toNat
  have g2 := ssz_or (M := N2) (s := t) (u := p u) (by omega) (by omega) hn' (N2 66 47).toNat
  rw [if_pos (by omega)] at g1 g2
  have g3 := pcS_or (s := s) (u := u) (by omega) (by omega) hn
  have g4 := pcS_or (s := t) (u := p u) (by omega) (by omega) hn'
  refine ⟨⟨zor_o hO r1 hu, zor_r hR r2 (by omega), fun v v0 v1 => ?_, by rw [g1, g2, r4, pu.2.2.1], by rw [g3, g4, r5]⟩, g1, g3⟩
  have pv := o.2.2.2.1 v v0 v1
  rw [inS_or (by omega) (by omega) v, inS_or (by omega) (by omega) (p v), r3 v v0 v1]
  constructor
  · rintro (g | g)
    · exact Or.inl g
    · right; have : v = u := by omega
      rw [this]
  · rintro (g | g)
    · exact Or.inl g
    · right
      have : v = u := o.inj ⟨v0, v1⟩ hu (by omega)
      rw [this]
theorem OM.may {M2 N2 : Mm} {h : Int} {p : Int → Int} (o : OM M2 N2 h p) {s t u : Int} (r : ORl M2 N2 p s t) (hu : 0 ≤ u ∧ u < M2 58 8) : oMay M2 u s ↔ rMay N2 (p u) t := by
  obtain ⟨r1, r2, r3, r4, r5⟩ := r
  obtain ⟨hO, hR, e47, o4, o5, o6, o7, o8, o9, o10⟩ := o
  have pu := o4 u hu.1 hu.2
  unfold oMay rMay
  rw [r3 u hu.1 hu.2]
  refine and_congr Iff.rfl ?_
  constructor
  · intro g j hj
    have hj2 : inS (N2 101 (p u)) (j : Int) := hj
    have jl := o9 (p u) (j : Int) pu.1.1 pu.1.2 (by omega) hj2
    obtain ⟨v, v0, v1, v2⟩ := o5 (j : Int) (by omega) jl
    rw [← v2] at hj2
    have g2 := g v.toNat ((o10 u v hu.1 hu.2 v0 v1).mpr hj2)
    have g3 := (r3 v v0 v1).mp g2
    rw [v2] at g3
    exact g3
  · intro g j hj
    have hj2 : inS (M2 62 u) (j : Int) := hj
    have jl := o8 u (j : Int) hu.1 hu.2 (by omega) hj2
    have g2 := g (p (j : Int)).toNat ((o10 u (j : Int) hu.1 hu.2 (by omega) jl).mp hj2)
    exact (r3 (j : Int) (by omega) jl).mpr g2
theorem pcS_m {t : Int} {m : Int} (hm : 0 ≤ m ∧ m ≤ 10) (ht : 0 ≤ t ∧ t < ((2 ^ m.toNat : Nat) : Int)) (h0 : ¬ inS t 0) : ahN t m.toNat = pcS t := by
  have hb : ∀ j : Nat, m.toNat ≤ j → t.toNat.testBit j = false := fun j hj => by
    apply Nat.testBit_lt_two_pow
    exact Nat.lt_of_lt_of_le (by omega : t.toNat < 2 ^ m.toNat) (Nat.pow_le_pow_right (by decide) hj)
  have e1 : ∀ d : Nat, d ≤ 10 - m.toNat → cntB (fun k => t.toNat.testBit k.toNat) (m.toNat + d) = cntB (fun k => t.toNat.testBit k.toNat) m.toNat := by
    intro d
    induction d with
    | zero => intro _; rfl
    | succ d ih =>
      intro hd
      rw [show m.toNat + (d + 1) = (m.toNat + d) + 1 by omega, cntB, ih (by omega), Int.toNat_natCast, hb _ (by omega)]; simp
  unfold ahN pcS
  rw [show (10 : Nat) = m.toNat + (10 - m.toNat) by omega, e1 _ (Nat.le_refl _)]
  refine cntB_congr _ (fun j j0 j1 => ?_)
  by_cases c : 1 ≤ j
  · simp [c]
  · have : j = 0 := by omega
    subst this
    rw [show t.toNat.testBit (0 : Int).toNat = false from Bool.eq_false_iff.mpr h0]; rfl
/-- what class and reference reckon differs by this, set by set -/
def phi (M2 : Mm) (s : Int) : Int := if inS s (M2 58 9) then (M2 58 8 - pcS s) * (gsz (M2 61) s (M2 58 8).toNat - 1) else pcS s * gsz (M2 61) s (M2 58 8).toNat
theorem phi_step {M2 N2 : Mm} {h : Int} {p : Int → Int} (o : OM M2 N2 h p) {s t u : Int} (r : ORl M2 N2 p s t) (hu : 0 ≤ u ∧ u < M2 58 8) (hn : ¬ inS s u) : oStep M2 u s + phi M2 s = rPl N2 t (p u) + phi M2 (zor s (zshl 1 u)) := by
  obtain ⟨st, sg, sp⟩ := r.step o hu hn
  have hO := o.1
  have hm := hO.1
  have hh := hO.2.1
  have w1 := o2n_le hO
  obtain ⟨r1, r2, r3, r4, r5⟩ := r
  have e47 := o.2.2.1
  have pu := o.2.2.2.1 u hu.1 hu.2
  have ph := o.2.2.2.1 (M2 58 9) hh.1 hh.2
  have hp0 : p (M2 58 9) = 0 := ph.2.2.2.2.mpr rfl
  have hs0 : inS s (M2 58 9) ↔ inS t 0 := by rw [r3 _ hh.1 hh.2, hp0]
  have h61 := o.2.2.2.2.2.2.1
  have hz := inS_or (x := s) (by omega) (k := u) (by omega) (M2 58 9)
  unfold phi oStep rPl
  rw [sg, sp, ← r4, pu.2.2.2.1]
  generalize gsz (M2 61) s (M2 58 8).toNat = Z at *
  by_cases cu : u = M2 58 9
  · have c1 : ¬ inS s (M2 58 9) := by rw [← cu]; exact hn
    have c2 : inS (zor s (zshl 1 u)) (M2 58 9) := hz.mpr (Or.inr (by omega))
    have c3 : ¬ inS t 0 := fun g => c1 (hs0.mpr g)
    have hp : p u = 0 := by rw [cu]; exact hp0
    rw [if_pos cu, if_neg c1, if_pos c2, hp, if_neg (by omega), cu, h61, pcS_m (t := t) (m := N2 66 47) (by omega) (by unfold r2n at r2; exact r2) c3, ← r5, ← e47]
    generalize pcS s = a
    rw [Int.mul_sub, show M2 58 8 - (a + 1) = M2 58 8 - 1 - a by omega, show Z + 1 - 1 = Z by omega, Int.mul_comm (M2 58 8 - 1 - a) Z, Int.mul_comm a Z]
    omega
  · have hp : 0 < p u := by
      have : p u ≠ 0 := fun g => cu (pu.2.2.2.2.mp g)
      omega
    rw [if_neg cu, if_pos hp]
    by_cases c1 : inS s (M2 58 9)
    · have c2 : inS (zor s (zshl 1 u)) (M2 58 9) := hz.mpr (Or.inl c1)
      rw [if_pos c1, if_pos c1, if_pos c2, if_pos (hs0.mp c1)]
      generalize pcS s = a
      generalize M2 61 u = S
      rw [show M2 58 8 - (a + 1) = M2 58 8 - a - 1 by omega, Int.mul_sub (M2 58 8 - a) Z 1, show Z + S - 1 = Z + (S - 1) by omega, Int.mul_add (M2 58 8 - a - 1) Z (S - 1), Int.mul_sub (M2 58 8 - a - 1) S 1, Int.sub_mul (M2 58 8 - a) 1 Z, Int.mul_comm S (M2 58 8 - a - 1)]
      omega
    · have c2 : ¬ inS (zor s (zshl 1 u)) (M2 58 9) := fun g => (hz.mp g).elim c1 (fun g => cu (by omega))
      rw [if_neg c1, if_neg c1, if_neg c2, if_neg (fun g => c1 (hs0.mpr g))]
      generalize pcS s = a
      generalize M2 61 u = S
      rw [Int.add_mul a 1 (Z + S), Int.mul_add a Z S, Int.mul_comm S a]
      omega
