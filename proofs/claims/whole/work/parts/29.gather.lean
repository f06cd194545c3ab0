/-- a text as it is kept -/
def txOk (M : Mm) (t : Nat) : Prop := (0 ≤ M t 7 ∧ M t 7 ≤ 24) ∧ ∀ s, 0 ≤ s → s < M t 7 → (0 ≤ M (t + 4) s ∧ 1 ≤ M (t + 5) s ∧ M (t + 5) s ≤ 40 ∧ M (t + 4) s + M (t + 5) s ≤ 960 ∧ (s + 1 < M t 7 → M (t + 4) s + M (t + 5) s ≤ M (t + 4) (s + 1))) ∧ ∀ k, 0 ≤ k → k < M (t + 5) s → 0 ≤ M (t + 2) (M (t + 4) s + k) ∧ 0 ≤ M (t + 3) (M (t + 4) s + k) ∧ M (t + 3) (M (t + 4) s + k) ≤ 16 ∧ M (t + 2) (M (t + 4) s + k) + M (t + 3) (M (t + 4) s + k) ≤ 3000
/-- where word k of sentence s begins, how long it is -/
def wS (M : Mm) (t : Nat) (s k : Int) : Int := M (t + 2) (M (t + 4) s + k)
def wL (M : Mm) (t : Nat) (s k : Int) : Int := M (t + 3) (M (t + 4) s + k)
/-- the sign that a sentence begins with, by its place in the table (-1: none) -/
def Fd7 (M : Mm) (a : Nat) (p n z : Int) : Prop := (z = -1 ∧ ∀ i, 0 ≤ i → i < M 7 5 → ¬ (M 9 i = n ∧ wAt M 8 9 16 i a p)) ∨ (0 ≤ z ∧ z < M 7 5 ∧ (M 9 z = n ∧ wAt M 8 9 16 z a p) ∧ ∀ i, 0 ≤ i → i < z → ¬ (M 9 i = n ∧ wAt M 8 9 16 i a p))
def isSg (M : Mm) (t : Nat) (s : Int) : Prop := ∃ i, 0 ≤ i ∧ i < M 7 5 ∧ M 9 i = wL M t s 0 ∧ wAt M 8 9 16 i (t + 1) (wS M t s 0)
theorem Fd7_sg {M : Mm} {t : Nat} {s z : Int} (h : Fd7 M (t + 1) (wS M t s 0) (wL M t s 0) z) : (0 ≤ z ↔ isSg M t s) ∧ -1 ≤ z ∧ z < max 1 (M 7 5) := by
  rcases h with ⟨h1, h2⟩ | ⟨h1, h2, h3, h4⟩
  · exact ⟨⟨fun q => by omega, fun ⟨i, i1, i2, i3⟩ => absurd i3 (h2 i i1 i2)⟩, by omega, by omega⟩
  · exact ⟨⟨fun _ => ⟨z, h1, h2, h3⟩, fun _ => h1⟩, by omega, by omega⟩
/-- key q stands for word k of sentence s -/
def Hk (M A : Mm) (t : Nat) (s k q : Int) : Prop := ¬ isStop M (t + 1) (wS M t s k) (wL M t s k) ∧ ∃ lost, lost ≤ 6 ∧ eLost M 12 13 6 (M 11 5) (t + 1) (wS M t s k) (wL M t s k) lost ∧ isK A (t + 1) q (wS M t s k) (wL M t s k - lost)
abbrev kRows : List Nat := [31, 32, 35, 36, 37, 38, 39]
/-- the keys of those words that P tells -/
def GI (M A : Mm) (t : Nat) (P : Int → Int → Prop) : Prop := KT A (t + 1) ∧ Sm M A kRows ∧ (∀ s q, 0 ≤ s → s < 24 → 0 ≤ q → q < 960 → kb A s q → q < A 31 8 ∧ ∃ k, P s k ∧ Hk M A t s k q) ∧ ∀ s k, P s k → ¬ isStop M (t + 1) (wS M t s k) (wL M t s k) → ∃ q, 0 ≤ q ∧ q < A 31 8 ∧ kb A s q ∧ Hk M A t s k q
theorem GI.congr {M A : Mm} {t : Nat} {P Q : Int → Int → Prop} (h : GI M A t P) (e : ∀ s k, P s k ↔ Q s k) : GI M A t Q :=
  ⟨h.1, h.2.1, fun s q h1 h2 h3 h4 h5 => by obtain ⟨g1, k, g2, g3⟩ := h.2.2.1 s q h1 h2 h3 h4 h5; exact ⟨g1, k, (e s k).mp g2, g3⟩, fun s k hq hn => h.2.2.2 s k ((e s k).mpr hq) hn⟩
theorem GI.p32 {M A : Mm} {t : Nat} (ht : t = 17 ∨ t = 24) {P : Int → Int → Prop} (h : GI M A t P) (i v : Int) : GI M (mput A 32 i v) t P := by
  obtain ⟨h1, h2, h3, h4⟩ := h
  have na : t + 1 ≠ 32 := by omega
  refine ⟨?_, h2.put (by decide), ?_, ?_⟩
  · unfold KT isK at *
    simp (disch := first | decide | assumption) only [mput_ne]
    exact h1
  · unfold kb Hk isK at *
    simp (disch := first | decide | assumption) only [mput_ne]
    exact h3
  · unfold kb Hk isK at *
    simp (disch := first | decide | assumption) only [mput_ne]
    exact h4
/-- one word more is taken -/
theorem GI.more {M A B : Mm} {t : Nat} (ht : t = 17 ∨ t = 24) {P : Int → Int → Prop} {s0 k0 : Int} (hs0 : 0 ≤ s0 ∧ s0 < 24) (hP : ∀ s k, P s k → 0 ≤ s ∧ s < 24) (h : GI M A t P)
    (hB : (isStop M (t + 1) (wS M t s0 k0) (wL M t s0 k0) ∧ B = A) ∨ (¬ isStop M (t + 1) (wS M t s0 k0) (wL M t s0 k0) ∧ ∃ lost z, lost ≤ 6 ∧ eLost M 12 13 6 (M 11 5) (t + 1) (wS M t s0 k0) (wL M t s0 k0) lost ∧ KT B (t + 1) ∧ Sm A B [31, 35, 36, 37, 38, 39] ∧ (0 ≤ z ∧ z < B 31 8) ∧ isK B (t + 1) z (wS M t s0 k0) (wL M t s0 k0 - lost) ∧ (A 31 8 ≤ B 31 8 ∧ B 31 8 ≤ A 31 8 + 1) ∧ (∀ k, 0 ≤ k → k < A 31 8 → B 36 k = A 36 k ∧ B 37 k = A 37 k) ∧ ∀ s' k', 0 ≤ s' → s' < 24 → 0 ≤ k' → k' < 960 → (kb B s' k' ↔ kb A s' k' ∨ (s' = s0 ∧ k' = z)))) :
    GI M B t (fun s k => P s k ∨ (s = s0 ∧ k = k0)) := by
  obtain ⟨h1, h2, h3, h4⟩ := h
  rcases hB with ⟨hst, rfl⟩ | ⟨hst, lost, z, l6, hE, o1, o2, o3, o4, o5, o6, o7⟩
  · refine ⟨h1, h2, fun s q g1 g2 g3 g4 g5 => ?_, fun s k hq hn => ?_⟩
    · obtain ⟨e1, k, e2, e3⟩ := h3 s q g1 g2 g3 g4 g5
      exact ⟨e1, k, Or.inl e2, e3⟩
    · rcases hq with hq | ⟨rfl, rfl⟩
      · exact h4 s k hq hn
      · exact absurd hst hn
  · have ea : B (t + 1) = A (t + 1) := o2 (t + 1) (by rcases ht with rfl | rfl <;> decide)
    have hT := o1.1
    have keep : ∀ s k q, 0 ≤ q → q < A 31 8 → Hk M A t s k q → Hk M B t s k q := by
      rintro s k q q0 q1 ⟨g1, l', g2, g3, g4⟩
      refine ⟨g1, l', g2, g3, ?_⟩
      unfold isK at *
      rw [(o6 q q0 q1).1, (o6 q q0 q1).2, ea]
      exact g4
    refine ⟨o1, ?_, fun s q g1 g2 g3 g4 g5 => ?_, fun s k hq hn => ?_⟩
    · exact h2.tr o2 (fun _ h => h) (fun a h => by simp only [kRows, List.mem_cons, List.not_mem_nil, or_false] at h ⊢; omega)
    · rcases (o7 s q g1 g2 g3 g4).mp g5 with g | ⟨e1, e2⟩
      · obtain ⟨e1, k, e2, e3⟩ := h3 s q g1 g2 g3 g4 g
        exact ⟨by omega, k, Or.inl e2, keep s k q g3 e1 e3⟩
      · subst e1; subst e2
        exact ⟨o3.2, k0, Or.inr ⟨rfl, rfl⟩, hst, lost, l6, hE, o4⟩
    · rcases hq with hq | ⟨rfl, rfl⟩
      · obtain ⟨q, e1, e2, e3, e4⟩ := h4 s k hq hn
        have hsr := hP s k hq
        exact ⟨q, e1, by omega, (o7 s q hsr.1 hsr.2 e1 (by omega)).mpr (Or.inl e3), keep s k q e1 e2 e4⟩
      · exact ⟨z, o3.1, o3.2, (o7 s z hs0.1 hs0.2 o3.1 (by omega)).mpr (Or.inr ⟨rfl, rfl⟩), hst, lost, l6, hE, o4⟩
/-- the words of sentences ahead of s, and the first k of s; not a sign that one begins with -/
def PG (M : Mm) (t : Nat) (s k : Int) : Int → Int → Prop := fun s' j => 0 ≤ s' ∧ s' < 24 ∧ 0 ≤ j ∧ j < M (t + 5) s' ∧ (1 ≤ j ∨ ¬ isSg M t s') ∧ (s' < s ∨ (s' = s ∧ j < k))
theorem GI_init {M : Mm} {t : Nat} (ht : t = 17 ∨ t = 24) : GI M (mfl (mfl (mput M 31 8 0) 35 (ln 35) 0) 39 (ln 39) (-1)) t (PG M t 0 0) ∧ mfl (mfl (mput M 31 8 0) 35 (ln 35) 0) 39 (ln 39) (-1) 31 8 = 0 := by
  have e31 : mfl (mfl (mput M 31 8 0) 35 (ln 35) 0) 39 (ln 39) (-1) 31 8 = 0 := by
    rw [mfl_ne (by decide), mfl_ne (by decide), mput_eq]
  have l35 : ((ln 35 : Nat) : Int) = 360 := by decide
  have l39 : ((ln 39 : Nat) : Int) = 256 := by decide
  refine ⟨⟨⟨?_, ?_, ?_, ?_, ?_, ?_⟩, ?_, ?_, ?_⟩, e31⟩
  · rw [e31]; omega
  · intro k h1 h2; rw [e31] at h2; omega
  · intro k h1 h2; rw [e31] at h2; omega
  · intro b h1 h2
    rw [e31, mfl_at, if_pos (by omega)]; omega
  · intro k h1 h2; rw [e31] at h2; omega
  · intro j k h1 h2 h3; rw [e31] at h3; omega
  · intro a h
    have n1 : a ≠ 39 := fun q => h (by rw [q]; decide)
    have n2 : a ≠ 35 := fun q => h (by rw [q]; decide)
    have n3 : a ≠ 31 := fun q => h (by rw [q]; decide)
    rw [mfl_ne n1, mfl_ne n2, mput_ne n3]
  · intro s q h1 h2 h3 h4 h5
    exfalso
    unfold kb at h5
    rw [mfl_ne (by decide), mfl_at, if_pos (by omega)] at h5
    exact (tbl_zero (x := 0) (by decide)).mp rfl (q % 64) (by omega) (by omega) h5
  · rintro s k ⟨h1, h2, h3, h4, h5, h6⟩
    omega
theorem isStop_sm {M A : Mm} {a : Nat} (h : Sm M A kRows) (ha : a = 18 ∨ a = 25) (p n : Int) : isStop A a p n = isStop M a p n := by
  unfold isStop wAt
  rw [h 3 (by decide), h 4 (by decide), h 5 (by decide), h a (by rcases ha with rfl | rfl <;> decide)]
theorem eLost_sm {M A : Mm} {a : Nat} (h : Sm M A kRows) (ha : a = 18 ∨ a = 25) (m p n l : Int) : eLost A 12 13 6 m a p n l = eLost M 12 13 6 m a p n l := by
  unfold eLost eFit wAt
  rw [h 12 (by decide), h 13 (by decide), h a (by rcases ha with rfl | rfl <;> decide)]
theorem Fd7_sm {M A : Mm} {a : Nat} (h : Sm M A kRows) (ha : a = 18 ∨ a = 25) (p n z : Int) : Fd7 A a p n z = Fd7 M a p n z := by
  unfold Fd7 wAt
  rw [h 7 (by decide), h 8 (by decide), h 9 (by decide), h a (by rcases ha with rfl | rfl <;> decide)]

set_option maxRecDepth 20000 in
set_option maxHeartbeats 4000000 in
theorem ct_X2_gather (E : Ev) (t : Nat) (ht : t = 17 ∨ t = 24) (M : Mm) (hX : txOk M t) (h3 : tW M 3 60 16) (h7 : tW M 7 30 16) (h11 : tW M 11 10 6) : Ct E yX2_gather cX2_gather 9 none 3 [zr E 31, zr E t, zr E 3, zr E 7, zr E 11] M (pV (fun M' => Sm M M' [31, 32, 33, 34, 35, 36, 37, 38, 39] ∧ (∃ A, GI M A t (PG M t (M t 7) 0) ∧ Sm A M' [33, 34]) ∧ (∀ s', 0 ≤ s' → s' < M t 7 → ∃ z, Fd7 M (t + 1) (wS M t s' 0) (wL M t s' 0) z ∧ M' 32 s' = if 0 ≤ z then M 10 z else 0) ∧ (∀ a b, 0 ≤ b → b ≤ a → a < M t 7 → M' 34 (a * 24 + b) = shL M' a b ((M' 31 8 + 63) / 64).toNat ∧ M' 34 (b * 24 + a) = shL M' a b ((M' 31 8 + 63) / 64).toNat) ∧ ∀ a, 0 ≤ a → a < M t 7 → M' 33 a = shL M' a a ((M' 31 8 + 63) / 64).toNat)) := by
  refine Ct.of (own := RX2) (lv0 := [some (zr E 31), some (zr E t), some (zr E 3), some (zr E 7), some (zr E 11), none, none, none, none]) (by decide) rfl (Nat.le_of_ble_eq_true rfl) rfl (fun κ C => ?_)
  obtain ⟨l1, l2, l3, l4, l5, l6⟩ := lnT ht
  have ha : t + 1 = 18 ∨ t + 1 = 25 := by omega
  have hsr : t + 1 < NID ∧ kd (t + 1) = 20 := by rcases ht with rfl | rfl <;> decide
  obtain ⟨hn, hXs⟩ := hX
  obtain ⟨a0, a1, a5, aT⟩ := id h7
  have L24 : ∀ (n9 : Nat) (A : Mm) (s : Int) (u6 u7 u8 : Option Value) (hs : 0 ≤ s ∧ s ≤ M t 7) (hG : GI M A t (PG M t s 0)) (hTs : s < M t 7 → A 31 8 ≤ M (t + 4) s) (hkd : ∀ s', 0 ≤ s' → s' < s → ∃ z, Fd7 M (t + 1) (wS M t s' 0) (wL M t s' 0) z ∧ A 32 s' = if 0 ≤ z then M 10 z else 0) (hm : (M t 7 - s).toNat < n9), Gm E κ (pV (fun M' => Sm M M' [31, 32, 33, 34, 35, 36, 37, 38, 39] ∧ (∃ A, GI M A t (PG M t (M t 7) 0) ∧ Sm A M' [33, 34]) ∧ (∀ s', 0 ≤ s' → s' < M t 7 → ∃ z, Fd7 M (t + 1) (wS M t s' 0) (wL M t s' 0) z ∧ M' 32 s' = if 0 ≤ z then M 10 z else 0) ∧ (∀ a b, 0 ≤ b → b ≤ a → a < M t 7 → M' 34 (a * 24 + b) = shL M' a b ((M' 31 8 + 63) / 64).toNat ∧ M' 34 (b * 24 + a) = shL M' a b ((M' 31 8 + 63) / 64).toNat) ∧ ∀ a, 0 ≤ a → a < M t 7 → M' 33 a = shL M' a a ((M' 31 8 + 63) / 64).toNat)) 9 24 [some (zr E 31), some (zr E t), some (zr E 3), some (zr E 7), some (zr E 11), some (zi s), u6, u7, u8] [] A := by
    intro n9
    induction n9 with
    | zero => intro A s u6 u7 u8 hs hG hTs hkd hm; exact absurd hm (Nat.not_lt_zero _)
    | succ n9 ih24 =>
      intro A s u6 u7 u8 hs hG hTs hkd hm
      have hSm := hG.2.1
      have et : A t = M t := hSm t (by rcases ht with rfl | rfl <;> decide)
      have e1 : A (t + 1) = M (t + 1) := hSm (t + 1) (by rcases ht with rfl | rfl <;> decide)
      have e2 : A (t + 2) = M (t + 2) := hSm (t + 2) (by rcases ht with rfl | rfl <;> decide)
      have e3 : A (t + 3) = M (t + 3) := hSm (t + 3) (by rcases ht with rfl | rfl <;> decide)
      have e4 : A (t + 4) = M (t + 4) := hSm (t + 4) (by rcases ht with rfl | rfl <;> decide)
      have e5 : A (t + 5) = M (t + 5) := hSm (t + 5) (by rcases ht with rfl | rfl <;> decide)
      have L88 : ∀ (z v : Int) (u8 : Option Value) (hsl : s < M t 7) (hz : Fd7 M (t + 1) (wS M t s 0) (wL M t s 0) z) (hv : v = if 0 ≤ z then M 10 z else 0) (hvr : rg v), Gm E κ (pV (fun M' => Sm M M' [31, 32, 33, 34, 35, 36, 37, 38, 39] ∧ (∃ A, GI M A t (PG M t (M t 7) 0) ∧ Sm A M' [33, 34]) ∧ (∀ s', 0 ≤ s' → s' < M t 7 → ∃ z, Fd7 M (t + 1) (wS M t s' 0) (wL M t s' 0) z ∧ M' 32 s' = if 0 ≤ z then M 10 z else 0) ∧ (∀ a b, 0 ≤ b → b ≤ a → a < M t 7 → M' 34 (a * 24 + b) = shL M' a b ((M' 31 8 + 63) / 64).toNat ∧ M' 34 (b * 24 + a) = shL M' a b ((M' 31 8 + 63) / 64).toNat) ∧ ∀ a, 0 ≤ a → a < M t 7 → M' 33 a = shL M' a a ((M' 31 8 + 63) / 64).toNat)) 9 88 [some (zr E 31), some (zr E t), some (zr E 3), some (zr E 7), some (zr E 11), some (zi s), some (zi (M (t + 4) s)), some (zi z), u8] [zi v, zi s, zr E 32] A := by
        intro z v u8 hsl hz hv hvr
        obtain ⟨z1, z2, z3⟩ := Fd7_sg hz
        have hxs := hXs s hs.1 hsl
        have ht5 := hTs hsl
        have L101 : ∀ (n9 : Nat) (B : Mm) (k : Int) (hk : 0 ≤ k ∧ k ≤ M (t + 5) s) (hkz : 0 ≤ z → 1 ≤ k) (hGB : GI M B t (PG M t s k)) (hTB : B 31 8 ≤ M (t + 4) s + k) (hkB : ∀ s', 0 ≤ s' → s' < s + 1 → ∃ z, Fd7 M (t + 1) (wS M t s' 0) (wL M t s' 0) z ∧ B 32 s' = if 0 ≤ z then M 10 z else 0) (hm : (M (t + 5) s - k).toNat < n9), Gm E κ (pV (fun M' => Sm M M' [31, 32, 33, 34, 35, 36, 37, 38, 39] ∧ (∃ A, GI M A t (PG M t (M t 7) 0) ∧ Sm A M' [33, 34]) ∧ (∀ s', 0 ≤ s' → s' < M t 7 → ∃ z, Fd7 M (t + 1) (wS M t s' 0) (wL M t s' 0) z ∧ M' 32 s' = if 0 ≤ z then M 10 z else 0) ∧ (∀ a b, 0 ≤ b → b ≤ a → a < M t 7 → M' 34 (a * 24 + b) = shL M' a b ((M' 31 8 + 63) / 64).toNat ∧ M' 34 (b * 24 + a) = shL M' a b ((M' 31 8 + 63) / 64).toNat) ∧ ∀ a, 0 ≤ a → a < M t 7 → M' 33 a = shL M' a a ((M' 31 8 + 63) / 64).toNat)) 9 101 [some (zr E 31), some (zr E t), some (zr E 3), some (zr E 7), some (zr E 11), some (zi s), some (zi (M (t + 4) s)), some (zi z), some (zi k)] [] B := by
          intro n9
          induction n9 with
          | zero => intro B k  hk hkz hGB hTB hkB hm; exact absurd hm (Nat.not_lt_zero _)
          | succ n9 ih101 =>
            intro B k  hk hkz hGB hTB hkB hm
            have hSmB := hGB.2.1
            have f5 : B (t + 5) = M (t + 5) := hSmB (t + 5) (by rcases ht with rfl | rfl <;> decide)
            have f4 : B (t + 4) = M (t + 4) := hSmB (t + 4) (by rcases ht with rfl | rfl <;> decide)
            have f2 : B (t + 2) = M (t + 2) := hSmB (t + 2) (by rcases ht with rfl | rfl <;> decide)
            have f3 : B (t + 3) = M (t + 3) := hSmB (t + 3) (by rcases ht with rfl | rfl <;> decide)
            have hxs := hXs s hs.1 hsl
            refine s_iload C dX2_gather_101 rfl ?_
            refine s_aload_n C dX2_gather_103 rfl ?_
            refine s_getr (k := 4) (b := t + 5) C dX2_gather_104 fl_X2_76 (by rcases ht with rfl | rfl <;> decide) (by rcases ht with rfl | rfl <;> decide) (by decide) (by rcases ht with rfl | rfl <;> decide) ?_
            refine s_iload C dX2_gather_107 rfl ?_
            refine s_iaload (z := M (t + 5) s) C dX2_gather_109 (by rcases ht with rfl | rfl <;> decide) (by rcases ht with rfl | rfl <;> decide) rfl (by omega) (by omega) (by omega) (by rw [f5]) (fun r109 => ?_)
            refine s_icmp_ge (tgt := 134) C dX2_gather_110 (by decide) (by omega) (by omega) (fun c110 => ?_) (fun c110 => ?_)
            · skip
              refine s_iinc (lv' := [_, _, _, _, _, _, _, _, _]) C dX2_gather_134 rfl (by decide) rfl rfl rfl ?_
              refine s_goto (tgt := 24) C dX2_gather_137 (by decide) ?_
              have ek : k = M (t + 5) s := by omega
              refine ih24 _ _ _ _ _ (by omega) (hGB.congr (fun s' j => ?_)) (fun q => by have := hxs.1; omega) hkB (by omega)
              unfold PG
              constructor
              · rintro ⟨h1, h2, h3, h4, h5, h6⟩
                exact ⟨h1, h2, h3, h4, h5, by omega⟩
              · rintro ⟨h1, h2, h3, h4, h5, h6⟩
                refine ⟨h1, h2, h3, h4, h5, ?_⟩
                rcases h6 with h6 | ⟨_, h6⟩
                · by_cases c : s' = s
                  · exact Or.inr ⟨c, by rw [c] at h4; omega⟩
                  · exact Or.inl (by omega)
                · omega
            · skip
              refine s_aload_n C dX2_gather_113 rfl ?_
              refine s_aload_n C dX2_gather_114 rfl ?_
              refine s_iload C dX2_gather_115 rfl ?_
              refine s_iload C dX2_gather_117 rfl ?_
              refine s_iload C dX2_gather_119 rfl ?_
              refine s_iadd C dX2_gather_121 ?_
              refine s_aload_n C dX2_gather_122 rfl ?_
              refine s_aload C dX2_gather_123 rfl ?_
              refine s_callV5 C dX2_gather_125 cy_X2_takeWord cv_X2_takeWord lk_X2_79 (ct_X2_takeWord E t ht B s (M (t + 4) s + k) (by omega) (by have := hxs.1; omega) (by rw [f2, f3]; exact hxs.2 k hk.1 (by omega)) (by unfold tW; rw [hSmB 3 (by decide), hSmB 5 (by decide)]; exact h3) (by unfold tW; rw [hSmB 11 (by decide), hSmB 13 (by decide)]; exact h11) hGB.1 (by have := hxs.1; omega)) (by decide) (by decide) (by first | decide | (decide)) rfl (Nat.le_of_ble_eq_true rfl) (k_V (fun M125 q125 => ?_))
              refine s_iinc (lv' := [_, _, _, _, _, _, _, _, _]) C dX2_gather_128 rfl (by decide) rfl rfl rfl ?_
              refine s_goto (tgt := 101) C dX2_gather_131 (by decide) ?_
              rw [f2, f3, isStop_sm hSmB ha] at q125
              simp only [eLost_sm hSmB ha, hSmB 11 (show 11 ∉ kRows by decide)] at q125
              have g := GI.more ht (s0 := s) (k0 := k) (by omega) (fun s' j h => ⟨h.1, h.2.1⟩) hGB q125
              have hTn : M125 31 8 ≤ M (t + 4) s + (k + 1) ∧ M125 32 = B 32 := by
                rcases q125 with ⟨_, rfl⟩ | ⟨_, lost, zz, _, _, _, o2, _, _, o5, _⟩
                · exact ⟨by omega, rfl⟩
                · exact ⟨by omega, o2 32 (by decide)⟩
              clear q125
              refine ih101 _ _ (by omega) (by omega) (g.congr (fun s' j => ?_)) hTn.1 ?_ (by omega)
              · unfold PG
                constructor
                · rintro (⟨h1, h2, h3, h4, h5, h6⟩ | ⟨h1, h2⟩)
                  · exact ⟨h1, h2, h3, h4, h5, by omega⟩
                  · subst h1; subst h2
                    refine ⟨by omega, by omega, hk.1, by omega, ?_, Or.inr ⟨rfl, by omega⟩⟩
                    by_cases c : isSg M t s'
                    · exact Or.inl (hkz (z1.mpr c))
                    · exact Or.inr c
                · rintro ⟨h1, h2, h3, h4, h5, h6⟩
                  by_cases c : s' = s ∧ j = k
                  · exact Or.inr c
                  · exact Or.inl ⟨h1, h2, h3, h4, h5, by omega⟩
              · intro s' h1 h2
                rw [hTn.2]; exact hkB s' h1 h2
        refine s_iastore (n := 24) C dX2_gather_88 (by decide) rfl rfl (by omega) (by omega) (by omega) (by omega) ?_
        refine s_iload C dX2_gather_89 rfl ?_
        refine s_if_lt (tgt := 98) C dX2_gather_91 (by decide) (by omega) (fun c91 => ?_) (fun c91 => ?_)
        · skip
          refine s_iconst C dX2_gather_98 ?_
          refine s_istore (lv' := [_, _, _, _, _, _, _, _, _]) C dX2_gather_99 (by decide) rfl rfl ?_
          refine L101 _ _ _ (by have := hxs.1; omega) (by omega) ((hG.p32 ht s v).congr (fun s' j => ?_)) (by rw [mput_ne (by decide)]; omega) ?_ (Nat.lt_succ_self _)
          · unfold PG
            constructor
            · rintro ⟨h1, h2, h3, h4, h5, h6⟩
              refine ⟨h1, h2, h3, h4, h5, ?_⟩
              rcases h6 with h6 | ⟨h6, h7⟩
              · exact Or.inl h6
              · omega
            · rintro ⟨h1, h2, h3, h4, h5, h6⟩
              refine ⟨h1, h2, h3, h4, h5, ?_⟩
              rcases h6 with h6 | ⟨h6, h7⟩
              · exact Or.inl h6
              · exfalso
                rcases h5 with h5 | h5
                · omega
                · rw [h6] at h5
                  exact h5 (z1.mp (by omega))
          · intro s' h1 h2
            by_cases c : s' = s
            · rw [c, mput_eq]; exact ⟨z, hz, hv⟩
            · rw [mput_nk c]; exact hkd s' h1 (by omega)
        · skip
          refine s_iconst C dX2_gather_94 ?_
          refine s_goto (tgt := 99) C dX2_gather_95 (by decide) ?_
          refine s_istore (lv' := [_, _, _, _, _, _, _, _, _]) C dX2_gather_99 (by decide) rfl rfl ?_
          refine L101 _ _ _ (by have := hxs.1; omega) (by omega) ((hG.p32 ht s v).congr (fun s' j => ?_)) (by rw [mput_ne (by decide)]; omega) ?_ (Nat.lt_succ_self _)
          · unfold PG
            constructor
            · rintro ⟨h1, h2, h3, h4, h5, h6⟩
              refine ⟨h1, h2, h3, h4, h5, ?_⟩
              rcases h6 with h6 | ⟨h6, h7⟩
              · exact Or.inl h6
              · omega
            · rintro ⟨h1, h2, h3, h4, h5, h6⟩
              refine ⟨h1, h2, h3, h4, h5, ?_⟩
              rcases h6 with h6 | ⟨h6, h7⟩
              · exact Or.inl h6
              · exfalso
                rcases h5 with h5 | h5
                · omega
                · rw [h6] at h5
                  exact h5 (z1.mp (by omega))
          · intro s' h1 h2
            by_cases c : s' = s
            · rw [c, mput_eq]; exact ⟨z, hz, hv⟩
            · rw [mput_nk c]; exact hkd s' h1 (by omega)
      refine s_iload C dX2_gather_24 rfl ?_
      refine s_aload_n C dX2_gather_26 rfl ?_
      refine s_geti (k := 7) (j := 7) (z := M t 7) C dX2_gather_27 fl_X2_50 (by rcases ht with rfl | rfl <;> decide) (by rcases ht with rfl | rfl <;> decide) (by decide) rfl (by rw [et]) (fun r27 => ?_)
      refine s_icmp_ge (tgt := 140) C dX2_gather_30 (by decide) (by omega) (by omega) (fun c30 => ?_) (fun c30 => ?_)
      · skip
        refine s_aload_n C dX2_gather_140 rfl ?_
        refine s_aload_n C dX2_gather_141 rfl ?_
        refine s_geti (k := 7) (j := 7) (z := M t 7) C dX2_gather_142 fl_X2_50 (by rcases ht with rfl | rfl <;> decide) (by rcases ht with rfl | rfl <;> decide) (by decide) rfl (by rw [et]) (fun r142 => ?_)
        refine s_callV1 C dX2_gather_145 cy_X2_compare cv_X2_compare lk_X2_83 (ct_X2_compare E A (M t 7) hn hG.1.1) (by decide) (by decide) (by first | decide | (decide)) rfl (Nat.le_of_ble_eq_true rfl) (k_V (fun M145 q145 => ?_))
        exact s_return C dX2_gather_148 (⟨rfl, by
      have es : s = M t 7 := by omega
      obtain ⟨o1, o2, o3⟩ := q145
      have r31 : M145 31 = A 31 := o1 31 (by decide)
      have r32 : M145 32 = A 32 := o1 32 (by decide)
      have r35 : M145 35 = A 35 := o1 35 (by decide)
      refine ⟨hG.2.1.tr o1 (fun a h => by simp only [kRows, List.mem_cons, List.not_mem_nil, or_false] at h ⊢; omega) (fun a h => by simp only [List.mem_cons, List.not_mem_nil, or_false] at h ⊢; omega), ⟨A, by rw [← es]; exact hG, o1⟩, ?_, ?_, ?_⟩
      · rw [r32, ← es]; exact hkd
      · unfold shL at *
        rw [r31, r35]; exact o2
      · unfold shL at *
        rw [r31, r35]; exact o3⟩)
      · skip
        have hxs := hXs s hs.1 (by omega)
        have hx0 := hxs.2 0 (by omega) (by omega)
        rw [Int.add_zero] at hx0
        refine s_aload_n C dX2_gather_33 rfl ?_
        refine s_getr (k := 3) (b := t + 4) C dX2_gather_34 fl_X2_55 (by rcases ht with rfl | rfl <;> decide) (by rcases ht with rfl | rfl <;> decide) (by decide) (by rcases ht with rfl | rfl <;> decide) ?_
        refine s_iload C dX2_gather_37 rfl ?_
        refine s_iaload (z := M (t + 4) s) C dX2_gather_39 (by rcases ht with rfl | rfl <;> decide) (by rcases ht with rfl | rfl <;> decide) rfl (by omega) (by omega) (by omega) (by rw [e4]) (fun r39 => ?_)
        refine s_istore (lv' := [_, _, _, _, _, _, _, _, _]) C dX2_gather_40 (by decide) rfl rfl ?_
        refine s_aload_n C dX2_gather_42 rfl ?_
        refine s_aload_n C dX2_gather_43 rfl ?_
        refine s_getr (k := 0) (b := t + 1) C dX2_gather_44 fl_X2_58 (by rcases ht with rfl | rfl <;> decide) (by rcases ht with rfl | rfl <;> decide) (by decide) (by rcases ht with rfl | rfl <;> decide) ?_
        refine s_aload_n C dX2_gather_47 rfl ?_
        refine s_getr (k := 1) (b := t + 2) C dX2_gather_48 fl_X2_61 (by rcases ht with rfl | rfl <;> decide) (by rcases ht with rfl | rfl <;> decide) (by decide) (by rcases ht with rfl | rfl <;> decide) ?_
        refine s_iload C dX2_gather_51 rfl ?_
        refine s_iaload (z := wS M t s 0) C dX2_gather_53 (by rcases ht with rfl | rfl <;> decide) (by rcases ht with rfl | rfl <;> decide) rfl (by omega) (by omega) (by omega) (by unfold wS; rw [e2, Int.add_zero]) (fun r53 => ?_)
        refine s_aload_n C dX2_gather_54 rfl ?_
        refine s_getr (k := 2) (b := t + 3) C dX2_gather_55 fl_X2_64 (by rcases ht with rfl | rfl <;> decide) (by rcases ht with rfl | rfl <;> decide) (by decide) (by rcases ht with rfl | rfl <;> decide) ?_
        refine s_iload C dX2_gather_58 rfl ?_
        refine s_iaload (z := wL M t s 0) C dX2_gather_60 (by rcases ht with rfl | rfl <;> decide) (by rcases ht with rfl | rfl <;> decide) rfl (by omega) (by omega) (by omega) (by unfold wL; rw [e3, Int.add_zero]) (fun r60 => ?_)
        have hw0 : 0 ≤ wS M t s 0 ∧ 0 ≤ wL M t s 0 ∧ wL M t s 0 ≤ 16 ∧ wS M t s 0 + wL M t s 0 ≤ 3000 := by unfold wS wL; rw [Int.add_zero]; exact hx0
        refine s_callV3 C dX2_gather_61 cy_X9_find cv_X9_find lk_X2_67 (ct_X9_find_7 E (t + 1) hsr A (by rw [hSm 7 (by decide)]; exact a0) (by rw [hSm 7 (by decide)]; exact a1) (by rw [hSm 7 (by decide)]; exact a5) (by rw [hSm 7 (by decide), hSm 9 (by decide)]; exact aT) (wS M t s 0) (wL M t s 0) (by omega) (by omega)) (by decide) (by decide) (by first | decide | (decide)) rfl (Nat.le_of_ble_eq_true rfl) (k_P (fun z61 q61 => ?_))
        have hf : Fd7 M (t + 1) (wS M t s 0) (wL M t s 0) z61 := by rw [← Fd7_sm hSm ha]; exact q61
        clear q61
        obtain ⟨y1, y2, y3⟩ := Fd7_sg hf
        refine s_istore (lv' := [_, _, _, _, _, _, _, _, _]) C dX2_gather_64 (by decide) rfl rfl ?_
        refine s_aload_n C dX2_gather_66 rfl ?_
        refine s_getr (k := 0) (b := 32) C dX2_gather_67 fl_X2_9 (by decide) rfl (by decide) rfl ?_
        refine s_iload C dX2_gather_70 rfl ?_
        refine s_iload C dX2_gather_72 rfl ?_
        refine s_if_lt (tgt := 87) C dX2_gather_74 (by decide) (by omega) (fun c74 => ?_) (fun c74 => ?_)
        · skip
          refine s_iconst C dX2_gather_87 ?_
          exact L88 _ _ _ (by first | assumption | omega) (hf) (by rw [if_neg (by omega)]) (by first | assumption | omega)
        · skip
          refine s_aload_n C dX2_gather_77 rfl ?_
          refine s_getr (k := 4) (b := 10) C dX2_gather_78 fl_X2_73 (by decide) rfl (by decide) rfl ?_
          refine s_iload C dX2_gather_81 rfl ?_
          refine s_iaload (n := 30) (z := M 10 z61) C dX2_gather_83 (by decide) rfl rfl (by omega) (by omega) (by omega) (by rw [hSm 10 (by decide)]) (fun r83 => ?_)
          refine s_goto (tgt := 88) C dX2_gather_84 (by decide) ?_
          exact L88 _ _ _ (by first | assumption | omega) (hf) (by rw [if_pos (by omega)]) (by first | assumption | omega)
  refine s_aload_n C dX2_gather_0 rfl ?_
  refine s_iconst C dX2_gather_1 ?_
  refine s_puti (k := 8) (j := 8) C dX2_gather_2 fp_X2_37 (by decide) rfl rfl rfl (by omega) ?_
  refine s_aload_n C dX2_gather_5 rfl ?_
  refine s_getr (k := 3) (b := 35) C dX2_gather_6 fl_X2_21 (by decide) rfl (by decide) rfl ?_
  refine s_lconst (z := 0) C dX2_gather_9 rfl ?_
  refine s_callS2 C dX2_gather_10 cy_J7_fill_d0a16 cs_J7_fill_d0a16 lk_X2_41 (ct_J7_fill_d0a16 E _ 35 (by decide) (by decide) 0 (by decide)) (by decide) (Nat.le_of_ble_eq_true rfl) (k_V (fun M10 q10 => ?_))
  subst q10
  refine s_aload_n C dX2_gather_13 rfl ?_
  refine s_getr (k := 7) (b := 39) C dX2_gather_14 fl_X2_34 (by decide) rfl (by decide) rfl ?_
  refine s_iconst C dX2_gather_17 ?_
  refine s_callS2 C dX2_gather_18 cy_J7_fill_53178 cs_J7_fill_53178 lk_X2_47 (ct_J7_fill_53178 E _ 39 (by decide) (by decide) (-1) (by decide)) (by decide) (Nat.le_of_ble_eq_true rfl) (k_V (fun M18 q18 => ?_))
  subst q18
  refine s_iconst C dX2_gather_21 ?_
  refine s_istore (lv' := [_, _, _, _, _, _, _, _, _]) C dX2_gather_22 (by decide) rfl rfl ?_
  have gi := GI_init (M := M) ht
  exact L24 _ _ _ _ _ _ (by omega) gi.1 (fun q => by rw [gi.2]; have := (hXs 0 (by omega) q).1; omega) (fun s' h1 h2 => by omega) (Nat.lt_succ_self _)
