/-- what P says of some memory that has these rows -/
def Clo (L : List Nat) (P : Mm → Prop) (M : Mm) : Prop := ∃ N : Mm, (∀ a, a ∈ L → N a = M a) ∧ P N
theorem Clo.of {L : List Nat} {P : Mm → Prop} {M : Mm} (h : P M) : Clo L P M := ⟨M, fun _ _ => rfl, h⟩
theorem Clo.sm {L : List Nat} {P : Mm → Prop} {M M' : Mm} (h : Clo L P M) (e : ∀ a, a ∈ L → M' a = M a) : Clo L P M' := by
  obtain ⟨N, h1, h2⟩ := h
  exact ⟨N, fun a ha => (h1 a ha).trans (e a ha).symm, h2⟩
theorem Clo.of_sm {L l : List Nat} {P : Mm → Prop} {M M' : Mm} (h : Clo L P M) (e : Sm M M' l) (hd : ∀ a, a ∈ L → a ∉ l) : Clo L P M' := h.sm (fun a ha => e a (hd a ha))
/-- keys, kinds and counts are those of the text e, by the tables -/
def KFr (e : Nat) (N : Mm) : Prop := GI N N e (PG N e (N e 7) 0) ∧ (∀ s, 0 ≤ s → s < N e 7 → ∃ z, Fd7 N (e + 1) (wS N e s 0) (wL N e s 0) z ∧ N 32 s = if 0 ≤ z then N 10 z else 0) ∧
  (∀ a b, 0 ≤ b → b ≤ a → a < N e 7 → N 34 (a * 24 + b) = shL N a b ((N 31 8 + 63) / 64).toNat ∧ N 34 (b * 24 + a) = shL N a b ((N 31 8 + 63) / 64).toNat) ∧
  (∀ a, 0 ≤ a → a < N e 7 → N 33 a = shL N a a ((N 31 8 + 63) / 64).toNat) ∧ ∀ s, 0 ≤ s → s < N e 7 → 0 ≤ N 32 s ∧ N 32 s ≤ 4
abbrev kL (e : Nat) : List Nat := [3, 4, 5, 7, 8, 9, 10, 11, 12, 13, e, e + 1, e + 2, e + 3, e + 4, e + 5, 31, 32, 33, 34, 35, 36, 37, 38, 39]
def KF (e : Nat) (M : Mm) : Prop := 1 ≤ M e 7 → Clo (kL e) (KFr e) M
/-- what it costs that d hangs on h, or on none -/
def wC (M : Mm) (e : Nat) (d h : Int) : Int := if 0 ≤ d ∧ d < M e 7 ∧ 0 ≤ h ∧ h < M e 7 then (if h = d then 0 else hC M e h d) else if 0 ≤ d ∧ d < M e 7 ∧ h = -1 ∧ (M 32 (M 41 d) = 1 ∨ M 32 (M 41 d) = 2 ∨ M 32 (M 41 d) = 3) then M 15 2 else 0
def BFr (e : Nat) (N : Mm) : Prop := wOk (wC N e) ∧ Cg (wC N e) N 1152 (wD (N e 7)) ∧ (∀ d, 0 ≤ d → d < N e 7 → N 51 d = rowH (N 48 1152) (N 49 1152) d) ∧ N 50 4 = bRt (N 51) (N e 7) (N e 7).toNat ∧
  ∀ i, 0 ≤ i → i < N e 7 → N 52 i = bHu (N 51) i (N e 7).toNat ∧ N 53 i = bFi (N 51) (N e 7) i (N e 7).toNat ∧ N 54 i = bSz (N 51) (N e 7) i (N e 7).toNat
abbrev bL (e : Nat) : List Nat := [15, 32, 34, 41, e, e + 6, 46, 47, 48, 49, 50, 51, 52, 53, 54]
def BF (e : Nat) (M : Mm) : Prop := 1 ≤ M e 7 → Clo (bL e) (BFr e) M
/-- what the object keeps between calls: e is the essay, d the other text -/
def XI (M : Mm) (e d : Nat) : Prop := ((e = 17 ∧ d = 24) ∨ (e = 24 ∧ d = 17)) ∧ (M 0 6 = (e : Int) ∧ M 0 7 = (d : Int)) ∧ (0 ≤ M 1 1 ∧ M 1 1 ≤ 3000) ∧ (tW M 3 60 16 ∧ tW M 7 30 16 ∧ tW M 11 10 6) ∧ (∀ i, 0 ≤ i → i < M 7 5 → 1 ≤ M 10 i ∧ M 10 i ≤ 4) ∧ (∀ i, 0 ≤ i → i < 4 → 0 ≤ M 15 i ∧ M 15 i ≤ 50) ∧ (txOk M e ∧ plOk M (M e 7) ∧ prOk M (M e 7)) ∧ (0 ≤ M 58 7 ∧ M 58 7 ≤ 10) ∧ (M 0 14 = 0 → KF e M) ∧ (M 0 14 = 0 → M 0 15 = 0 → BF e M)
/-- rows that a refresh writes -/
abbrev fRows : List Nat := [0, 31, 32, 33, 34, 35, 36, 37, 38, 39, 44, 45, 46, 47, 48, 49, 50, 51, 52, 53, 54]
def FrK (M M' : Mm) (e : Nat) : Prop := Sm M M' [0, 31, 32, 33, 34, 35, 36, 37, 38, 39] ∧ (∀ k, k ≠ 14 → k ≠ 15 → M' 0 k = M 0 k) ∧ M' 0 14 = 0 ∧ KF e M' ∧ (M' = M ∨ M' 0 15 = 1)
def Frs (M M' : Mm) (e : Nat) : Prop := Sm M M' fRows ∧ (∀ k, k ≠ 14 → k ≠ 15 → M' 0 k = M 0 k) ∧ M' 0 14 = 0 ∧ M' 0 15 = 0 ∧ KF e M' ∧ BF e M'
theorem XI.he {M : Mm} {e d : Nat} (h : XI M e d) : e = 17 ∨ e = 24 := by have := h.1; omega
theorem XI.n {M : Mm} {e d : Nat} (h : XI M e d) : 0 ≤ M e 7 ∧ M e 7 ≤ 24 := h.2.2.2.2.2.2.1.1.1
theorem KT_sm {M M' : Mm} {a : Nat} (h : KT M a) (r1 : M' 31 = M 31) (r2 : M' 36 = M 36) (r3 : M' 37 = M 37) (r4 : M' 38 = M 38) (r5 : M' 39 = M 39) (r6 : M' a = M a) : KT M' a := by
  unfold KT isK at *
  rw [r1, r2, r3, r4, r5, r6]
  exact h

theorem KF_gather {M M' : Mm} {e : Nat} (he : e = 17 ∨ e = 24) (hS : Sm M M' [31, 32, 33, 34, 35, 36, 37, 38, 39]) (hA : ∃ A, GI M A e (PG M e (M e 7) 0) ∧ Sm A M' [33, 34])
    (hk : ∀ s', 0 ≤ s' → s' < M e 7 → ∃ z, Fd7 M (e + 1) (wS M e s' 0) (wL M e s' 0) z ∧ M' 32 s' = if 0 ≤ z then M 10 z else 0)
    (hc : ∀ a b, 0 ≤ b → b ≤ a → a < M e 7 → M' 34 (a * 24 + b) = shL M' a b ((M' 31 8 + 63) / 64).toNat ∧ M' 34 (b * 24 + a) = shL M' a b ((M' 31 8 + 63) / 64).toNat)
    (hd : ∀ a, 0 ≤ a → a < M e 7 → M' 33 a = shL M' a a ((M' 31 8 + 63) / 64).toNat) (h10 : ∀ i, 0 ≤ i → i < M 7 5 → 1 ≤ M 10 i ∧ M 10 i ≤ 4) : KFr e M' := by
  obtain ⟨A, g, sA⟩ := hA

  have r3 : M 3 = M' 3 := (hS 3 (by first | decide | (rcases he with rfl | rfl <;> decide))).symm
  have r4 : M 4 = M' 4 := (hS 4 (by first | decide | (rcases he with rfl | rfl <;> decide))).symm
  have r5 : M 5 = M' 5 := (hS 5 (by first | decide | (rcases he with rfl | rfl <;> decide))).symm
  have r7 : M 7 = M' 7 := (hS 7 (by first | decide | (rcases he with rfl | rfl <;> decide))).symm
  have r8 : M 8 = M' 8 := (hS 8 (by first | decide | (rcases he with rfl | rfl <;> decide))).symm
  have r9 : M 9 = M' 9 := (hS 9 (by first | decide | (rcases he with rfl | rfl <;> decide))).symm
  have r10 : M 10 = M' 10 := (hS 10 (by first | decide | (rcases he with rfl | rfl <;> decide))).symm
  have r11 : M 11 = M' 11 := (hS 11 (by first | decide | (rcases he with rfl | rfl <;> decide))).symm
  have r12 : M 12 = M' 12 := (hS 12 (by first | decide | (rcases he with rfl | rfl <;> decide))).symm
  have r13 : M 13 = M' 13 := (hS 13 (by first | decide | (rcases he with rfl | rfl <;> decide))).symm
  have re : M e = M' e := (hS e (by first | decide | (rcases he with rfl | rfl <;> decide))).symm
  have re1 : M (e + 1) = M' (e + 1) := (hS (e + 1) (by first | decide | (rcases he with rfl | rfl <;> decide))).symm
  have re2 : M (e + 2) = M' (e + 2) := (hS (e + 2) (by first | decide | (rcases he with rfl | rfl <;> decide))).symm
  have re3 : M (e + 3) = M' (e + 3) := (hS (e + 3) (by first | decide | (rcases he with rfl | rfl <;> decide))).symm
  have re4 : M (e + 4) = M' (e + 4) := (hS (e + 4) (by first | decide | (rcases he with rfl | rfl <;> decide))).symm
  have re5 : M (e + 5) = M' (e + 5) := (hS (e + 5) (by first | decide | (rcases he with rfl | rfl <;> decide))).symm
  have a31 : A 31 = M' 31 := (sA 31 (by decide)).symm
  have a35 : A 35 = M' 35 := (sA 35 (by decide)).symm
  have a36 : A 36 = M' 36 := (sA 36 (by decide)).symm
  have a37 : A 37 = M' 37 := (sA 37 (by decide)).symm
  have a38 : A 38 = M' 38 := (sA 38 (by decide)).symm
  have a39 : A 39 = M' 39 := (sA 39 (by decide)).symm
  have ae1 : A (e + 1) = M' (e + 1) := (sA (e + 1) (by rcases he with rfl | rfl <;> decide)).symm
  obtain ⟨g1, _, g3, g4⟩ := g
  refine ⟨⟨KT_sm g1 a31.symm a36.symm a37.symm a38.symm a39.symm ae1.symm, Sm.rf _ _, ?_, ?_⟩, ?_, ?_, ?_, ?_⟩
  · unfold kb PG Hk isStop isSg wS wL eLost eFit isK wAt at *
    simp only [r3, r4, r5, r7, r8, r9, r10, r11, r12, r13, re, re1, re2, re3, re4, re5, a31, a35, a36, a37, a38, a39, ae1] at g3
    exact g3
  · unfold kb PG Hk isStop isSg wS wL eLost eFit isK wAt at *
    simp only [r3, r4, r5, r7, r8, r9, r10, r11, r12, r13, re, re1, re2, re3, re4, re5, a31, a35, a36, a37, a38, a39, ae1] at g4
    exact g4
  · unfold Fd7 wS wL wAt at *
    simp only [r3, r4, r5, r7, r8, r9, r10, r11, r12, r13, re, re1, re2, re3, re4, re5] at hk
    exact hk
  · rw [← re]; exact hc
  · rw [← re]; exact hd
  · intro s s0 s1
    rw [← re] at s1
    obtain ⟨z, z1, z2⟩ := hk s s0 s1
    rw [z2]
    have z3 := Fd7_sg z1
    rcases z1 with ⟨q1, _⟩ | ⟨q1, q2, _⟩
    · rw [if_neg (by omega)]; omega
    · rw [if_pos q1]; have := h10 z q1 q2; omega

theorem KF.sm {e : Nat} {M M' : Mm} (h : KF e M) (hs : ∀ a, a ∈ kL e → M' a = M a) : KF e M' := by
  intro h1
  rw [hs e (by simp)] at h1
  exact (h h1).sm hs
theorem BF.sm {e : Nat} {M M' : Mm} (h : BF e M) (hs : ∀ a, a ∈ bL e → M' a = M a) : BF e M' := by
  intro h1
  rw [hs e (by simp)] at h1
  exact (h h1).sm hs
/-- kinds and counts are small -/
theorem KF.rgs {e : Nat} {M : Mm} (h : KF e M) (hn : M e 7 ≤ 24) : (∀ s, 0 ≤ s → s < M e 7 → 0 ≤ M 32 s ∧ M 32 s ≤ 4) ∧ (∀ a b, 0 ≤ a → a < M e 7 → 0 ≤ b → b < M e 7 → 0 ≤ M 34 (a * 24 + b) ∧ M 34 (a * 24 + b) ≤ 960) ∧ (∀ a, 0 ≤ a → a < M e 7 → 0 ≤ M 33 a ∧ M 33 a ≤ 960) ∧ (1 ≤ M e 7 → 0 ≤ M 31 8 ∧ M 31 8 ≤ 960) := by
  by_cases h1 : 1 ≤ M e 7
  · obtain ⟨N, hN, k1, k2, k3, k4, k5⟩ := h h1
    have re : N e = M e := hN e (by simp)
    have r32 : N 32 = M 32 := hN 32 (by simp)
    have r33 : N 33 = M 33 := hN 33 (by simp)
    have r34 : N 34 = M 34 := hN 34 (by simp)
    have r31 : N 31 = M 31 := hN 31 (by simp)
    have hT := k1.1.1
    rw [r31] at hT
    have hu : ((N 31 8 + 63) / 64).toNat ≤ 15 := by rw [r31]; omega
    refine ⟨fun s s0 s1 => by have := k5 s s0 (by rw [re]; exact s1); rw [r32] at this; exact this, fun a b a0 a1 b0 b1 => ?_, fun a a0 a1 => ?_, fun _ => hT⟩
    · rw [← r34]
      by_cases hab : b ≤ a
      · rw [(k3 a b b0 hab (by rw [re]; exact a1)).1]
        have := shL_le N a b ((N 31 8 + 63) / 64).toNat
        omega
      · rw [(k3 b a a0 (by omega) (by rw [re]; exact b1)).2]
        have := shL_le N b a ((N 31 8 + 63) / 64).toNat
        omega
    · rw [← r33, k4 a a0 (by rw [re]; exact a1)]
      have := shL_le N a a ((N 31 8 + 63) / 64).toNat
      omega
  · exact ⟨fun s s0 s1 => by omega, fun a b a0 a1 => by omega, fun a a0 a1 => by omega, fun h => absurd h h1⟩
theorem hC_sm {e : Nat} {M M' : Mm} (r1 : M' 15 = M 15) (r2 : M' 34 = M 34) (r3 : M' 41 = M 41) (r4 : M' (e + 6) = M (e + 6)) (r5 : M' 32 = M 32) (h d : Int) : hC M' e h d = hC M e h d := by
  unfold hC agn
  rw [r1, r2, r3, r4, r5]
theorem mul50 {a b B : Int} (ha : 0 ≤ a ∧ a ≤ 50) (hb : 0 ≤ b ∧ b ≤ B) : 0 ≤ a * b ∧ a * b ≤ 50 * B := by
  refine ⟨Int.mul_nonneg ha.1 hb.1, ?_⟩
  have h1 : a * b ≤ 50 * b := Int.mul_le_mul_of_nonneg_right ha.2 hb.1
  omega
theorem hC_rg {e : Nat} {M : Mm} (hw : ∀ i, 0 ≤ i → i < 4 → 0 ≤ M 15 i ∧ M 15 i ≤ 50) {h d : Int} (hh : 0 ≤ h ∧ h < 24) (hd : 0 ≤ d ∧ d < 24) (hne : h ≠ d) (hs : 0 ≤ M 34 (M 41 h * 24 + M 41 d)) : 0 ≤ hC M e h d ∧ hC M e h d ≤ 1450 := by
  unfold hC
  have w0 := hw 0 (by omega) (by omega)
  have w1 := hw 1 (by omega) (by omega)
  have w2 := hw 2 (by omega) (by omega)
  have w3 := hw 3 (by omega) (by omega)
  have m1 := mul50 (B := 23) w0 (b := max (h - d) (-(h - d)) - 1) (by omega)
  have m2 := mul50 (B := 4) w1 (b := 4 - min 4 (M 34 (M 41 h * 24 + M 41 d))) (by omega)
  split <;> split <;> omega
theorem XI.wOk {M : Mm} {e d : Nat} (h : XI M e d) (hK : KF e M) : wOk (wC M e) := by
  intro a b a0 a1 b0 b1
  have hn := h.n
  obtain ⟨p1, p2, p3⟩ := h.2.2.2.2.2.2.1.2.1
  have hw := h.2.2.2.2.2.1
  have w2 := hw 2 (by omega) (by omega)
  have hr := hK.rgs hn.2
  unfold wC
  split
  · next c =>
    split
    · omega
    · next c2 =>
      have q1 := p2 a c.1 c.2.1
      have q2 := p2 b c.2.2.1 c.2.2.2
      have := hC_rg (e := e) hw (h := b) (d := a) (by omega) (by omega) c2 (hr.2.1 _ _ q2.1 q2.2 q1.1 q1.2).1
      omega
  · split <;> omega
theorem XI.frK {M M' : Mm} {e d : Nat} (h : XI M e d) (hf : FrK M M' e) : XI M' e d := by
  obtain ⟨f1, f2, f3, f4, f5⟩ := hf
  obtain ⟨h1, h2, h3, h4, h5, h6, h7, h8, h9, h10⟩ := h

  have r1 : M' 1 = M 1 := f1 1 (by first | decide | (rcases h1 with ⟨rfl, _⟩ | ⟨rfl, _⟩ <;> decide))
  have r3 : M' 3 = M 3 := f1 3 (by first | decide | (rcases h1 with ⟨rfl, _⟩ | ⟨rfl, _⟩ <;> decide))
  have r5 : M' 5 = M 5 := f1 5 (by first | decide | (rcases h1 with ⟨rfl, _⟩ | ⟨rfl, _⟩ <;> decide))
  have r7 : M' 7 = M 7 := f1 7 (by first | decide | (rcases h1 with ⟨rfl, _⟩ | ⟨rfl, _⟩ <;> decide))
  have r9 : M' 9 = M 9 := f1 9 (by first | decide | (rcases h1 with ⟨rfl, _⟩ | ⟨rfl, _⟩ <;> decide))
  have r10 : M' 10 = M 10 := f1 10 (by first | decide | (rcases h1 with ⟨rfl, _⟩ | ⟨rfl, _⟩ <;> decide))
  have r11 : M' 11 = M 11 := f1 11 (by first | decide | (rcases h1 with ⟨rfl, _⟩ | ⟨rfl, _⟩ <;> decide))
  have r13 : M' 13 = M 13 := f1 13 (by first | decide | (rcases h1 with ⟨rfl, _⟩ | ⟨rfl, _⟩ <;> decide))
  have r15 : M' 15 = M 15 := f1 15 (by first | decide | (rcases h1 with ⟨rfl, _⟩ | ⟨rfl, _⟩ <;> decide))
  have r40 : M' 40 = M 40 := f1 40 (by first | decide | (rcases h1 with ⟨rfl, _⟩ | ⟨rfl, _⟩ <;> decide))
  have r41 : M' 41 = M 41 := f1 41 (by first | decide | (rcases h1 with ⟨rfl, _⟩ | ⟨rfl, _⟩ <;> decide))
  have r55 : M' 55 = M 55 := f1 55 (by first | decide | (rcases h1 with ⟨rfl, _⟩ | ⟨rfl, _⟩ <;> decide))
  have r56 : M' 56 = M 56 := f1 56 (by first | decide | (rcases h1 with ⟨rfl, _⟩ | ⟨rfl, _⟩ <;> decide))
  have r57 : M' 57 = M 57 := f1 57 (by first | decide | (rcases h1 with ⟨rfl, _⟩ | ⟨rfl, _⟩ <;> decide))
  have r58 : M' 58 = M 58 := f1 58 (by first | decide | (rcases h1 with ⟨rfl, _⟩ | ⟨rfl, _⟩ <;> decide))
  have re : M' e = M e := f1 e (by first | decide | (rcases h1 with ⟨rfl, _⟩ | ⟨rfl, _⟩ <;> decide))
  have re2 : M' (e + 2) = M (e + 2) := f1 (e + 2) (by first | decide | (rcases h1 with ⟨rfl, _⟩ | ⟨rfl, _⟩ <;> decide))
  have re3 : M' (e + 3) = M (e + 3) := f1 (e + 3) (by first | decide | (rcases h1 with ⟨rfl, _⟩ | ⟨rfl, _⟩ <;> decide))
  have re4 : M' (e + 4) = M (e + 4) := f1 (e + 4) (by first | decide | (rcases h1 with ⟨rfl, _⟩ | ⟨rfl, _⟩ <;> decide))
  have re5 : M' (e + 5) = M (e + 5) := f1 (e + 5) (by first | decide | (rcases h1 with ⟨rfl, _⟩ | ⟨rfl, _⟩ <;> decide))
  refine ⟨h1, ?_, ?_, ?_, ?_, ?_, ?_, ?_, fun _ => f4, fun q1 q2 => ?_⟩
  · rw [f2 6 (by omega) (by omega), f2 7 (by omega) (by omega)]; exact h2
  · rw [r1]; exact h3
  · unfold tW at *; simp only [r1, r3, r5, r7, r9, r10, r11, r13, r15, r40, r41, r55, r56, r57, r58, re, re2, re3, re4, re5]; exact h4
  · rw [r7, r10]; exact h5
  · rw [r15]; exact h6
  · unfold txOk plOk prOk at *; simp only [r1, r3, r5, r7, r9, r10, r11, r13, r15, r40, r41, r55, r56, r57, r58, re, re2, re3, re4, re5]; exact h7
  · rw [r58]; exact h8
  · rcases f5 with rfl | f5
    · exact h10 q1 q2
    · omega

theorem XI.frs {M M' : Mm} {e d : Nat} (h : XI M e d) (hf : Frs M M' e) : XI M' e d := by
  obtain ⟨f1, f2, f3, f5, f4, f6⟩ := hf
  obtain ⟨h1, h2, h3, h4, h5, h6, h7, h8, h9, h10⟩ := h
  have r1 : M' 1 = M 1 := f1 1 (by first | decide | (rcases h1 with ⟨rfl, _⟩ | ⟨rfl, _⟩ <;> decide))
  have r3 : M' 3 = M 3 := f1 3 (by first | decide | (rcases h1 with ⟨rfl, _⟩ | ⟨rfl, _⟩ <;> decide))
  have r5 : M' 5 = M 5 := f1 5 (by first | decide | (rcases h1 with ⟨rfl, _⟩ | ⟨rfl, _⟩ <;> decide))
  have r7 : M' 7 = M 7 := f1 7 (by first | decide | (rcases h1 with ⟨rfl, _⟩ | ⟨rfl, _⟩ <;> decide))
  have r9 : M' 9 = M 9 := f1 9 (by first | decide | (rcases h1 with ⟨rfl, _⟩ | ⟨rfl, _⟩ <;> decide))
  have r10 : M' 10 = M 10 := f1 10 (by first | decide | (rcases h1 with ⟨rfl, _⟩ | ⟨rfl, _⟩ <;> decide))
  have r11 : M' 11 = M 11 := f1 11 (by first | decide | (rcases h1 with ⟨rfl, _⟩ | ⟨rfl, _⟩ <;> decide))
  have r13 : M' 13 = M 13 := f1 13 (by first | decide | (rcases h1 with ⟨rfl, _⟩ | ⟨rfl, _⟩ <;> decide))
  have r15 : M' 15 = M 15 := f1 15 (by first | decide | (rcases h1 with ⟨rfl, _⟩ | ⟨rfl, _⟩ <;> decide))
  have r40 : M' 40 = M 40 := f1 40 (by first | decide | (rcases h1 with ⟨rfl, _⟩ | ⟨rfl, _⟩ <;> decide))
  have r41 : M' 41 = M 41 := f1 41 (by first | decide | (rcases h1 with ⟨rfl, _⟩ | ⟨rfl, _⟩ <;> decide))
  have r55 : M' 55 = M 55 := f1 55 (by first | decide | (rcases h1 with ⟨rfl, _⟩ | ⟨rfl, _⟩ <;> decide))
  have r56 : M' 56 = M 56 := f1 56 (by first | decide | (rcases h1 with ⟨rfl, _⟩ | ⟨rfl, _⟩ <;> decide))
  have r57 : M' 57 = M 57 := f1 57 (by first | decide | (rcases h1 with ⟨rfl, _⟩ | ⟨rfl, _⟩ <;> decide))
  have r58 : M' 58 = M 58 := f1 58 (by first | decide | (rcases h1 with ⟨rfl, _⟩ | ⟨rfl, _⟩ <;> decide))
  have re : M' e = M e := f1 e (by first | decide | (rcases h1 with ⟨rfl, _⟩ | ⟨rfl, _⟩ <;> decide))
  have re2 : M' (e + 2) = M (e + 2) := f1 (e + 2) (by first | decide | (rcases h1 with ⟨rfl, _⟩ | ⟨rfl, _⟩ <;> decide))
  have re3 : M' (e + 3) = M (e + 3) := f1 (e + 3) (by first | decide | (rcases h1 with ⟨rfl, _⟩ | ⟨rfl, _⟩ <;> decide))
  have re4 : M' (e + 4) = M (e + 4) := f1 (e + 4) (by first | decide | (rcases h1 with ⟨rfl, _⟩ | ⟨rfl, _⟩ <;> decide))
  have re5 : M' (e + 5) = M (e + 5) := f1 (e + 5) (by first | decide | (rcases h1 with ⟨rfl, _⟩ | ⟨rfl, _⟩ <;> decide))
  refine ⟨h1, ?_, ?_, ?_, ?_, ?_, ?_, ?_, fun _ => f4, fun _ _ => f6⟩
  · rw [f2 6 (by omega) (by omega), f2 7 (by omega) (by omega)]; exact h2
  · rw [r1]; exact h3
  · unfold tW at *; simp only [r1, r3, r5, r7, r9, r10, r11, r13, r15, r40, r41, r55, r56, r57, r58, re, re2, re3, re4, re5]; exact h4
  · rw [r7, r10]; exact h5
  · rw [r15]; exact h6
  · unfold txOk plOk prOk at *; simp only [r1, r3, r5, r7, r9, r10, r11, r13, r15, r40, r41, r55, r56, r57, r58, re, re2, re3, re4, re5]; exact h7
  · rw [r58]; exact h8
