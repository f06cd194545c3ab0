/-! masks that are not negative, as numbers -/
theorem bvN {x : Int} (h0 : 0 ≤ x) (h : x < 2147483648) : (Int32.ofInt x).toBitVec.toNat = x.toNat := by
  rw [Int32.toBitVec_ofInt, BitVec.toNat_ofInt]
  rw [Int.emod_eq_of_lt h0 (by omega)]
theorem toIN {v : Int32} (h : v.toBitVec.toNat < 2147483648) : v.toInt = (v.toBitVec.toNat : Int) :=
  BitVec.toInt_eq_toNat_of_lt (by omega)
theorem zand_n {x y : Int} (hx : 0 ≤ x ∧ x < 2147483648) (hy : 0 ≤ y ∧ y < 2147483648) : zand x y = ((x.toNat &&& y.toNat : Nat) : Int) := by
  unfold zand
  have e : (Int32.ofInt x &&& Int32.ofInt y).toBitVec.toNat = x.toNat &&& y.toNat := by
    show ((Int32.ofInt x).toBitVec &&& (Int32.ofInt y).toBitVec).toNat = _
    rw [BitVec.toNat_and, bvN hx.1 hx.2, bvN hy.1 hy.2]
  rw [toIN (by rw [e]; exact Nat.lt_of_le_of_lt Nat.and_le_left (by omega)), e]
theorem zor_n {x y : Int} (hx : 0 ≤ x ∧ x < 2147483648) (hy : 0 ≤ y ∧ y < 2147483648) : zor x y = ((x.toNat ||| y.toNat : Nat) : Int) := by
  unfold zor
  have e : (Int32.ofInt x ||| Int32.ofInt y).toBitVec.toNat = x.toNat ||| y.toNat := by
    show ((Int32.ofInt x).toBitVec ||| (Int32.ofInt y).toBitVec).toNat = _
    rw [BitVec.toNat_or, bvN hx.1 hx.2, bvN hy.1 hy.2]
  rw [toIN (by rw [e]; exact Nat.or_lt_two_pow (n := 31) (by omega) (by omega)), e]
theorem zand_le {x c : Int} (hc : 0 ≤ c ∧ c < 2147483648) : 0 ≤ zand x c ∧ zand x c ≤ c := by
  unfold zand
  have e : (Int32.ofInt x &&& Int32.ofInt c).toBitVec.toNat = (Int32.ofInt x).toBitVec.toNat &&& c.toNat := by
    show ((Int32.ofInt x).toBitVec &&& (Int32.ofInt c).toBitVec).toNat = _
    rw [BitVec.toNat_and, bvN hc.1 hc.2]
  have h : (Int32.ofInt x).toBitVec.toNat &&& c.toNat ≤ c.toNat := Nat.and_le_right
  rw [toIN (by rw [e]; omega), e]
  omega
theorem zshl1 : ∀ j : Nat, j < 31 → zshl 1 (j : Int) = ((2 ^ j : Nat) : Int) := by decide +kernel
theorem shamt : ∀ j : Nat, j < 32 → ((Int32.ofInt (j : Int) &&& 31).toBitVec.smod 32) = BitVec.ofNat 32 j := by decide +kernel
theorem zshr_n {x : Int} (hx : 0 ≤ x ∧ x < 2147483648) {j : Nat} (hj : j < 32) : zshr x (j : Int) = ((x.toNat >>> j : Nat) : Int) := by
  unfold zshr
  have hm : (Int32.ofInt x).toBitVec.msb = false := by
    rw [BitVec.msb_eq_false_iff_two_mul_lt, bvN hx.1 hx.2]; omega
  have e : (Int32.ofInt x >>> (Int32.ofInt (j : Int) &&& 31)).toBitVec.toNat = x.toNat >>> j := by
    show ((Int32.ofInt x).toBitVec.sshiftRight' ((Int32.ofInt (j : Int) &&& 31).toBitVec.smod 32)).toNat = _
    rw [shamt j hj]
    show ((Int32.ofInt x).toBitVec.sshiftRight (BitVec.ofNat 32 j).toNat).toNat = _
    rw [BitVec.sshiftRight_eq_of_msb_false hm, BitVec.toNat_ushiftRight, bvN hx.1 hx.2, BitVec.toNat_ofNat, Nat.mod_eq_of_lt (by omega)]
  rw [toIN (by rw [e, Nat.shiftRight_eq_div_pow]; exact Nat.lt_of_le_of_lt (Nat.div_le_self _ _) (by omega)), e]
theorem zbit {x : Int} (hx : 0 ≤ x ∧ x < 2147483648) {j : Nat} (hj : j < 32) : zand (zshr x (j : Int)) 1 = if x.toNat.testBit j then 1 else 0 := by
  have hle : x.toNat >>> j ≤ x.toNat := by rw [Nat.shiftRight_eq_div_pow]; exact Nat.div_le_self _ _
  rw [zshr_n hx hj, zand_n (by generalize x.toNat >>> j = P at *; omega) (by omega)]
  have e : (((x.toNat >>> j : Nat) : Int).toNat &&& (1 : Int).toNat) = x.toNat >>> j % 2 := by
    show x.toNat >>> j &&& 1 = _
    exact Nat.and_one_is_mod _
  rw [e, Nat.testBit_eq_decide_div_mod_eq, Nat.shiftRight_eq_div_pow]
  by_cases c : x.toNat / 2 ^ j % 2 = 1
  · simp [c]
  · have : x.toNat / 2 ^ j % 2 = 0 := by omega
    simp [this]
theorem zxm {a s : Int} (ha : 0 ≤ a ∧ a < 2147483648) (hs : 0 ≤ s ∧ s < 2147483648) : zand a (zxor s (-1)) = 0 ↔ ∀ k, a.toNat.testBit k = true → s.toNat.testBit k = true := by
  unfold zand zxor
  rw [Int32.ofInt_toInt]
  have e : (Int32.ofInt a &&& (Int32.ofInt s ^^^ Int32.ofInt (-1))).toBitVec.toNat = a.toNat &&& (s.toNat ^^^ 4294967295) := by
    show ((Int32.ofInt a).toBitVec &&& ((Int32.ofInt s).toBitVec ^^^ (Int32.ofInt (-1)).toBitVec)).toNat = _
    rw [BitVec.toNat_and, BitVec.toNat_xor, bvN ha.1 ha.2, bvN hs.1 hs.2]
    rfl
  have hle : a.toNat &&& (s.toNat ^^^ 4294967295) ≤ a.toNat := Nat.and_le_left
  rw [toIN (by rw [e]; omega), e]
  have h32 : ∀ k, Nat.testBit 4294967295 k = decide (k < 32) := by
    intro k
    rw [show 4294967295 = 2 ^ 32 - 1 by rfl, Nat.testBit_two_pow_sub_one]
  constructor
  · intro h k hk
    have h0 : a.toNat &&& (s.toNat ^^^ 4294967295) = 0 := by omega
    have h1 : (a.toNat &&& (s.toNat ^^^ 4294967295)).testBit k = false := by rw [h0]; exact Nat.zero_testBit k
    have hk32 : k < 32 := by
      rcases Nat.lt_or_ge k 32 with q | q
      · exact q
      · have := Nat.testBit_lt_two_pow (x := a.toNat) (i := k) (Nat.lt_of_lt_of_le (show a.toNat < 2 ^ 31 by omega) (Nat.pow_le_pow_right (by decide) (by omega)))
        rw [this] at hk; cases hk
    rw [Nat.testBit_and, Nat.testBit_xor, h32, hk] at h1
    simpa [hk32] using h1
  · intro h
    have h0 : a.toNat &&& (s.toNat ^^^ 4294967295) = 0 := by
      apply Nat.eq_of_testBit_eq
      intro k
      rw [Nat.testBit_and, Nat.testBit_xor, h32, Nat.zero_testBit]
      by_cases hk : a.toNat.testBit k = true
      · rw [hk, h k hk]
        have hk32 : k < 32 := by
          rcases Nat.lt_or_ge k 32 with q | q
          · exact q
          · have := Nat.testBit_lt_two_pow (x := a.toNat) (i := k) (Nat.lt_of_lt_of_le (show a.toNat < 2 ^ 31 by omega) (Nat.pow_le_pow_right (by decide) (by omega)))
            rw [this] at hk; cases hk
        simp [hk32]
      · simp [hk]
    rw [h0]; rfl
theorem rg_zor (x y : Int) : rg (zor x y) := rg_toInt _
theorem rg_zshl (x y : Int) : rg (zshl x y) := rg_toInt _
theorem rg_zshr (x y : Int) : rg (zshr x y) := rg_toInt _
theorem rg_zxor (x y : Int) : rg (zxor x y) := rg_toInt _
/-- a set of small numbers, as a mask -/
abbrev inS (x : Int) (j : Int) : Prop := x.toNat.testBit j.toNat = true
theorem inS_or {x : Int} (hx : 0 ≤ x ∧ x < 2147483648) {k : Int} (hk : 0 ≤ k ∧ k < 31) (j : Int) : inS (zor x (zshl 1 k)) j ↔ inS x j ∨ j.toNat = k.toNat := by
  have h2 : (2 : Nat) ^ k.toNat < 2 ^ 31 := Nat.pow_lt_pow_right (by decide) (by omega)
  have e : zshl 1 k = ((2 ^ k.toNat : Nat) : Int) := by
    have := zshl1 k.toNat (by omega)
    rwa [Int.toNat_of_nonneg hk.1] at this
  unfold inS
  rw [e, zor_n hx (by generalize 2 ^ k.toNat = P at *; omega), Int.toNat_natCast, Int.toNat_natCast, Nat.testBit_or, Nat.testBit_two_pow]
  constructor
  · intro h
    rcases Bool.or_eq_true_iff.mp h with h | h
    · exact Or.inl h
    · exact Or.inr (by have := of_decide_eq_true h; omega)
  · rintro (h | h)
    · rw [h]; rfl
    · rw [h]; simp
theorem zor_rg {x : Int} (hx : 0 ≤ x ∧ x < 2147483648) {k : Int} (hk : 0 ≤ k ∧ k < 31) : 0 ≤ zor x (zshl 1 k) ∧ zor x (zshl 1 k) < 2147483648 := by
  have h2 : (2 : Nat) ^ k.toNat < 2 ^ 31 := Nat.pow_lt_pow_right (by decide) (by omega)
  have e : zshl 1 k = ((2 ^ k.toNat : Nat) : Int) := by
    have := zshl1 k.toNat (by omega)
    rwa [Int.toNat_of_nonneg hk.1] at this
  have h3 := Nat.or_lt_two_pow (n := 31) (x := x.toNat) (y := 2 ^ k.toNat) (by omega) h2
  rw [e]
  generalize 2 ^ k.toNat = P at *
  rw [zor_n hx (by omega), Int.toNat_natCast]
  omega
theorem zbitS {x : Int} (hx : 0 ≤ x ∧ x < 2147483648) {k : Int} (hk : 0 ≤ k ∧ k < 32) : (inS x k ∧ zand (zshr x k) 1 = 1) ∨ (¬ inS x k ∧ zand (zshr x k) 1 = 0) := by
  have h := zbit hx (j := k.toNat) (by omega)
  rw [Int.toNat_of_nonneg hk.1] at h
  rw [h]
  unfold inS
  by_cases c : x.toNat.testBit k.toNat = true
  · left; simp [c]
  · right; simp [c]
theorem inS_one {k : Int} (hk : 0 ≤ k ∧ k < 31) (j : Int) : inS (zshl 1 k) j ↔ j.toNat = k.toNat := by
  have e : zshl 1 k = ((2 ^ k.toNat : Nat) : Int) := by
    have := zshl1 k.toNat (by omega)
    rwa [Int.toNat_of_nonneg hk.1] at this
  unfold inS
  rw [e, Int.toNat_natCast, Nat.testBit_two_pow]
  constructor
  · intro h
    have := of_decide_eq_true h; omega
  · intro h
    rw [h]; simp
theorem zshl1_rg {k : Int} (hk : 0 ≤ k ∧ k < 31) : 0 ≤ zshl 1 k ∧ zshl 1 k < 2147483648 := by
  have e : zshl 1 k = ((2 ^ k.toNat : Nat) : Int) := by
    have := zshl1 k.toNat (by omega)
    rwa [Int.toNat_of_nonneg hk.1] at this
  have h2 : (2 : Nat) ^ k.toNat < 2 ^ 31 := Nat.pow_lt_pow_right (by decide) (by omega)
  rw [e]
  generalize 2 ^ k.toNat = P at *
  omega
