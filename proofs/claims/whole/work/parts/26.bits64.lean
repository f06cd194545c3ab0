/-! bits of longs, and how many there are -/
def xb (x : Int) : BitVec 64 := (Int64.ofInt x).toBitVec
abbrev tbl (x j : Int) : Prop := (xb x).getLsbD j.toNat = true
theorem xb_toInt (v : Int64) : xb v.toInt = v.toBitVec := by unfold xb; rw [Int64.ofInt_toInt]
theorem xb_and (x y : Int) : xb (zland x y) = xb x &&& xb y := by unfold zland; rw [xb_toInt]; rfl
theorem xb_or (x y : Int) : xb (zlor x y) = xb x ||| xb y := by unfold zlor; rw [xb_toInt]; rfl
theorem xb_xor (x y : Int) : xb (zlxor x y) = xb x ^^^ xb y := by unfold zlxor; rw [xb_toInt]; rfl
theorem xb_add (x y : Int) : xb (x + y) = xb x + xb y := by unfold xb; rw [Int64.ofInt_add]; rfl
theorem xb_sub (x y : Int) : xb (x - y) = xb x - xb y := by unfold xb; rw [Int64.ofInt_sub]; rfl
theorem xb_one : ∀ k : Nat, k < 64 → ∀ j : Nat, j < 64 → (xb (zlshl 1 (k : Int))).getLsbD j = decide (j = k) := by decide +kernel
theorem tbl_and {x y j : Int} : tbl (zland x y) j ↔ tbl x j ∧ tbl y j := by
  unfold tbl; rw [xb_and, BitVec.getLsbD_and]; simp
theorem tbl_or {x k j : Int} (hk : 0 ≤ k ∧ k < 64) (hj : 0 ≤ j ∧ j < 64) : tbl (zlor x (zlshl 1 k)) j ↔ tbl x j ∨ j = k := by
  have h := xb_one k.toNat (by omega) j.toNat (by omega)
  rw [Int.toNat_of_nonneg hk.1] at h
  unfold tbl
  rw [xb_or, BitVec.getLsbD_or, h, Bool.or_eq_true, decide_eq_true_eq]
  constructor
  · rintro (q | q)
    · exact Or.inl q
    · exact Or.inr (by omega)
  · rintro (q | q)
    · exact Or.inl q
    · exact Or.inr (by omega)
theorem tbl_not {x j : Int} (hj : 0 ≤ j ∧ j < 64) : tbl (zlxor x (-1)) j ↔ ¬ tbl x j := by
  unfold tbl
  rw [xb_xor, show xb (-1) = BitVec.allOnes 64 from by decide, BitVec.getLsbD_xor, BitVec.getLsbD_allOnes]
  simp [show j.toNat < 64 by omega]
theorem tbl_zero {x : Int} (hx : rgl x) : x = 0 ↔ ∀ j, 0 ≤ j → j < 64 → ¬ tbl x j := by
  constructor
  · intro h j _ _
    subst h
    unfold tbl
    rw [show xb 0 = 0#64 from by decide]
    simp
  · intro h
    have e : xb x = 0#64 := by
      apply BitVec.eq_of_getLsbD_eq
      intro i hi
      have := h (i : Int) (by omega) (by omega)
      unfold tbl at this
      rw [Int.toNat_natCast] at this
      simp only [Bool.not_eq_true] at this
      rw [this]; simp
    have h2 : (Int64.ofInt x).toInt = (Int64.ofInt 0).toInt := by
      have : Int64.ofInt x = Int64.ofInt 0 := by
        rw [← Int64.toBitVec_inj]; exact e
      rw [this]
    rw [toInt_zl hx, toInt_zl (by decide)] at h2
    exact h2
-- counting the bits of a number of eight bytes
def cntN (f : Nat → Bool) : Nat → Nat
  | 0 => 0
  | n + 1 => cntN f n + (if f n then 1 else 0)
theorem cntN_add (f : Nat → Bool) (a : Nat) : ∀ b, cntN f (a + b) = cntN f a + cntN (fun j => f (a + j)) b := by
  intro b
  induction b with
  | zero => rfl
  | succ b ih =>
    show cntN f (a + b + 1) = _
    rw [cntN, cntN, ih]; omega
theorem cntN_congr {f g : Nat → Bool} : ∀ n, (∀ j, j < n → f j = g j) → cntN f n = cntN g n := by
  intro n
  induction n with
  | zero => intro _; rfl
  | succ n ih => intro h; rw [cntN, cntN, ih (fun j hj => h j (by omega)), h n (by omega)]
theorem and_cat (h m : Nat) {l c : Nat} (hl : l < 256) (hc : c < 256) : (256 * h + l) &&& (256 * m + c) = 256 * (h &&& m) + (l &&& c) := by
  have hlc : l &&& c < 256 := Nat.lt_of_le_of_lt Nat.and_le_left hl
  apply Nat.eq_of_testBit_eq
  intro j
  rw [Nat.testBit_and, show 256 = 2 ^ 8 from rfl, Nat.testBit_two_pow_mul_add h hl, Nat.testBit_two_pow_mul_add m hc, Nat.testBit_two_pow_mul_add _ hlc]
  split
  · rw [Nat.testBit_and]
  · rw [Nat.testBit_and]
def m5 : Nat → Nat
  | 0 => 0
  | k + 1 => 256 * m5 k + 0x55
def m3 : Nat → Nat
  | 0 => 0
  | k + 1 => 256 * m3 k + 0x33
def mf : Nat → Nat
  | 0 => 0
  | k + 1 => 256 * mf k + 0x0f
def g1 (k n : Nat) : Nat := n - (n / 2 &&& m5 k)
def g2 (k n : Nat) : Nat := (n &&& m3 k) + (n / 4 &&& m3 k)
def g3 (k n : Nat) : Nat := n + n / 16 &&& mf k
def b1 (l : Nat) : Nat := l - (l / 2 &&& 0x55)
def b2 (l : Nat) : Nat := (l &&& 0x33) + (l / 4 &&& 0x33)
theorem byt5 : ∀ l, l < 256 → ∀ p, p < 2 → 128 * p + l / 2 < 256 ∧ (128 * p + l / 2 &&& 0x55) = (l / 2 &&& 0x55) := by decide +kernel
theorem byt3 : ∀ l, l < 256 → ∀ p, p < 4 → 64 * p + l / 4 < 256 ∧ (64 * p + l / 4 &&& 0x33) = (l / 4 &&& 0x33) := by decide +kernel
theorem byte_all : ∀ l, l < 256 → b1 l < 256 ∧ (l / 2 &&& 0x55) ≤ l ∧ b2 (b1 l) % 16 ≤ 4 ∧ b2 (b1 l) / 16 ≤ 4 ∧ (b2 (b1 l) + b2 (b1 l) / 16) % 16 = cntN (fun j => l.testBit j) 8 ∧ cntN (fun j => l.testBit j) 8 ≤ 8 := by decide +kernel
theorem g1_cat (k H : Nat) {L : Nat} (hL : L < 256) : g1 (k + 1) (256 * H + L) = 256 * g1 k H + b1 L := by
  unfold g1 b1
  have e : (256 * H + L) / 2 = 256 * (H / 2) + (128 * (H % 2) + L / 2) := by omega
  obtain ⟨q1, q2⟩ := byt5 L hL (H % 2) (by omega)
  rw [e, m5, and_cat _ _ q1 (by decide), q2]
  have h1 : H / 2 &&& m5 k ≤ H / 2 := Nat.and_le_left
  have h2 := (byte_all L hL).2.1
  omega
theorem g2_cat (k P : Nat) {Q : Nat} (hQ : Q < 256) : g2 (k + 1) (256 * P + Q) = 256 * g2 k P + b2 Q := by
  unfold g2 b2
  have e : (256 * P + Q) / 4 = 256 * (P / 4) + (64 * (P % 4) + Q / 4) := by omega
  obtain ⟨q1, q2⟩ := byt3 Q hQ (P % 4) (by omega)
  rw [e, m3, and_cat _ _ q1 (by decide), and_cat _ _ hQ (by decide), q2]
  omega
theorem g3_cat (k P : Nat) {Q : Nat} (h1 : Q % 16 ≤ 4) (h2 : Q / 16 ≤ 4) (h3 : P % 16 ≤ 4) : g3 (k + 1) (256 * P + Q) = 256 * g3 k P + (Q + Q / 16) % 16 := by
  unfold g3
  have e : 256 * P + Q + (256 * P + Q) / 16 = 256 * (P + P / 16) + (Q + 16 * (P % 16) + Q / 16) := by omega
  rw [e, mf, and_cat _ _ (by omega) (by decide)]
  have : Q + 16 * (P % 16) + Q / 16 &&& 0x0f = (Q + 16 * (P % 16) + Q / 16) % 16 := Nat.and_two_pow_sub_one_eq_mod _ 4
  rw [this]
  omega
def byS : Nat → Nat → Nat
  | 0, _ => 0
  | k + 1, n => 256 * byS k (n / 256) + cntN (fun j => (n % 256).testBit j) 8
theorem swar (k : Nat) : ∀ n, n < 256 ^ k → g3 k (g2 k (g1 k n)) = byS k n ∧ g2 k (g1 k n) % 16 ≤ 4 := by
  induction k with
  | zero =>
    intro n hn
    have : n = 0 := by simpa using hn
    subst this
    decide
  | succ k ih =>
    intro n hn
    have hd : n = 256 * (n / 256) + n % 256 := by omega
    have hL : n % 256 < 256 := by omega
    have hH : n / 256 < 256 ^ k := by
      rw [Nat.pow_succ] at hn
      omega
    obtain ⟨i1, i2⟩ := ih _ hH
    obtain ⟨c1, c2, c3, c4, c5, c6⟩ := byte_all (n % 256) hL
    have e1 : g1 (k + 1) n = 256 * g1 k (n / 256) + b1 (n % 256) := by
      conv => lhs; rw [hd]
      exact g1_cat k _ hL
    have e2 : g2 (k + 1) (g1 (k + 1) n) = 256 * g2 k (g1 k (n / 256)) + b2 (b1 (n % 256)) := by rw [e1]; exact g2_cat k _ c1
    refine ⟨?_, ?_⟩
    · rw [e2, g3_cat k _ c3 c4 i2, i1, byS, c5]
    · rw [e2]
      clear e2 i1 c5
      generalize g2 k (g1 k (n / 256)) = P at *
      generalize b2 (b1 (n % 256)) = Q at *
      omega
def sum8 : Nat → Nat → Nat
  | 0, _ => 0
  | k + 1, n => sum8 k (n / 256) + cntN (fun j => (n % 256).testBit j) 8
theorem cntN_bytes (k : Nat) : ∀ n, cntN (fun j => n.testBit j) (8 * k) = sum8 k n := by
  induction k with
  | zero => intro n; rfl
  | succ k ih =>
    intro n
    rw [show 8 * (k + 1) = 8 + 8 * k by omega, cntN_add, sum8, ← ih (n / 256)]
    have e1 : cntN (fun j => n.testBit j) 8 = cntN (fun j => (n % 256).testBit j) 8 := cntN_congr 8 (fun j hj => by
      rw [show 256 = 2 ^ 8 from rfl, Nat.testBit_mod_two_pow]; simp [hj])
    have e2 : cntN (fun j => n.testBit (8 + j)) (8 * k) = cntN (fun j => (n / 256).testBit j) (8 * k) := cntN_congr _ (fun j _ => by
      rw [show 256 = 2 ^ 8 from rfl, Nat.testBit_div_two_pow]
      rw [Nat.add_comm])
    rw [e1, e2]; omega
theorem cnt8_le (n : Nat) : cntN (fun j => (n % 256).testBit j) 8 ≤ 8 := (byte_all (n % 256) (by omega)).2.2.2.2.2
theorem steps8 {z0 z1 z2 z3 z4 z5 z6 z7 y a b : Nat} (q0 : z0 ≤ 8) (q1 : z1 ≤ 8) (q2 : z2 ≤ 8) (q3 : z3 ≤ 8) (q4 : z4 ≤ 8) (q5 : z5 ≤ 8) (q6 : z6 ≤ 8) (q7 : z7 ≤ 8) (hy : y = z0 + 256 * (z1 + 256 * (z2 + 256 * (z3 + 256 * (z4 + 256 * (z5 + 256 * (z6 + 256 * z7))))))) (ha : a = y + y / 256) (hb : b = a + a / 65536) : (b + b / 4294967296) % 128 = z0 + z1 + z2 + z3 + z4 + z5 + z6 + z7 ∧ b + b / 4294967296 < 9223372036854775808 ∧ y < 9223372036854775808 := by
  have h1 : y / 256 = z1 + 256 * (z2 + 256 * (z3 + 256 * (z4 + 256 * (z5 + 256 * (z6 + 256 * z7))))) := by omega
  have ha2 : a = z0 + z1 + 256 * (z1 + z2 + 256 * (z2 + z3 + 256 * (z3 + z4 + 256 * (z4 + z5 + 256 * (z5 + z6 + 256 * (z6 + z7 + 256 * z7)))))) := by omega
  clear ha h1
  have h2 : a / 65536 = z2 + z3 + 256 * (z3 + z4 + 256 * (z4 + z5 + 256 * (z5 + z6 + 256 * (z6 + z7 + 256 * z7)))) := by clear hb hy; omega
  have hb2 : b = z0 + z1 + z2 + z3 + 256 * (z1 + z2 + z3 + z4 + 256 * (z2 + z3 + z4 + z5 + 256 * (z3 + z4 + z5 + z6 + 256 * (z4 + z5 + z6 + z7 + 256 * (z5 + z6 + z7 + 256 * (z6 + z7 + 256 * z7)))))) := by clear hy; omega
  clear hb h2 ha2
  have h3 : b / 4294967296 = z4 + z5 + z6 + z7 + 256 * (z5 + z6 + z7 + 256 * (z6 + z7 + 256 * z7)) := by clear hy; omega
  refine ⟨?_, ?_, ?_⟩
  · rw [h3, hb2]; clear h3 hb2 hy; omega
  · rw [h3]; clear h3 hy; omega
  · clear h3 hb2; omega
