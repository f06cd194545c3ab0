theorem byS8 (n : Nat) : byS (0 + 1 + 1 + 1 + 1 + 1 + 1 + 1 + 1) n = cntN (fun j => (n % 256).testBit j) 8 + 256 * (cntN (fun j => (n / 256 % 256).testBit j) 8 + 256 * (cntN (fun j => (n / 256 / 256 % 256).testBit j) 8 + 256 * (cntN (fun j => (n / 256 / 256 / 256 % 256).testBit j) 8 + 256 * (cntN (fun j => (n / 256 / 256 / 256 / 256 % 256).testBit j) 8 + 256 * (cntN (fun j => (n / 256 / 256 / 256 / 256 / 256 % 256).testBit j) 8 + 256 * (cntN (fun j => (n / 256 / 256 / 256 / 256 / 256 / 256 % 256).testBit j) 8 + 256 * cntN (fun j => (n / 256 / 256 / 256 / 256 / 256 / 256 / 256 % 256).testBit j) 8)))))) := by
  rw [byS, byS, byS, byS, byS, byS, byS, byS, byS]
  omega
theorem sum88 (n : Nat) : sum8 (0 + 1 + 1 + 1 + 1 + 1 + 1 + 1 + 1) n = cntN (fun j => (n % 256).testBit j) 8 + cntN (fun j => (n / 256 % 256).testBit j) 8 + cntN (fun j => (n / 256 / 256 % 256).testBit j) 8 + cntN (fun j => (n / 256 / 256 / 256 % 256).testBit j) 8 + cntN (fun j => (n / 256 / 256 / 256 / 256 % 256).testBit j) 8 + cntN (fun j => (n / 256 / 256 / 256 / 256 / 256 % 256).testBit j) 8 + cntN (fun j => (n / 256 / 256 / 256 / 256 / 256 / 256 % 256).testBit j) 8 + cntN (fun j => (n / 256 / 256 / 256 / 256 / 256 / 256 / 256 % 256).testBit j) 8 := by
  rw [sum8, sum8, sum8, sum8, sum8, sum8, sum8, sum8, sum8]
  omega
theorem pop64 {n y a b : Nat} (hy : y = byS 8 n) (ha : a = y + y / 256) (hb : b = a + a / 65536) : (b + b / 4294967296) % 128 = cntN (fun j => n.testBit j) 64 ∧ b + b / 4294967296 < 9223372036854775808 ∧ y < 9223372036854775808 := by
  have e := byS8 n
  have e2 := sum88 n
  have h := steps8 (cnt8_le n) (cnt8_le (n / 256)) (cnt8_le (n / 256 / 256)) (cnt8_le (n / 256 / 256 / 256)) (cnt8_le (n / 256 / 256 / 256 / 256)) (cnt8_le (n / 256 / 256 / 256 / 256 / 256)) (cnt8_le (n / 256 / 256 / 256 / 256 / 256 / 256)) (cnt8_le (n / 256 / 256 / 256 / 256 / 256 / 256 / 256)) (hy.trans e) ha hb
  have h2 : cntN (fun j => n.testBit j) 64 = sum8 8 n := cntN_bytes 8 n
  refine ⟨?_, h.2.1, h.2.2⟩
  rw [h2]
  exact h.1.trans e2.symm
def NN (x : Int) : Nat := (xb x).toNat
theorem NN_lt (x : Int) : NN x < 18446744073709551616 := (xb x).isLt
theorem NN_and (x y : Int) : NN (zland x y) = NN x &&& NN y := by unfold NN; rw [xb_and, BitVec.toNat_and]
theorem NN_add {x y : Int} (h : NN x + NN y < 18446744073709551616) : NN (x + y) = NN x + NN y := by
  unfold NN at *
  rw [xb_add, BitVec.toNat_add]
  exact Nat.mod_eq_of_lt h
theorem NN_sub {x y : Int} (h : NN y ≤ NN x) : NN (x - y) = NN x - NN y := by
  have hx := NN_lt x
  unfold NN at *
  rw [xb_sub, BitVec.toNat_sub]
  omega
theorem NN_shr (x : Int) {k : Int} {j : Nat} (hk : ((Int32.ofInt k).toInt64.toUInt64 &&& Int64.toUInt64 63).toNat % 64 = j) : NN (zlushr x k) = NN x / 2 ^ j := by
  unfold NN zlushr
  rw [xb_toInt, ← Nat.shiftRight_eq_div_pow, ← hk]
  show ((Int64.ofInt x).toUInt64 >>> ((Int32.ofInt k).toInt64.toUInt64 &&& Int64.toUInt64 63)).toNat = _
  rw [UInt64.toNat_shiftRight]
  rfl
def lb1 (i : Int) : Int := i - zland (zlushr i 1) 6148914691236517205
def lb2 (i : Int) : Int := zland i 3689348814741910323 + zland (zlushr i 2) 3689348814741910323
def lb3 (i : Int) : Int := zland (i + zlushr i 4) 1085102592571150095
def lb4 (i : Int) : Int := i + zlushr i 8
def lb5 (i : Int) : Int := i + zlushr i 16
def lb6 (i : Int) : Int := i + zlushr i 32
theorem c5_ok : NN 6148914691236517205 = m5 8 := by decide +kernel
theorem c3_ok : NN 3689348814741910323 = m3 8 := by decide +kernel
theorem cf_ok : NN 1085102592571150095 = mf 8 := by decide +kernel
theorem m3_v : m3 8 = 3689348814741910323 := by decide +kernel
theorem mf_v : mf 8 = 1085102592571150095 := by decide +kernel
theorem NN_lb1 (x : Int) : NN (lb1 x) = g1 8 (NN x) := by
  unfold lb1 g1
  have e : NN (zland (zlushr x 1) 6148914691236517205) = NN x / 2 &&& m5 8 := by rw [NN_and, NN_shr x (j := 1) (by decide +kernel), c5_ok, Nat.pow_one]
  have h : NN x / 2 &&& m5 8 ≤ NN x / 2 := Nat.and_le_left
  rw [NN_sub (by rw [e]; omega), e]
theorem NN_lb2 (x : Int) : NN (lb2 x) = g2 8 (NN x) := by
  unfold lb2 g2
  have e1 : NN (zland x 3689348814741910323) = NN x &&& m3 8 := by rw [NN_and, c3_ok]
  have e2 : NN (zland (zlushr x 2) 3689348814741910323) = NN x / 4 &&& m3 8 := by rw [NN_and, NN_shr x (j := 2) (by decide +kernel), c3_ok]
  have h1 : NN x &&& m3 8 ≤ m3 8 := Nat.and_le_right
  have h2 : NN x / 4 &&& m3 8 ≤ m3 8 := Nat.and_le_right
  rw [m3_v] at h1 h2
  rw [NN_add (by rw [e1, e2, m3_v]; omega), e1, e2]
theorem g2_le (n : Nat) : g2 8 n ≤ 7378697629483820646 := by
  unfold g2
  have h1 : n &&& m3 8 ≤ m3 8 := Nat.and_le_right
  have h2 : n / 4 &&& m3 8 ≤ m3 8 := Nat.and_le_right
  rw [m3_v] at *
  omega
theorem NN_lb3 (x : Int) (h : NN x ≤ 7378697629483820646) : NN (lb3 x) = g3 8 (NN x) := by
  unfold lb3 g3
  have e : NN (zlushr x 4) = NN x / 16 := NN_shr x (j := 4) (by decide +kernel)
  rw [NN_and, NN_add (by rw [e]; omega), e, cf_ok]
theorem zand127 (v : Int) : zand (zl2i v) 127 = ((NN v % 128 : Nat) : Int) := by
  unfold zand zl2i
  rw [Int32.ofInt_toInt]
  have e : ((Int64.ofInt v).toInt32 &&& Int32.ofInt 127).toBitVec.toNat = NN v % 128 := by
    show (((Int64.ofInt v).toInt32).toBitVec &&& (Int32.ofInt 127).toBitVec).toNat = _
    rw [BitVec.toNat_and]
    have e1 : ((Int64.ofInt v).toInt32).toBitVec.toNat = NN v % 4294967296 := by
      show ((Int64.ofInt v).toBitVec.signExtend 32).toNat = _
      first
        | (rw [BitVec.signExtend_eq_setWidth_of_le _ (by decide), BitVec.toNat_setWidth]; rfl)
        | (rw [BitVec.signExtend_eq_setWidth_of_lt _ (by decide), BitVec.toNat_setWidth]; rfl)
    have e2 : (Int32.ofInt 127).toBitVec.toNat = 2 ^ 7 - 1 := by decide
    rw [e1, e2, Nat.and_two_pow_sub_one_eq_mod]
    omega
  rw [toIN (by rw [e]; omega), e]
def pcL (x : Int) : Int := cntB (fun j => (xb x).getLsbD j.toNat) 64
theorem cntB_N (f : Int → Bool) : ∀ n, cntB f n = ((cntN (fun j => f (j : Int)) n : Nat) : Int) := by
  intro n
  induction n with
  | zero => rfl
  | succ n ih => rw [cntB, cntN, ih]; split <;> simp
theorem pcL_ok (x : Int) : zand (zl2i (lb6 (lb5 (lb4 (lb3 (lb2 (lb1 x))))))) 127 = pcL x := by
  rw [zand127]
  have hN := NN_lt x
  have e1 := NN_lb1 x
  have e2 := NN_lb2 (lb1 x)
  rw [e1] at e2
  have e3 := NN_lb3 (lb2 (lb1 x)) (by rw [e2]; exact g2_le _)
  rw [e2, (swar 8 (NN x) hN).1] at e3
  generalize lb3 (lb2 (lb1 x)) = y at *
  obtain ⟨p1, p2, p3⟩ := pop64 (n := NN x) (y := NN y) e3 rfl rfl
  have s8 : NN (zlushr y 8) = NN y / 256 := NN_shr y (j := 8) (by decide +kernel)
  have f4 : NN (lb4 y) = NN y + NN y / 256 := by unfold lb4; rw [NN_add (by rw [s8]; omega), s8]
  have s16 : NN (zlushr (lb4 y) 16) = NN (lb4 y) / 65536 := NN_shr _ (j := 16) (by decide +kernel)
  have f5 : NN (lb5 (lb4 y)) = NN y + NN y / 256 + (NN y + NN y / 256) / 65536 := by unfold lb5; rw [NN_add (by rw [s16, f4]; omega), s16, f4]
  have s32 : NN (zlushr (lb5 (lb4 y)) 32) = NN (lb5 (lb4 y)) / 4294967296 := NN_shr _ (j := 32) (by decide +kernel)
  have f6 : NN (lb6 (lb5 (lb4 y))) = NN y + NN y / 256 + (NN y + NN y / 256) / 65536 + (NN y + NN y / 256 + (NN y + NN y / 256) / 65536) / 4294967296 := by unfold lb6; rw [NN_add (by rw [s32, f5]; omega), s32, f5]
  rw [f6, p1]
  unfold pcL
  rw [cntB_N]
  rfl

set_option maxRecDepth 20000 in
set_option maxHeartbeats 4000000 in
theorem ct_J13_bitCount_95d88 (E : Ev) (M : Mm) (x : Int) : Ct E yJ13_bitCount_95d88 cJ13_bitCount_95d88 2 (some .int) 0 [zl x] M (pP M (fun z => z = pcL x)) := by
  refine Ct.of (own := RJ13) (lv0 := [some (zl x), none]) (by decide) rfl (Nat.le_of_ble_eq_true rfl) rfl (fun κ C => ?_)
  refine s_lload_n C dJ13_bitCount_95d88_0 rfl ?_
  refine s_lload_n C dJ13_bitCount_95d88_1 rfl ?_
  refine s_iconst C dJ13_bitCount_95d88_2 ?_
  refine s_lushr C dJ13_bitCount_95d88_3 ?_
  refine s_ldc2 C dJ13_bitCount_95d88_4 kc_J13_314 ?_
  refine s_land C dJ13_bitCount_95d88_7 ?_
  refine s_lsub C dJ13_bitCount_95d88_8 ?_
  refine s_lstore_n (lv' := [_, _]) C dJ13_bitCount_95d88_9 (by decide) rfl rfl ?_
  refine s_lload_n C dJ13_bitCount_95d88_10 rfl ?_
  refine s_ldc2 C dJ13_bitCount_95d88_11 kc_J13_316 ?_
  refine s_land C dJ13_bitCount_95d88_14 ?_
  refine s_lload_n C dJ13_bitCount_95d88_15 rfl ?_
  refine s_iconst C dJ13_bitCount_95d88_16 ?_
  refine s_lushr C dJ13_bitCount_95d88_17 ?_
  refine s_ldc2 C dJ13_bitCount_95d88_18 kc_J13_316 ?_
  refine s_land C dJ13_bitCount_95d88_21 ?_
  refine s_ladd C dJ13_bitCount_95d88_22 ?_
  refine s_lstore_n (lv' := [_, _]) C dJ13_bitCount_95d88_23 (by decide) rfl rfl ?_
  refine s_lload_n C dJ13_bitCount_95d88_24 rfl ?_
  refine s_lload_n C dJ13_bitCount_95d88_25 rfl ?_
  refine s_iconst C dJ13_bitCount_95d88_26 ?_
  refine s_lushr C dJ13_bitCount_95d88_27 ?_
  refine s_ladd C dJ13_bitCount_95d88_28 ?_
  refine s_ldc2 C dJ13_bitCount_95d88_29 kc_J13_318 ?_
  refine s_land C dJ13_bitCount_95d88_32 ?_
  refine s_lstore_n (lv' := [_, _]) C dJ13_bitCount_95d88_33 (by decide) rfl rfl ?_
  refine s_lload_n C dJ13_bitCount_95d88_34 rfl ?_
  refine s_lload_n C dJ13_bitCount_95d88_35 rfl ?_
  refine s_bipush C dJ13_bitCount_95d88_36 (by decide) ?_
  refine s_lushr C dJ13_bitCount_95d88_38 ?_
  refine s_ladd C dJ13_bitCount_95d88_39 ?_
  refine s_lstore_n (lv' := [_, _]) C dJ13_bitCount_95d88_40 (by decide) rfl rfl ?_
  refine s_lload_n C dJ13_bitCount_95d88_41 rfl ?_
  refine s_lload_n C dJ13_bitCount_95d88_42 rfl ?_
  refine s_bipush C dJ13_bitCount_95d88_43 (by decide) ?_
  refine s_lushr C dJ13_bitCount_95d88_45 ?_
  refine s_ladd C dJ13_bitCount_95d88_46 ?_
  refine s_lstore_n (lv' := [_, _]) C dJ13_bitCount_95d88_47 (by decide) rfl rfl ?_
  refine s_lload_n C dJ13_bitCount_95d88_48 rfl ?_
  refine s_lload_n C dJ13_bitCount_95d88_49 rfl ?_
  refine s_bipush C dJ13_bitCount_95d88_50 (by decide) ?_
  refine s_lushr C dJ13_bitCount_95d88_52 ?_
  refine s_ladd C dJ13_bitCount_95d88_53 ?_
  refine s_lstore_n (lv' := [_, _]) C dJ13_bitCount_95d88_54 (by decide) rfl rfl ?_
  refine s_lload_n C dJ13_bitCount_95d88_55 rfl ?_
  refine s_l2i C dJ13_bitCount_95d88_56 ?_
  refine s_bipush C dJ13_bitCount_95d88_57 (by decide) ?_
  refine s_iand C dJ13_bitCount_95d88_59 ?_
  exact s_ireturn C dJ13_bitCount_95d88_60 (⟨_, rfl, rfl, pcL_ok x⟩)
