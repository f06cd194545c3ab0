/-- how many members a set of numbers below 10 has -/
def pcS (x : Int) : Int := cntB (fun k => x.toNat.testBit k.toNat) 10
def bc1 (i : Int) : Int := i - zand (zushr i 1) 1431655765
def bc2 (i : Int) : Int := zand i 858993459 + zand (zushr i 2) 858993459
def bc3 (i : Int) : Int := zand (i + zushr i 4) 252645135
def bc4 (i : Int) : Int := i + zushr i 8
def bc5 (i : Int) : Int := i + zushr i 16
def bc32 (x : Int) : Int := zand (bc5 (bc4 (bc3 (bc2 (bc1 x))))) 63
theorem bc32_ok : ∀ s : Nat, s < 1024 → bc32 (s : Int) = pcS (s : Int) := by decide +kernel
theorem pcS_le (x : Int) : 0 ≤ pcS x ∧ pcS x ≤ 10 := cntB_nn _ 10
theorem mul_bd {a b : Int} (ha : 0 ≤ a ∧ a ≤ 24) (hb : -10 ≤ b ∧ b ≤ 10) : -240 ≤ a * b ∧ a * b ≤ 240 := by
  have h1 : a * b ≤ a * 10 := Int.mul_le_mul_of_nonneg_left hb.2 ha.1
  have h2 : a * (-10) ≤ a * b := Int.mul_le_mul_of_nonneg_left hb.1 ha.1
  omega
/-- the unit that place p is in -/
def UO (M : Mm) (p z : Int) : Prop := (z = -1 ∧ ∀ u, 0 ≤ u → u < M 58 8 → ¬ (M 60 u ≤ p ∧ p < M 60 u + M 61 u)) ∨ (0 ≤ z ∧ z < M 58 8 ∧ (M 60 z ≤ p ∧ p < M 60 z + M 61 z) ∧ ∀ u, 0 ≤ u → u < z → ¬ (M 60 u ≤ p ∧ p < M 60 u + M 61 u))
def oAdd (M : Mm) (s f n : Int) : Mm := mput (mput (mput (mput (mput M 59 (M 58 8) s) 60 (M 58 8) f) 61 (M 58 8) n) 62 (M 58 8) 0) 58 8 (M 58 8 + 1)
/-- what the units keep -/
def OI (M : Mm) : Prop := (1 ≤ M 58 8 ∧ M 58 8 ≤ 10) ∧ (0 ≤ M 58 9 ∧ M 58 9 < M 58 8) ∧ ∀ u, 0 ≤ u → u < M 58 8 → (0 ≤ M 60 u ∧ M 60 u ≤ M 59 u ∧ M 59 u < M 60 u + M 61 u ∧ M 60 u + M 61 u ≤ 24) ∧ (0 ≤ M 62 u ∧ M 62 u < 1024)
/-- unit u may come behind a set; what it adds; what it costs from there, with f for the rest -/
def oMay (M : Mm) (u set : Int) : Prop := ¬ inS set u ∧ ∀ k, (M 62 u).toNat.testBit k = true → set.toNat.testBit k = true
def oStep (M : Mm) (u set : Int) : Int := if u = M 58 9 then 0 else if inS set (M 58 9) then M 59 u - M 60 u + 1 + M 61 u * (M 58 8 - pcS set - 1) else M 61 u - (M 59 u - M 60 u) + M 61 u * pcS set
def oCst (M : Mm) (u set : Int) : Int := min 268435456 (oStep M u set + M 63 (zor set (zshl 1 u)))
theorem oStep_rg {M : Mm} (h : OI M) {u set : Int} (hu : 0 ≤ u ∧ u < M 58 8) : -1000 ≤ oStep M u set ∧ oStep M u set ≤ 1000 := by
  obtain ⟨h1, h2, h3⟩ := h
  have h4 := (h3 u hu.1 hu.2).1
  have h5 := pcS_le set
  unfold oStep
  split
  · omega
  · split
    · have := mul_bd (a := M 61 u) (b := M 58 8 - pcS set - 1) (by omega) (by omega); omega
    · have := mul_bd (a := M 61 u) (b := pcS set) (by omega) (by omega); omega
/-- a set of units with one more is a set of units -/
theorem zor_lt {x u n : Int} (hn : 0 ≤ n ∧ n ≤ 10) (hx : 0 ≤ x ∧ x < ((2 ^ n.toNat : Nat) : Int)) (hu : 0 ≤ u ∧ u < n) : 0 ≤ zor x (zshl 1 u) ∧ zor x (zshl 1 u) < ((2 ^ n.toNat : Nat) : Int) := by
  have hp : (2 : Nat) ^ n.toNat ≤ 2 ^ 10 := Nat.pow_le_pow_right (by decide) (by omega)
  have h2 : (2 : Nat) ^ u.toNat < 2 ^ n.toNat := Nat.pow_lt_pow_right (by decide) (by omega)
  have e : zshl 1 u = ((2 ^ u.toNat : Nat) : Int) := by
    have := zshl1 u.toNat (by omega)
    rwa [Int.toNat_of_nonneg hu.1] at this
  have h3 := Nat.or_lt_two_pow (n := n.toNat) (x := x.toNat) (y := 2 ^ u.toNat) (by omega) h2
  rw [e]
  generalize 2 ^ u.toNat = P at *
  generalize 2 ^ n.toNat = Q at *
  rw [zor_n (by omega) (by omega), Int.toNat_natCast]
  omega

set_option maxRecDepth 20000 in
set_option maxHeartbeats 4000000 in
theorem ct_J6_bitCount_0f7a4 (E : Ev) (M : Mm) (x : Int) (hx : 0 ≤ x ∧ x < 1024) : Ct E yJ6_bitCount_0f7a4 cJ6_bitCount_0f7a4 1 (some .int) 0 [zi x] M (pP M (fun z => z = pcS x)) := by
  refine Ct.of (own := RJ6) (lv0 := [some (zi x)]) (by decide) rfl (Nat.le_of_ble_eq_true rfl) rfl (fun κ C => ?_)
  refine s_iload_n C dJ6_bitCount_0f7a4_0 rfl ?_
  refine s_iload_n C dJ6_bitCount_0f7a4_1 rfl ?_
  refine s_iconst C dJ6_bitCount_0f7a4_2 ?_
  refine s_iushr C dJ6_bitCount_0f7a4_3 ?_
  refine s_ldcw C dJ6_bitCount_0f7a4_4 kc_J6_265 ?_
  refine s_iand C dJ6_bitCount_0f7a4_7 ?_
  refine s_isub C dJ6_bitCount_0f7a4_8 ?_
  refine s_istore_n (lv' := [_]) C dJ6_bitCount_0f7a4_9 (by decide) rfl rfl ?_
  refine s_iload_n C dJ6_bitCount_0f7a4_10 rfl ?_
  refine s_ldcw C dJ6_bitCount_0f7a4_11 kc_J6_266 ?_
  refine s_iand C dJ6_bitCount_0f7a4_14 ?_
  refine s_iload_n C dJ6_bitCount_0f7a4_15 rfl ?_
  refine s_iconst C dJ6_bitCount_0f7a4_16 ?_
  refine s_iushr C dJ6_bitCount_0f7a4_17 ?_
  refine s_ldcw C dJ6_bitCount_0f7a4_18 kc_J6_266 ?_
  refine s_iand C dJ6_bitCount_0f7a4_21 ?_
  refine s_iadd C dJ6_bitCount_0f7a4_22 ?_
  refine s_istore_n (lv' := [_]) C dJ6_bitCount_0f7a4_23 (by decide) rfl rfl ?_
  refine s_iload_n C dJ6_bitCount_0f7a4_24 rfl ?_
  refine s_iload_n C dJ6_bitCount_0f7a4_25 rfl ?_
  refine s_iconst C dJ6_bitCount_0f7a4_26 ?_
  refine s_iushr C dJ6_bitCount_0f7a4_27 ?_
  refine s_iadd C dJ6_bitCount_0f7a4_28 ?_
  refine s_ldcw C dJ6_bitCount_0f7a4_29 kc_J6_267 ?_
  refine s_iand C dJ6_bitCount_0f7a4_32 ?_
  refine s_istore_n (lv' := [_]) C dJ6_bitCount_0f7a4_33 (by decide) rfl rfl ?_
  refine s_iload_n C dJ6_bitCount_0f7a4_34 rfl ?_
  refine s_iload_n C dJ6_bitCount_0f7a4_35 rfl ?_
  refine s_bipush C dJ6_bitCount_0f7a4_36 (by decide) ?_
  refine s_iushr C dJ6_bitCount_0f7a4_38 ?_
  refine s_iadd C dJ6_bitCount_0f7a4_39 ?_
  refine s_istore_n (lv' := [_]) C dJ6_bitCount_0f7a4_40 (by decide) rfl rfl ?_
  refine s_iload_n C dJ6_bitCount_0f7a4_41 rfl ?_
  refine s_iload_n C dJ6_bitCount_0f7a4_42 rfl ?_
  refine s_bipush C dJ6_bitCount_0f7a4_43 (by decide) ?_
  refine s_iushr C dJ6_bitCount_0f7a4_45 ?_
  refine s_iadd C dJ6_bitCount_0f7a4_46 ?_
  refine s_istore_n (lv' := [_]) C dJ6_bitCount_0f7a4_47 (by decide) rfl rfl ?_
  refine s_iload_n C dJ6_bitCount_0f7a4_48 rfl ?_
  refine s_bipush C dJ6_bitCount_0f7a4_49 (by decide) ?_
  refine s_iand C dJ6_bitCount_0f7a4_51 ?_
  exact s_ireturn C dJ6_bitCount_0f7a4_52 (⟨_, rfl, rfl, by
      have h := bc32_ok x.toNat (by omega)
      rw [Int.toNat_of_nonneg hx.1] at h
      exact h⟩)

set_option maxRecDepth 20000 in
set_option maxHeartbeats 4000000 in
theorem ct_X3_clear (E : Ev) (M : Mm) : Ct E yX3_clear cX3_clear 1 none 0 [zr E 58] M (pV (fun M' => M' = mput (mput M 58 8 0) 58 9 0)) := by
  refine Ct.of (own := RX3) (lv0 := [some (zr E 58)]) (by decide) rfl (Nat.le_of_ble_eq_true rfl) rfl (fun κ C => ?_)
  refine s_aload_n C dX3_clear_0 rfl ?_
  refine s_iconst C dX3_clear_1 ?_
  refine s_puti (k := 8) (j := 8) C dX3_clear_2 fp_X3_33 (by decide) rfl rfl rfl (by omega) ?_
  refine s_aload_n C dX3_clear_5 rfl ?_
  refine s_iconst C dX3_clear_6 ?_
  refine s_puti (k := 9) (j := 9) C dX3_clear_7 fp_X3_37 (by decide) rfl rfl rfl (by omega) ?_
  exact s_return C dX3_clear_10 (⟨rfl, rfl⟩)

set_option maxRecDepth 20000 in
set_option maxHeartbeats 4000000 in
theorem ct_X3_addPart (E : Ev) (M : Mm) (s f n : Int) (hs : rg s) (hf : rg f) (hn : rg n) (h8 : 0 ≤ M 58 8 ∧ M 58 8 < 10) : Ct E yX3_addPart cX3_addPart 4 none 0 [zr E 58, zi s, zi f, zi n] M (pV (fun M' => M' = oAdd M s f n)) := by
  refine Ct.of (own := RX3) (lv0 := [some (zr E 58), some (zi s), some (zi f), some (zi n)]) (by decide) rfl (Nat.le_of_ble_eq_true rfl) rfl (fun κ C => ?_)
  refine s_aload_n C dX3_addPart_0 rfl ?_
  refine s_geti (k := 8) (j := 8) C dX3_addPart_1 fl_X3_33 (by decide) rfl (by decide) rfl (rfl) (fun r1 => ?_)
  refine s_bipush C dX3_addPart_4 (by decide) ?_
  refine s_icmp_ge (tgt := 59) C dX3_addPart_6 (by decide) (by omega) (by omega) (fun c6 => ?_) (fun c6 => ?_)
  · skip
    omega
  · skip
    refine s_aload_n C dX3_addPart_9 rfl ?_
    refine s_getr (k := 0) (b := 59) C dX3_addPart_10 fl_X3_9 (by decide) rfl (by decide) rfl ?_
    refine s_aload_n C dX3_addPart_13 rfl ?_
    refine s_geti (k := 8) (j := 8) C dX3_addPart_14 fl_X3_33 (by decide) rfl (by decide) rfl (rfl) (fun r14 => ?_)
    refine s_iload_n C dX3_addPart_17 rfl ?_
    refine s_iastore (n := 10) C dX3_addPart_18 (by decide) rfl rfl (by omega) (by omega) (by omega) (by omega) ?_
    refine s_aload_n C dX3_addPart_19 rfl ?_
    refine s_getr (k := 1) (b := 60) C dX3_addPart_20 fl_X3_15 (by decide) rfl (by decide) rfl ?_
    refine s_aload_n C dX3_addPart_23 rfl ?_
    refine s_geti (k := 8) (j := 8) C dX3_addPart_24 fl_X3_33 (by decide) rfl (by decide) rfl (by first | (simp (disch := omega) only [mput_ne, mput_nk, mput_eq, mcopy_ne]; done) | (simp (disch := omega) only [mput_ne, mput_nk, mput_eq, mcopy_ne]; rfl) | rfl) (fun r24 => ?_)
    refine s_iload_n C dX3_addPart_27 rfl ?_
    refine s_iastore (n := 10) C dX3_addPart_28 (by decide) rfl rfl (by omega) (by omega) (by omega) (by omega) ?_
    refine s_aload_n C dX3_addPart_29 rfl ?_
    refine s_getr (k := 2) (b := 61) C dX3_addPart_30 fl_X3_18 (by decide) rfl (by decide) rfl ?_
    refine s_aload_n C dX3_addPart_33 rfl ?_
    refine s_geti (k := 8) (j := 8) C dX3_addPart_34 fl_X3_33 (by decide) rfl (by decide) rfl (by first | (simp (disch := omega) only [mput_ne, mput_nk, mput_eq, mcopy_ne]; done) | (simp (disch := omega) only [mput_ne, mput_nk, mput_eq, mcopy_ne]; rfl) | rfl) (fun r34 => ?_)
    refine s_iload_n C dX3_addPart_37 rfl ?_
    refine s_iastore (n := 10) C dX3_addPart_38 (by decide) rfl rfl (by omega) (by omega) (by omega) (by omega) ?_
    refine s_aload_n C dX3_addPart_39 rfl ?_
    refine s_getr (k := 3) (b := 62) C dX3_addPart_40 fl_X3_21 (by decide) rfl (by decide) rfl ?_
    refine s_aload_n C dX3_addPart_43 rfl ?_
    refine s_geti (k := 8) (j := 8) C dX3_addPart_44 fl_X3_33 (by decide) rfl (by decide) rfl (by first | (simp (disch := omega) only [mput_ne, mput_nk, mput_eq, mcopy_ne]; done) | (simp (disch := omega) only [mput_ne, mput_nk, mput_eq, mcopy_ne]; rfl) | rfl) (fun r44 => ?_)
    refine s_iconst C dX3_addPart_47 ?_
    refine s_iastore (n := 10) C dX3_addPart_48 (by decide) rfl rfl (by omega) (by omega) (by omega) (by omega) ?_
    refine s_aload_n C dX3_addPart_49 rfl ?_
    refine s_dup C dX3_addPart_50 rfl ?_
    refine s_geti (k := 8) (j := 8) C dX3_addPart_51 fl_X3_33 (by decide) rfl (by decide) rfl (by first | (simp (disch := omega) only [mput_ne, mput_nk, mput_eq, mcopy_ne]; done) | (simp (disch := omega) only [mput_ne, mput_nk, mput_eq, mcopy_ne]; rfl) | rfl) (fun r51 => ?_)
    refine s_iconst C dX3_addPart_54 ?_
    refine s_iadd C dX3_addPart_55 ?_
    refine s_puti (k := 8) (j := 8) C dX3_addPart_56 fp_X3_33 (by decide) rfl rfl rfl (by omega) ?_
    exact s_return C dX3_addPart_59 (⟨rfl, rfl⟩)

set_option maxRecDepth 20000 in
set_option maxHeartbeats 4000000 in
theorem ct_X3_addHead (E : Ev) (M : Mm) (h : Int) (hh : rg h) (h8 : 0 ≤ M 58 8 ∧ M 58 8 < 10) : Ct E yX3_addHead cX3_addHead 2 none 1 [zr E 58, zi h] M (pV (fun M' => M' = oAdd (mput M 58 9 (M 58 8)) h h 1)) := by
  refine Ct.of (own := RX3) (lv0 := [some (zr E 58), some (zi h)]) (by decide) rfl (Nat.le_of_ble_eq_true rfl) rfl (fun κ C => ?_)
  refine s_aload_n C dX3_addHead_0 rfl ?_
  refine s_aload_n C dX3_addHead_1 rfl ?_
  refine s_geti (k := 8) (j := 8) C dX3_addHead_2 fl_X3_33 (by decide) rfl (by decide) rfl (rfl) (fun r2 => ?_)
  refine s_puti (k := 9) (j := 9) C dX3_addHead_5 fp_X3_37 (by decide) rfl rfl rfl (by omega) ?_
  refine s_aload_n C dX3_addHead_8 rfl ?_
  refine s_iload_n C dX3_addHead_9 rfl ?_
  refine s_iload_n C dX3_addHead_10 rfl ?_
  refine s_iconst C dX3_addHead_11 ?_
  refine s_callV3 C dX3_addHead_12 cy_X3_addPart cv_X3_addPart lk_X3_40 (ct_X3_addPart E _ h h 1 hh hh (by decide) (by rw [mput_nk (by decide)]; exact h8)) (by decide) (by decide) (by first | decide | (decide)) rfl (Nat.le_of_ble_eq_true rfl) (k_V (fun M12 q12 => ?_))
  exact s_return C dX3_addHead_15 (⟨rfl, q12⟩)

set_option maxRecDepth 20000 in
set_option maxHeartbeats 4000000 in
theorem ct_X3_unitOf (E : Ev) (M : Mm) (p : Int) (hp : rg p) (h8 : 0 ≤ M 58 8 ∧ M 58 8 ≤ 10) (hb : ∀ u, 0 ≤ u → u < M 58 8 → 0 ≤ M 60 u ∧ M 60 u ≤ 24 ∧ 0 ≤ M 61 u ∧ M 61 u ≤ 24) : Ct E yX3_unitOf cX3_unitOf 3 (some .int) 0 [zr E 58, zi p] M (pP M (fun z => UO M p z)) := by
  refine Ct.of (own := RX3) (lv0 := [some (zr E 58), some (zi p), none]) (by decide) rfl (Nat.le_of_ble_eq_true rfl) rfl (fun κ C => ?_)
  have L2 : ∀ (n9 : Nat) (u : Int) (hu : 0 ≤ u ∧ u ≤ M 58 8) (hno : ∀ v, 0 ≤ v → v < u → ¬ (M 60 v ≤ p ∧ p < M 60 v + M 61 v)) (hm : (M 58 8 - u).toNat < n9), Gm E κ (pP M (fun z => UO M p z)) 3 2 [some (zr E 58), some (zi p), some (zi u)] [] M := by
    intro n9
    induction n9 with
    | zero => intro u  hu hno hm; exact absurd hm (Nat.not_lt_zero _)
    | succ n9 ih2 =>
      intro u  hu hno hm
      have L39 : ∀  (hlt : u < M 58 8) (hn1 : ¬ (M 60 u ≤ p ∧ p < M 60 u + M 61 u)), Gm E κ (pP M (fun z => UO M p z)) 3 39 [some (zr E 58), some (zi p), some (zi u)] [] M := by
        intro   hlt hn1
        refine s_iinc (lv' := [_, _, _]) C dX3_unitOf_39 rfl (by decide) rfl rfl rfl ?_
        refine s_goto (tgt := 2) C dX3_unitOf_42 (by decide) ?_
        exact ih2 _  (by first | assumption | omega) (fun v h1 h2 => by
        by_cases c : v = u
        · rw [c]; exact hn1
        · exact hno v h1 (by omega)) (by omega)
      refine s_iload_n C dX3_unitOf_2 rfl ?_
      refine s_aload_n C dX3_unitOf_3 rfl ?_
      refine s_geti (k := 8) (j := 8) C dX3_unitOf_4 fl_X3_33 (by decide) rfl (by decide) rfl (rfl) (fun r4 => ?_)
      refine s_icmp_ge (tgt := 45) C dX3_unitOf_7 (by decide) (by omega) (by omega) (fun c7 => ?_) (fun c7 => ?_)
      · skip
        refine s_iconst C dX3_unitOf_45 ?_
        exact s_ireturn C dX3_unitOf_46 (⟨_, rfl, rfl, Or.inl ⟨rfl, fun v h1 h2 => hno v h1 (by omega)⟩⟩)
      · skip
        have hbu := hb u hu.1 (by omega)
        refine s_iload_n C dX3_unitOf_10 rfl ?_
        refine s_aload_n C dX3_unitOf_11 rfl ?_
        refine s_getr (k := 1) (b := 60) C dX3_unitOf_12 fl_X3_15 (by decide) rfl (by decide) rfl ?_
        refine s_iload_n C dX3_unitOf_15 rfl ?_
        refine s_iaload (n := 10) C dX3_unitOf_16 (by decide) rfl rfl (by omega) (by omega) (by omega) (rfl) (fun r16 => ?_)
        refine s_icmp_lt (tgt := 39) C dX3_unitOf_17 (by decide) (by omega) (by omega) (fun c17 => ?_) (fun c17 => ?_)
        · skip
          exact L39   (by first | assumption | omega) (by first | assumption | omega)
        · skip
          refine s_iload_n C dX3_unitOf_20 rfl ?_
          refine s_aload_n C dX3_unitOf_21 rfl ?_
          refine s_getr (k := 1) (b := 60) C dX3_unitOf_22 fl_X3_15 (by decide) rfl (by decide) rfl ?_
          refine s_iload_n C dX3_unitOf_25 rfl ?_
          refine s_iaload (n := 10) C dX3_unitOf_26 (by decide) rfl rfl (by omega) (by omega) (by omega) (rfl) (fun r26 => ?_)
          refine s_aload_n C dX3_unitOf_27 rfl ?_
          refine s_getr (k := 2) (b := 61) C dX3_unitOf_28 fl_X3_18 (by decide) rfl (by decide) rfl ?_
          refine s_iload_n C dX3_unitOf_31 rfl ?_
          refine s_iaload (n := 10) C dX3_unitOf_32 (by decide) rfl rfl (by omega) (by omega) (by omega) (rfl) (fun r32 => ?_)
          refine s_iadd C dX3_unitOf_33 ?_
          refine s_icmp_ge (tgt := 39) C dX3_unitOf_34 (by decide) (by omega) (by omega) (fun c34 => ?_) (fun c34 => ?_)
          · skip
            exact L39   (by first | assumption | omega) (by first | assumption | omega)
          · skip
            refine s_iload_n C dX3_unitOf_37 rfl ?_
            exact s_ireturn C dX3_unitOf_38 (⟨_, rfl, rfl, Or.inr ⟨hu.1, by omega, ⟨by omega, by omega⟩, hno⟩⟩)
  refine s_iconst C dX3_unitOf_0 ?_
  refine s_istore_n (lv' := [_, _, _]) C dX3_unitOf_1 (by decide) rfl rfl ?_
  exact L2 _ _  (by first | assumption | omega) (fun v h1 h2 => by omega) (Nat.lt_succ_self _)

set_option maxRecDepth 20000 in
set_option maxHeartbeats 4000000 in
theorem ct_X3_bind (E : Ev) (M : Mm) (a b : Int) (ha : rg a) (hb : rg b) (hO : OI M) : Ct E yX3_bind cX3_bind 5 none 1 [zr E 58, zi a, zi b] M (pV (fun M' => ∃ ua ub, UO M a ua ∧ UO M b ub ∧ ((0 ≤ ua ∧ 0 ≤ ub ∧ ua ≠ ub ∧ M' = mput M 62 ub (zor (M 62 ub) (zshl 1 ua))) ∨ (¬ (0 ≤ ua ∧ 0 ≤ ub ∧ ua ≠ ub) ∧ M' = M)))) := by
  refine Ct.of (own := RX3) (lv0 := [some (zr E 58), some (zi a), some (zi b), none, none]) (by decide) rfl (Nat.le_of_ble_eq_true rfl) rfl (fun κ C => ?_)
  have hbb : ∀ u, 0 ≤ u → u < M 58 8 → 0 ≤ M 60 u ∧ M 60 u ≤ 24 ∧ 0 ≤ M 61 u ∧ M 61 u ≤ 24 := fun u h1 h2 => by have := (hO.2.2 u h1 h2).1; omega
  have h810 : 0 ≤ M 58 8 ∧ M 58 8 ≤ 10 := by have := hO.1; omega
  refine s_aload_n C dX3_bind_0 rfl ?_
  refine s_iload_n C dX3_bind_1 rfl ?_
  refine s_callV1 C dX3_bind_2 cy_X3_unitOf cv_X3_unitOf lk_X3_44 (ct_X3_unitOf E M a ha h810 hbb) (by decide) (by decide) (by first | decide | (decide)) rfl (Nat.le_of_ble_eq_true rfl) (k_P (fun z2 q2 => ?_))
  refine s_istore_n (lv' := [_, _, _, _, _]) C dX3_bind_5 (by decide) rfl rfl ?_
  refine s_aload_n C dX3_bind_6 rfl ?_
  refine s_iload_n C dX3_bind_7 rfl ?_
  refine s_callV1 C dX3_bind_8 cy_X3_unitOf cv_X3_unitOf lk_X3_44 (ct_X3_unitOf E M b hb h810 hbb) (by decide) (by decide) (by first | decide | (decide)) rfl (Nat.le_of_ble_eq_true rfl) (k_P (fun z8 q8 => ?_))
  have y2 : -1 ≤ z2 ∧ z2 < 10 := by rcases q2 with ⟨h, _⟩ | ⟨h1, h2, _⟩ <;> omega
  have y8 : -1 ≤ z8 ∧ z8 < 10 := by rcases q8 with ⟨h, _⟩ | ⟨h1, h2, _⟩ <;> omega
  refine s_istore (lv' := [_, _, _, _, _]) C dX3_bind_11 (by decide) rfl rfl ?_
  refine s_iload_n C dX3_bind_13 rfl ?_
  refine s_if_lt (tgt := 41) C dX3_bind_14 (by decide) (by omega) (fun c14 => ?_) (fun c14 => ?_)
  · skip
    exact s_return C dX3_bind_41 (⟨rfl, ⟨z2, z8, q2, q8, by clear q2 q8; first | exact Or.inr ⟨fun q => by omega, rfl⟩ | exact Or.inl ⟨by omega, by omega, by omega, rfl⟩⟩⟩)
  · skip
    refine s_iload C dX3_bind_17 rfl ?_
    refine s_if_lt (tgt := 41) C dX3_bind_19 (by decide) (by omega) (fun c19 => ?_) (fun c19 => ?_)
    · skip
      exact s_return C dX3_bind_41 (⟨rfl, ⟨z2, z8, q2, q8, by clear q2 q8; first | exact Or.inr ⟨fun q => by omega, rfl⟩ | exact Or.inl ⟨by omega, by omega, by omega, rfl⟩⟩⟩)
    · skip
      refine s_iload_n C dX3_bind_22 rfl ?_
      refine s_iload C dX3_bind_23 rfl ?_
      refine s_icmp_eq (tgt := 41) C dX3_bind_25 (by decide) (by omega) (by omega) (fun c25 => ?_) (fun c25 => ?_)
      · skip
        exact s_return C dX3_bind_41 (⟨rfl, ⟨z2, z8, q2, q8, by clear q2 q8; first | exact Or.inr ⟨fun q => by omega, rfl⟩ | exact Or.inl ⟨by omega, by omega, by omega, rfl⟩⟩⟩)
      · skip
        refine s_aload_n C dX3_bind_28 rfl ?_
        refine s_getr (k := 3) (b := 62) C dX3_bind_29 fl_X3_21 (by decide) rfl (by decide) rfl ?_
        refine s_iload C dX3_bind_32 rfl ?_
        refine s_dup2 C dX3_bind_34 rfl rfl ?_
        refine s_iaload (n := 10) C dX3_bind_35 (by decide) rfl rfl (by omega) (by omega) (by omega) (rfl) (fun r35 => ?_)
        refine s_iconst C dX3_bind_36 ?_
        refine s_iload_n C dX3_bind_37 rfl ?_
        refine s_ishl C dX3_bind_38 ?_
        refine s_ior C dX3_bind_39 ?_
        refine s_iastore (n := 10) C dX3_bind_40 (by decide) rfl rfl (by omega) (by omega) (by omega) (rg_zor _ _) ?_
        exact s_return C dX3_bind_41 (⟨rfl, ⟨z2, z8, q2, q8, by clear q2 q8; first | exact Or.inr ⟨fun q => by omega, rfl⟩ | exact Or.inl ⟨by omega, by omega, by omega, rfl⟩⟩⟩)

set_option maxRecDepth 20000 in
set_option maxHeartbeats 4000000 in
theorem ct_X3_mayCome (E : Ev) (M : Mm) (u set : Int) (hO : OI M) (hu : 0 ≤ u ∧ u < M 58 8) (hs : 0 ≤ set ∧ set < 1024) : Ct E yX3_mayCome cX3_mayCome 3 (some .boolean) 0 [zr E 58, zi u, zi set] M (pP M (fun z => Bz z (oMay M u set))) := by
  refine Ct.of (own := RX3) (lv0 := [some (zr E 58), some (zi u), some (zi set)]) (by decide) rfl (Nat.le_of_ble_eq_true rfl) rfl (fun κ C => ?_)
  have h810 := hO.1
  have hbit := zbitS (x := set) (by omega) (k := u) (by omega)
  have ha := (hO.2.2 u hu.1 hu.2).2
  have hx := zxm (a := M 62 u) (s := set) (by omega) (by omega)
  refine s_iload_n C dX3_mayCome_0 rfl ?_
  refine s_iload_n C dX3_mayCome_1 rfl ?_
  refine s_ishr C dX3_mayCome_2 ?_
  refine s_iconst C dX3_mayCome_3 ?_
  refine s_iand C dX3_mayCome_4 ?_
  refine s_if_ne (tgt := 25) C dX3_mayCome_5 (by decide) (rg_zand _ _) (fun c5 => ?_) (fun c5 => ?_)
  · skip
    refine s_iconst C dX3_mayCome_25 ?_
    exact s_zreturn C dX3_mayCome_26 (by decide) (⟨_, rfl, rfl, by
      unfold oMay
      first
        | exact Bz.t ⟨by rcases hbit with ⟨_, g⟩ | ⟨g, _⟩; exact absurd (c5.symm.trans g) (by decide); exact g, hx.mp c18⟩
        | exact Bz.f (fun q => c18 (hx.mpr q.2))
        | exact Bz.f (fun q => by rcases hbit with ⟨g, _⟩ | ⟨_, g⟩; exact q.1 g; exact c5 g)⟩)
  · skip
    refine s_aload_n C dX3_mayCome_8 rfl ?_
    refine s_getr (k := 3) (b := 62) C dX3_mayCome_9 fl_X3_21 (by decide) rfl (by decide) rfl ?_
    refine s_iload_n C dX3_mayCome_12 rfl ?_
    refine s_iaload (n := 10) C dX3_mayCome_13 (by decide) rfl rfl (by omega) (by omega) (by omega) (rfl) (fun r13 => ?_)
    refine s_iload_n C dX3_mayCome_14 rfl ?_
    refine s_iconst C dX3_mayCome_15 ?_
    refine s_ixor C dX3_mayCome_16 ?_
    refine s_iand C dX3_mayCome_17 ?_
    refine s_if_ne (tgt := 25) C dX3_mayCome_18 (by decide) (rg_zand _ _) (fun c18 => ?_) (fun c18 => ?_)
    · skip
      refine s_iconst C dX3_mayCome_25 ?_
      exact s_zreturn C dX3_mayCome_26 (by decide) (⟨_, rfl, rfl, by
      unfold oMay
      first
        | exact Bz.t ⟨by rcases hbit with ⟨_, g⟩ | ⟨g, _⟩; exact absurd (c5.symm.trans g) (by decide); exact g, hx.mp c18⟩
        | exact Bz.f (fun q => c18 (hx.mpr q.2))
        | exact Bz.f (fun q => by rcases hbit with ⟨g, _⟩ | ⟨_, g⟩; exact q.1 g; exact c5 g)⟩)
    · skip
      refine s_iconst C dX3_mayCome_21 ?_
      refine s_goto (tgt := 26) C dX3_mayCome_22 (by decide) ?_
      exact s_zreturn C dX3_mayCome_26 (by decide) (⟨_, rfl, rfl, by
      unfold oMay
      first
        | exact Bz.t ⟨by rcases hbit with ⟨_, g⟩ | ⟨g, _⟩; exact absurd (c5.symm.trans g) (by decide); exact g, hx.mp c18⟩
        | exact Bz.f (fun q => c18 (hx.mpr q.2))
        | exact Bz.f (fun q => by rcases hbit with ⟨g, _⟩ | ⟨_, g⟩; exact q.1 g; exact c5 g)⟩)

set_option maxRecDepth 20000 in
set_option maxHeartbeats 4000000 in
theorem ct_X3_stepCost (E : Ev) (M : Mm) (u set : Int) (hO : OI M) (hu : 0 ≤ u ∧ u < M 58 8) (hs : 0 ≤ set ∧ set < 1024) : Ct E yX3_stepCost cX3_stepCost 5 (some .int) 1 [zr E 58, zi u, zi set] M (pP M (fun z => z = oStep M u set)) := by
  refine Ct.of (own := RX3) (lv0 := [some (zr E 58), some (zi u), some (zi set), none, none]) (by decide) rfl (Nat.le_of_ble_eq_true rfl) rfl (fun κ C => ?_)
  have h810 := hO.1
  have h9 := hO.2.1
  have ha := (hO.2.2 u hu.1 hu.2).1
  have hbit := zbitS (x := set) (by omega) (k := M 58 9) (by omega)
  refine s_iload_n C dX3_stepCost_0 rfl ?_
  refine s_aload_n C dX3_stepCost_1 rfl ?_
  refine s_geti (k := 9) (j := 9) C dX3_stepCost_2 fl_X3_37 (by decide) rfl (by decide) rfl (rfl) (fun r2 => ?_)
  refine s_icmp_ne (tgt := 10) C dX3_stepCost_5 (by decide) (by omega) (by omega) (fun c5 => ?_) (fun c5 => ?_)
  · skip
    refine s_iload_n C dX3_stepCost_10 rfl ?_
    refine s_callS1 C dX3_stepCost_11 cy_J6_bitCount_0f7a4 cs_J6_bitCount_0f7a4 lk_X3_68 (ct_J6_bitCount_0f7a4 E M set hs) (by decide) (Nat.le_of_ble_eq_true rfl) (k_P (fun z11 q11 => ?_))
    subst q11
    refine s_istore_n (lv' := [_, _, _, _, _]) C dX3_stepCost_14 (by decide) rfl rfl ?_
    refine s_aload_n C dX3_stepCost_15 rfl ?_
    refine s_getr (k := 0) (b := 59) C dX3_stepCost_16 fl_X3_9 (by decide) rfl (by decide) rfl ?_
    refine s_iload_n C dX3_stepCost_19 rfl ?_
    refine s_iaload (n := 10) C dX3_stepCost_20 (by decide) rfl rfl (by omega) (by omega) (by omega) (rfl) (fun r20 => ?_)
    refine s_aload_n C dX3_stepCost_21 rfl ?_
    refine s_getr (k := 1) (b := 60) C dX3_stepCost_22 fl_X3_15 (by decide) rfl (by decide) rfl ?_
    refine s_iload_n C dX3_stepCost_25 rfl ?_
    refine s_iaload (n := 10) C dX3_stepCost_26 (by decide) rfl rfl (by omega) (by omega) (by omega) (rfl) (fun r26 => ?_)
    refine s_isub C dX3_stepCost_27 ?_
    refine s_istore (lv' := [_, _, _, _, _]) C dX3_stepCost_28 (by decide) rfl rfl ?_
    refine s_iload_n C dX3_stepCost_30 rfl ?_
    refine s_aload_n C dX3_stepCost_31 rfl ?_
    refine s_geti (k := 9) (j := 9) C dX3_stepCost_32 fl_X3_37 (by decide) rfl (by decide) rfl (rfl) (fun r32 => ?_)
    refine s_ishr C dX3_stepCost_35 ?_
    refine s_iconst C dX3_stepCost_36 ?_
    refine s_iand C dX3_stepCost_37 ?_
    refine s_if_ne (tgt := 60) C dX3_stepCost_38 (by decide) (rg_zand _ _) (fun c38 => ?_) (fun c38 => ?_)
    · skip
      refine s_iload C dX3_stepCost_60 rfl ?_
      refine s_iconst C dX3_stepCost_62 ?_
      refine s_iadd C dX3_stepCost_63 ?_
      refine s_aload_n C dX3_stepCost_64 rfl ?_
      refine s_getr (k := 2) (b := 61) C dX3_stepCost_65 fl_X3_18 (by decide) rfl (by decide) rfl ?_
      refine s_iload_n C dX3_stepCost_68 rfl ?_
      refine s_iaload (n := 10) C dX3_stepCost_69 (by decide) rfl rfl (by omega) (by omega) (by omega) (rfl) (fun r69 => ?_)
      refine s_aload_n C dX3_stepCost_70 rfl ?_
      refine s_geti (k := 8) (j := 8) C dX3_stepCost_71 fl_X3_33 (by decide) rfl (by decide) rfl (rfl) (fun r71 => ?_)
      refine s_iload_n C dX3_stepCost_74 rfl ?_
      refine s_isub C dX3_stepCost_75 ?_
      refine s_iconst C dX3_stepCost_76 ?_
      refine s_isub C dX3_stepCost_77 ?_
      refine s_imul C dX3_stepCost_78 ?_
      refine s_iadd C dX3_stepCost_79 ?_
      exact s_ireturn C dX3_stepCost_80 (⟨_, rfl, rfl, by unfold oStep; rw [if_neg c5, if_pos (by rcases hbit with ⟨g, _⟩ | ⟨_, g⟩; exact g; exact absurd g c38)]⟩)
    · skip
      refine s_aload_n C dX3_stepCost_41 rfl ?_
      refine s_getr (k := 2) (b := 61) C dX3_stepCost_42 fl_X3_18 (by decide) rfl (by decide) rfl ?_
      refine s_iload_n C dX3_stepCost_45 rfl ?_
      refine s_iaload (n := 10) C dX3_stepCost_46 (by decide) rfl rfl (by omega) (by omega) (by omega) (rfl) (fun r46 => ?_)
      refine s_iload C dX3_stepCost_47 rfl ?_
      refine s_isub C dX3_stepCost_49 ?_
      refine s_aload_n C dX3_stepCost_50 rfl ?_
      refine s_getr (k := 2) (b := 61) C dX3_stepCost_51 fl_X3_18 (by decide) rfl (by decide) rfl ?_
      refine s_iload_n C dX3_stepCost_54 rfl ?_
      refine s_iaload (n := 10) C dX3_stepCost_55 (by decide) rfl rfl (by omega) (by omega) (by omega) (rfl) (fun r55 => ?_)
      refine s_iload_n C dX3_stepCost_56 rfl ?_
      refine s_imul C dX3_stepCost_57 ?_
      refine s_iadd C dX3_stepCost_58 ?_
      exact s_ireturn C dX3_stepCost_59 (⟨_, rfl, rfl, by unfold oStep; rw [if_neg c5, if_neg (by rcases hbit with ⟨_, g⟩ | ⟨g, _⟩; exact absurd (c38.symm.trans g) (by decide); exact g)]⟩)
  · skip
    refine s_iconst C dX3_stepCost_8 ?_
    exact s_ireturn C dX3_stepCost_9 (⟨_, rfl, rfl, by unfold oStep; rw [if_pos c5]⟩)

set_option maxRecDepth 20000 in
set_option maxHeartbeats 4000000 in
theorem ct_X3_costWith (E : Ev) (M : Mm) (u set : Int) (hO : OI M) (hu : 0 ≤ u ∧ u < M 58 8) (hs : 0 ≤ set ∧ set < ((2 ^ (M 58 8).toNat : Nat) : Int)) (h6 : -1000000 ≤ M 63 (zor set (zshl 1 u)) ∧ M 63 (zor set (zshl 1 u)) ≤ 1000000000) : Ct E yX3_costWith cX3_costWith 3 (some .int) 2 [zr E 58, zi u, zi set] M (pP M (fun z => z = oCst M u set)) := by
  refine Ct.of (own := RX3) (lv0 := [some (zr E 58), some (zi u), some (zi set)]) (by decide) rfl (Nat.le_of_ble_eq_true rfl) rfl (fun κ C => ?_)
  have h810 := hO.1
  have hp : (2 : Nat) ^ (M 58 8).toNat ≤ 2 ^ 10 := Nat.pow_le_pow_right (by decide) (by omega)
  have hz := zor_lt (x := set) (u := u) (n := M 58 8) (by omega) hs hu
  generalize (2 : Nat) ^ (M 58 8).toNat = Q at *
  have h7 := oStep_rg hO (set := set) hu
  refine s_ldc C dX3_costWith_0 kc_X3_48 ?_
  refine s_aload_n C dX3_costWith_2 rfl ?_
  refine s_iload_n C dX3_costWith_3 rfl ?_
  refine s_iload_n C dX3_costWith_4 rfl ?_
  refine s_callV2 C dX3_costWith_5 cy_X3_stepCost cv_X3_stepCost lk_X3_65 (ct_X3_stepCost E M u set hO hu (by omega)) (by decide) (by decide) (by first | decide | (decide)) rfl (Nat.le_of_ble_eq_true rfl) (k_P (fun z5 q5 => ?_))
  subst q5
  refine s_aload_n C dX3_costWith_8 rfl ?_
  refine s_getr (k := 4) (b := 63) C dX3_costWith_9 fl_X3_24 (by decide) rfl (by decide) rfl ?_
  refine s_iload_n C dX3_costWith_12 rfl ?_
  refine s_iconst C dX3_costWith_13 ?_
  refine s_iload_n C dX3_costWith_14 rfl ?_
  refine s_ishl C dX3_costWith_15 ?_
  refine s_ior C dX3_costWith_16 ?_
  refine s_iaload (n := 1024) C dX3_costWith_17 (by decide) rfl rfl (by omega) (by omega) (by omega) (rfl) (fun r17 => ?_)
  refine s_iadd C dX3_costWith_18 ?_
  refine s_min C dX3_costWith_19 lm_X3_57 js_min ji_Math jc_min (by decide) (Nat.le_of_ble_eq_true rfl) (by omega) (by omega) ?_
  exact s_ireturn C dX3_costWith_22 (⟨_, rfl, rfl, by unfold oCst; omega⟩)

set_option maxRecDepth 20000 in
set_option maxHeartbeats 4000000 in
theorem ct_X3_leastCost (E : Ev) (M : Mm) : Ct E yX3_leastCost cX3_leastCost 1 (some .int) 0 [zr E 58] M (pP M (fun z => z = M 63 0)) := by
  refine Ct.of (own := RX3) (lv0 := [some (zr E 58)]) (by decide) rfl (Nat.le_of_ble_eq_true rfl) rfl (fun κ C => ?_)
  refine s_aload_n C dX3_leastCost_0 rfl ?_
  refine s_getr (k := 4) (b := 63) C dX3_leastCost_1 fl_X3_24 (by decide) rfl (by decide) rfl ?_
  refine s_iconst C dX3_leastCost_4 ?_
  refine s_iaload (n := 1024) C dX3_leastCost_5 (by decide) rfl rfl (by omega) (by omega) (by omega) (rfl) (fun r5 => ?_)
  exact s_ireturn C dX3_leastCost_6 (⟨_, rfl, rfl, rfl⟩)

set_option maxRecDepth 20000 in
set_option maxHeartbeats 4000000 in
theorem ct_X3_keepRow (E : Ev) (M : Mm) (hO : OI M) (hr : ∀ k, 0 ≤ k → k < M 58 8 → 0 ≤ M 64 k ∧ M 64 k < M 58 8) : Ct E yX3_keepRow cX3_keepRow 2 none 0 [zr E 58] M (pV (fun M' => Sm M M' [58, 65] ∧ M' 58 7 = M 58 8 ∧ M' 58 8 = M 58 8 ∧ M' 58 9 = M 58 9 ∧ ∀ k, 0 ≤ k → k < M 58 8 → M' 65 k = M 59 (M 64 k))) := by
  refine Ct.of (own := RX3) (lv0 := [some (zr E 58), none]) (by decide) rfl (Nat.le_of_ble_eq_true rfl) rfl (fun κ C => ?_)
  have h810 := hO.1
  have L2 : ∀ (n9 : Nat) (A : Mm) (k : Int) (hk : 0 ≤ k ∧ k ≤ M 58 8) (hSm : Sm M A [65]) (hv : ∀ j, 0 ≤ j → j < k → A 65 j = M 59 (M 64 j)) (hm : (M 58 8 - k).toNat < n9), Gm E κ (pV (fun M' => Sm M M' [58, 65] ∧ M' 58 7 = M 58 8 ∧ M' 58 8 = M 58 8 ∧ M' 58 9 = M 58 9 ∧ ∀ k, 0 ≤ k → k < M 58 8 → M' 65 k = M 59 (M 64 k))) 2 2 [some (zr E 58), some (zi k)] [] A := by
    intro n9
    induction n9 with
    | zero => intro A k  hk hSm hv hm; exact absurd hm (Nat.not_lt_zero _)
    | succ n9 ih2 =>
      intro A k  hk hSm hv hm
      have e58 : A 58 = M 58 := hSm 58 (by decide)
      have e59 : A 59 = M 59 := hSm 59 (by decide)
      have e64 : A 64 = M 64 := hSm 64 (by decide)
      refine s_iload_n C dX3_keepRow_2 rfl ?_
      refine s_aload_n C dX3_keepRow_3 rfl ?_
      refine s_geti (k := 8) (j := 8) (z := M 58 8) C dX3_keepRow_4 fl_X3_33 (by decide) rfl (by decide) rfl (by rw [e58]) (fun r4 => ?_)
      refine s_icmp_ge (tgt := 33) C dX3_keepRow_7 (by decide) (by omega) (by omega) (fun c7 => ?_) (fun c7 => ?_)
      · skip
        refine s_aload_n C dX3_keepRow_33 rfl ?_
        refine s_aload_n C dX3_keepRow_34 rfl ?_
        refine s_geti (k := 8) (j := 8) (z := M 58 8) C dX3_keepRow_35 fl_X3_33 (by decide) rfl (by decide) rfl (by rw [e58]) (fun r35 => ?_)
        refine s_puti (k := 7) (j := 7) C dX3_keepRow_38 fp_X3_73 (by decide) rfl rfl rfl (by omega) ?_
        exact s_return C dX3_keepRow_41 (⟨rfl, ⟨fun a ha => by rw [mput_ne (fun q => ha (by rw [q]; decide))]; exact hSm a (fun q => ha (List.mem_cons_of_mem _ q)), mput_eq, by rw [mput_nk (by decide), e58], by rw [mput_nk (by decide), e58], fun j h1 h2 => by rw [mput_ne (by decide)]; exact hv j h1 (by omega)⟩⟩)
      · skip
        refine s_aload_n C dX3_keepRow_10 rfl ?_
        refine s_getr (k := 6) (b := 65) C dX3_keepRow_11 fl_X3_30 (by decide) rfl (by decide) rfl ?_
        refine s_iload_n C dX3_keepRow_14 rfl ?_
        refine s_aload_n C dX3_keepRow_15 rfl ?_
        refine s_getr (k := 0) (b := 59) C dX3_keepRow_16 fl_X3_9 (by decide) rfl (by decide) rfl ?_
        refine s_aload_n C dX3_keepRow_19 rfl ?_
        refine s_getr (k := 5) (b := 64) C dX3_keepRow_20 fl_X3_27 (by decide) rfl (by decide) rfl ?_
        refine s_iload_n C dX3_keepRow_23 rfl ?_
        refine s_iaload (n := 10) (z := M 64 k) C dX3_keepRow_24 (by decide) rfl rfl (by omega) (by omega) (by omega) (by rw [e64]) (fun r24 => ?_)
        have hrk := hr k hk.1 (by omega)
        refine s_iaload (n := 10) (z := M 59 (M 64 k)) C dX3_keepRow_25 (by decide) rfl rfl (by omega) (by omega) (by omega) (by rw [e59]) (fun r25 => ?_)
        refine s_iastore (n := 10) C dX3_keepRow_26 (by decide) rfl rfl (by omega) (by omega) (by omega) (by omega) ?_
        refine s_iinc (lv' := [_, _]) C dX3_keepRow_27 rfl (by decide) rfl rfl rfl ?_
        refine s_goto (tgt := 2) C dX3_keepRow_30 (by decide) ?_
        exact ih2 _ _  (by first | assumption | omega) (hSm.put (by decide)) (fun j h1 h2 => by
        rw [mput_at]
        by_cases c : j = k
        · rw [if_pos c, c]
        · rw [if_neg c]; exact hv j h1 (by omega)) (by omega)
  refine s_iconst C dX3_keepRow_0 ?_
  refine s_istore_n (lv' := [_, _]) C dX3_keepRow_1 (by decide) rfl rfl ?_
  exact L2 _ _ _  (by first | assumption | omega) (Sm.rf M _) (fun j h1 h2 => by omega) (Nat.lt_succ_self _)
