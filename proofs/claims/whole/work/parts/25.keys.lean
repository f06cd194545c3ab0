theorem div_zi {x y : Int} (hx : 0 ≤ x ∧ x < 2147483648) (hy : 0 < y ∧ y < 2147483648) : Int32.ofInt x / Int32.ofInt y = Int32.ofInt (x / y) := by
  have h1 : 0 ≤ x / y := Int.ediv_nonneg hx.1 (by omega)
  have h2 : x / y ≤ x := Int.ediv_le_self _ hx.1
  rw [← Int32.toInt_inj, Int32.toInt_div, toInt_zi (by omega), toInt_zi (by omega), toInt_zi (by omega), Int.tdiv_eq_ediv_of_nonneg hx.1]
  exact Int.bmod_eq_of_le (by omega) (by omega)
theorem zdiv_n {x y : Int} (hx : 0 ≤ x ∧ x < 2147483648) (hy : 0 < y ∧ y < 2147483648) : zdiv x y = x / y := by
  have h1 : 0 ≤ x / y := Int.ediv_nonneg hx.1 (by omega)
  have h2 : x / y ≤ x := Int.ediv_le_self _ hx.1
  unfold zdiv
  rw [div_zi hx hy, toInt_zi (by omega)]
theorem zrem_n {x y : Int} (hx : 0 ≤ x ∧ x < 2147483648) (hy : 0 < y ∧ y < 2147483648) : zrem x y = x % y := by
  have h1 : 0 ≤ x % y := Int.emod_nonneg _ (by omega)
  have h2 : x % y < y := Int.emod_lt_of_pos _ hy.1
  unfold zrem
  rw [div_zi hx hy, ← Int32.ofInt_mul, ← Int32.ofInt_sub]
  have e : x - x / y * y = x % y := by
    have := Int.emod_add_mul_ediv x y
    rw [Int.mul_comm] at this
    omega
  rw [e, toInt_zi (by omega)]
/-- two words of the same letters -/
def sW (f : Int → Int) (a b n : Int) : Prop := ∀ p, 0 ≤ p → p < n → f (a + p) = f (b + p)
theorem sW.symm {f : Int → Int} {a b n : Int} (h : sW f a b n) : sW f b a n := fun p h1 h2 => (h p h1 h2).symm
theorem sW.trans {f : Int → Int} {a b c n : Int} (h : sW f a b n) (h' : sW f b c n) : sW f a c n := fun p h1 h2 => (h p h1 h2).trans (h' p h1 h2)
def hF (f : Int → Int) (s : Int) : Nat → Int
  | 0 => 0
  | p + 1 => hF f s p * 31 + f (s + (p : Int))
def hB (f : Int → Int) (s n : Int) : Int := zand (zxor (hF f s n.toNat) (zushr (hF f s n.toNat) 8)) 255
theorem hF_same {f : Int → Int} {a b n : Int} (h : sW f a b n) : ∀ p : Nat, (p : Int) ≤ n → hF f a p = hF f b p := by
  intro p
  induction p with
  | zero => intro _; rfl
  | succ p ih => intro hp; rw [hF, hF, ih (by omega), h (p : Int) (by omega) (by omega)]
theorem hB_same {f : Int → Int} {a b n : Int} (hn : 0 ≤ n) (h : sW f a b n) : hB f a n = hB f b n := by
  unfold hB
  rw [hF_same h n.toNat (by omega)]
theorem hB_rg (f : Int → Int) (s n : Int) : 0 ≤ hB f s n ∧ hB f s n ≤ 255 := zand_le (by omega)
/-- k can be come to from j by the next ones -/
def Rk (nx : Int → Int) (j k : Int) : Prop := ∀ S : Int → Prop, S j → (∀ x, S x → 0 ≤ x → S (nx x)) → S k
theorem Rk.rf (nx : Int → Int) (j : Int) : Rk nx j j := fun _ h _ => h
theorem Rk.step {nx : Int → Int} {j k : Int} (h : Rk nx j k) (hk : 0 ≤ k) : Rk nx j (nx k) := fun S a b => b k (h S a b) hk
theorem Rk.cs {nx : Int → Int} {j k : Int} (h : Rk nx j k) : k = j ∨ (0 ≤ j ∧ Rk nx (nx j) k) := by
  refine h (fun x => x = j ∨ (0 ≤ j ∧ Rk nx (nx j) x)) (Or.inl rfl) ?_
  rintro x (rfl | ⟨h1, h2⟩) hx
  · exact Or.inr ⟨hx, Rk.rf _ _⟩
  · exact Or.inr ⟨h1, h2.step hx⟩
/-- key k is the word of n letters from s on -/
def isK (M : Mm) (a : Nat) (k s n : Int) : Prop := M 37 k = n ∧ sW (M a) (M 36 k) s n
/-- the table of keys is in order; its words stand in the letters a -/
def KT (M : Mm) (a : Nat) : Prop := (0 ≤ M 31 8 ∧ M 31 8 ≤ 960) ∧ (∀ k, 0 ≤ k → k < M 31 8 → 0 ≤ M 36 k ∧ 0 ≤ M 37 k ∧ M 36 k + M 37 k ≤ 3000) ∧ (∀ k, 0 ≤ k → k < M 31 8 → -1 ≤ M 38 k ∧ M 38 k < k) ∧ (∀ b, 0 ≤ b → b < 256 → -1 ≤ M 39 b ∧ M 39 b < M 31 8) ∧
  (∀ k, 0 ≤ k → k < M 31 8 → Rk (M 38) (M 39 (hB (M a) (M 36 k) (M 37 k))) k) ∧ ∀ j k, 0 ≤ j → j < k → k < M 31 8 → ¬ isK M a j (M 36 k) (M 37 k)
def kAdd (M : Mm) (s n b : Int) : Mm := mput (mput (mput (mput (mput M 36 (M 31 8) s) 37 (M 31 8) n) 38 (M 31 8) (M 39 b)) 39 b (M 31 8)) 31 8 (M 31 8 + 1)
theorem kAdd_sm (M : Mm) (s n b : Int) : Sm M (kAdd M s n b) [31, 36, 37, 38, 39] := by
  unfold kAdd
  exact (((((Sm.rf M _).put (by decide)).put (by decide)).put (by decide)).put (by decide)).put (by decide)
theorem kAdd_v (M : Mm) (s n b k : Int) : kAdd M s n b 36 k = (if k = M 31 8 then s else M 36 k) ∧ kAdd M s n b 37 k = (if k = M 31 8 then n else M 37 k) ∧ kAdd M s n b 38 k = (if k = M 31 8 then M 39 b else M 38 k) ∧ kAdd M s n b 39 k = (if k = b then M 31 8 else M 39 k) ∧ kAdd M s n b 31 8 = M 31 8 + 1 := by
  unfold kAdd
  simp (disch := decide) only [mput_ne, mput_at]
  exact ⟨trivial, trivial, trivial, trivial, rfl⟩
theorem KT_add {M : Mm} {a : Nat} (ha : a = 18 ∨ a = 25) (h : KT M a) {s n : Int} (hT : M 31 8 < 960) (hs : 0 ≤ s ∧ 0 ≤ n ∧ s + n ≤ 3000) (hno : ∀ k, 0 ≤ k → k < M 31 8 → ¬ isK M a k s n) : KT (kAdd M s n (hB (M a) s n)) a := by
  obtain ⟨k1, k2, k3, k4, k5, k6⟩ := h
  have ea : kAdd M s n (hB (M a) s n) a = M a := kAdd_sm M s n _ a (by rcases ha with rfl | rfl <;> decide)
  have v := kAdd_v M s n (hB (M a) s n)
  have hbr := hB_rg (M a) s n
  have e36 : ∀ k, k < M 31 8 → kAdd M s n (hB (M a) s n) 36 k = M 36 k := fun k hk => by rw [(v k).1, if_neg (by omega)]
  have e37 : ∀ k, k < M 31 8 → kAdd M s n (hB (M a) s n) 37 k = M 37 k := fun k hk => by rw [(v k).2.1, if_neg (by omega)]
  have e38 : ∀ k, k < M 31 8 → kAdd M s n (hB (M a) s n) 38 k = M 38 k := fun k hk => by rw [(v k).2.2.1, if_neg (by omega)]
  have t36 : kAdd M s n (hB (M a) s n) 36 (M 31 8) = s := by rw [(v _).1, if_pos rfl]
  have t37 : kAdd M s n (hB (M a) s n) 37 (M 31 8) = n := by rw [(v _).2.1, if_pos rfl]
  have t38 : kAdd M s n (hB (M a) s n) 38 (M 31 8) = M 39 (hB (M a) s n) := by rw [(v _).2.2.1, if_pos rfl]
  have e31 := (v 0).2.2.2.2
  -- what was come to before is come to still
  have old : ∀ j k, j < M 31 8 → Rk (M 38) j k → Rk (kAdd M s n (hB (M a) s n) 38) j k := by
    intro j k hj hr
    have := hr (fun x => x < M 31 8 ∧ Rk (kAdd M s n (hB (M a) s n) 38) j x) ⟨hj, Rk.rf _ _⟩ (fun x ⟨x1, x2⟩ x0 => by
      have hx := k3 x x0 x1
      refine ⟨by omega, ?_⟩
      rw [← e38 x x1]
      exact x2.step x0)
    exact this.2
  refine ⟨by rw [e31]; omega, fun k h0 h1 => ?_, fun k h0 h1 => ?_, fun b h0 h1 => ?_, fun k h0 h1 => ?_, fun j k h0 h1 h2 => ?_⟩
  · rw [e31] at h1
    by_cases c : k = M 31 8
    · rw [c, t36, t37]; omega
    · rw [e36 k (by omega), e37 k (by omega)]; exact k2 k h0 (by omega)
  · rw [e31] at h1
    by_cases c : k = M 31 8
    · rw [c, t38]; have := k4 (hB (M a) s n) (by omega) (by omega); omega
    · rw [e38 k (by omega)]; exact k3 k h0 (by omega)
  · rw [(v b).2.2.2.1, e31]
    split
    · omega
    · have := k4 b h0 h1; omega
  · rw [e31] at h1
    rw [ea]
    by_cases c : k = M 31 8
    · rw [c, t36, t37, (v _).2.2.2.1, if_pos rfl]
      exact Rk.rf _ _
    · rw [e36 k (by omega), e37 k (by omega), (v _).2.2.2.1]
      have hk := k5 k h0 (by omega)
      have hb2 := hB_rg (M a) (M 36 k) (M 37 k)
      have hbk := k4 (hB (M a) (M 36 k) (M 37 k)) (by omega) (by omega)
      split
      · next q =>
        rw [q] at hk hbk
        have h7 := old _ _ hbk.2 hk
        intro S hS hc
        refine h7 S ?_ hc
        have := hc (M 31 8) hS k1.1
        rwa [t38] at this
      · exact old _ _ hbk.2 hk
  · rw [e31] at h2
    unfold isK
    rw [ea]
    by_cases c : k = M 31 8
    · rw [c, t36, t37, e36 j (by omega), e37 j (by omega)]
      exact hno j h0 (by omega)
    · rw [e36 j (by omega), e37 j (by omega), e36 k (by omega), e37 k (by omega)]
      exact k6 j k h0 h1 (by omega)

set_option maxRecDepth 20000 in
set_option maxHeartbeats 4000000 in
theorem ct_X2_longsUsed (E : Ev) (M : Mm) (h8 : 0 ≤ M 31 8 ∧ M 31 8 ≤ 960) : Ct E yX2_longsUsed cX2_longsUsed 1 (some .int) 0 [zr E 31] M (pP M (fun z => z = (M 31 8 + 63) / 64)) := by
  refine Ct.of (own := RX2) (lv0 := [some (zr E 31)]) (by decide) rfl (Nat.le_of_ble_eq_true rfl) rfl (fun κ C => ?_)
  refine s_aload_n C dX2_longsUsed_0 rfl ?_
  refine s_geti (k := 8) (j := 8) C dX2_longsUsed_1 fl_X2_37 (by decide) rfl (by decide) rfl (rfl) (fun r1 => ?_)
  refine s_bipush C dX2_longsUsed_4 (by decide) ?_
  refine s_iadd C dX2_longsUsed_6 ?_
  refine s_bipush C dX2_longsUsed_7 (by decide) ?_
  refine s_idiv C dX2_longsUsed_9 (by decide) ?_
  exact s_ireturn C dX2_longsUsed_10 (⟨_, rfl, rfl, zdiv_n (by omega) (by omega)⟩)

set_option maxRecDepth 20000 in
set_option maxHeartbeats 4000000 in
theorem ct_X2_isSame (E : Ev) (a : Nat) (ha : a = 18 ∨ a = 25) (M : Mm) (x y n : Int) (hx : 0 ≤ x ∧ x + n ≤ 3000) (hy : 0 ≤ y ∧ y + n ≤ 3000) (hn : 0 ≤ n) : Ct E yX2_isSame cX2_isSame 5 (some .boolean) 0 [zr E a, zi x, zi y, zi n] M (pP M (fun z => Bz z (sW (M a) x y n))) := by
  refine Ct.of (own := RX2) (lv0 := [some (zr E a), some (zi x), some (zi y), some (zi n), none]) (by decide) rfl (Nat.le_of_ble_eq_true rfl) rfl (fun κ C => ?_)
  have hla : ln a = 3000 := by rcases ha with rfl | rfl <;> decide
  have L3 : ∀ (n9 : Nat) (p : Int) (hp : 0 ≤ p ∧ p ≤ n) (hs : ∀ q, 0 ≤ q → q < p → M a (x + q) = M a (y + q)) (hm : (n - p).toNat < n9), Gm E κ (pP M (fun z => Bz z (sW (M a) x y n))) 5 3 [some (zr E a), some (zi x), some (zi y), some (zi n), some (zi p)] [] M := by
    intro n9
    induction n9 with
    | zero => intro p  hp hs hm; exact absurd hm (Nat.not_lt_zero _)
    | succ n9 ih3 =>
      intro p  hp hs hm
      refine s_iload C dX2_isSame_3 rfl ?_
      refine s_iload_n C dX2_isSame_5 rfl ?_
      refine s_icmp_ge (tgt := 32) C dX2_isSame_6 (by decide) (by omega) (by omega) (fun c6 => ?_) (fun c6 => ?_)
      · skip
        refine s_iconst C dX2_isSame_32 ?_
        exact s_zreturn C dX2_isSame_33 (by decide) (⟨_, rfl, rfl, Bz.t (fun q h1 h2 => hs q h1 (by omega))⟩)
      · skip
        refine s_aload_n C dX2_isSame_9 rfl ?_
        refine s_iload_n C dX2_isSame_10 rfl ?_
        refine s_iload C dX2_isSame_11 rfl ?_
        refine s_iadd C dX2_isSame_13 ?_
        refine s_iaload C dX2_isSame_14 (by rcases ha with rfl | rfl <;> decide) (by rcases ha with rfl | rfl <;> decide) rfl (by omega) (by omega) (by omega) (rfl) (fun r14 => ?_)
        refine s_aload_n C dX2_isSame_15 rfl ?_
        refine s_iload_n C dX2_isSame_16 rfl ?_
        refine s_iload C dX2_isSame_17 rfl ?_
        refine s_iadd C dX2_isSame_19 ?_
        refine s_iaload C dX2_isSame_20 (by rcases ha with rfl | rfl <;> decide) (by rcases ha with rfl | rfl <;> decide) rfl (by omega) (by omega) (by omega) (rfl) (fun r20 => ?_)
        refine s_icmp_eq (tgt := 26) C dX2_isSame_21 (by decide) (by omega) (by omega) (fun c21 => ?_) (fun c21 => ?_)
        · skip
          refine s_iinc (lv' := [_, _, _, _, _]) C dX2_isSame_26 rfl (by decide) rfl rfl rfl ?_
          refine s_goto (tgt := 3) C dX2_isSame_29 (by decide) ?_
          exact ih3 _  (by first | assumption | omega) (fun q h1 h2 => by
        by_cases c : q = p
        · rw [c]; exact c21
        · exact hs q h1 (by omega)) (by omega)
        · skip
          refine s_iconst C dX2_isSame_24 ?_
          exact s_zreturn C dX2_isSame_25 (by decide) (⟨_, rfl, rfl, Bz.f (fun q => c21 (q p hp.1 (by omega)))⟩)
  refine s_iconst C dX2_isSame_0 ?_
  refine s_istore (lv' := [_, _, _, _, _]) C dX2_isSame_1 (by decide) rfl rfl ?_
  exact L3 _ _  (by first | assumption | omega) (fun q h1 h2 => by omega) (Nat.lt_succ_self _)

set_option maxRecDepth 20000 in
set_option maxHeartbeats 4000000 in
theorem ct_X2_addKey (E : Ev) (M : Mm) (s n b : Int) (hs : rg s) (hn : rg n) (hb : 0 ≤ b ∧ b < 256) (hT : 0 ≤ M 31 8 ∧ M 31 8 < 960) : Ct E yX2_addKey cX2_addKey 4 (some .int) 0 [zr E 31, zi s, zi n, zi b] M (pI (fun z M' => z = M 31 8 ∧ M' = kAdd M s n b)) := by
  refine Ct.of (own := RX2) (lv0 := [some (zr E 31), some (zi s), some (zi n), some (zi b)]) (by decide) rfl (Nat.le_of_ble_eq_true rfl) rfl (fun κ C => ?_)
  refine s_aload_n C dX2_addKey_0 rfl ?_
  refine s_geti (k := 8) (j := 8) C dX2_addKey_1 fl_X2_37 (by decide) rfl (by decide) rfl (rfl) (fun r1 => ?_)
  refine s_sipush C dX2_addKey_4 (by decide) ?_
  refine s_icmp_lt (tgt := 12) C dX2_addKey_7 (by decide) (by omega) (by omega) (fun c7 => ?_) (fun c7 => ?_)
  · skip
    refine s_aload_n C dX2_addKey_12 rfl ?_
    refine s_getr (k := 4) (b := 36) C dX2_addKey_13 fl_X2_25 (by decide) rfl (by decide) rfl ?_
    refine s_aload_n C dX2_addKey_16 rfl ?_
    refine s_geti (k := 8) (j := 8) C dX2_addKey_17 fl_X2_37 (by decide) rfl (by decide) rfl (rfl) (fun r17 => ?_)
    refine s_iload_n C dX2_addKey_20 rfl ?_
    refine s_iastore (n := 960) C dX2_addKey_21 (by decide) rfl rfl (by omega) (by omega) (by omega) (by omega) ?_
    refine s_aload_n C dX2_addKey_22 rfl ?_
    refine s_getr (k := 5) (b := 37) C dX2_addKey_23 fl_X2_28 (by decide) rfl (by decide) rfl ?_
    refine s_aload_n C dX2_addKey_26 rfl ?_
    refine s_geti (k := 8) (j := 8) C dX2_addKey_27 fl_X2_37 (by decide) rfl (by decide) rfl (by first | (simp (disch := omega) only [mput_ne, mput_nk, mput_eq, mcopy_ne]; done) | (simp (disch := omega) only [mput_ne, mput_nk, mput_eq, mcopy_ne]; rfl) | rfl) (fun r27 => ?_)
    refine s_iload_n C dX2_addKey_30 rfl ?_
    refine s_iastore (n := 960) C dX2_addKey_31 (by decide) rfl rfl (by omega) (by omega) (by omega) (by omega) ?_
    refine s_aload_n C dX2_addKey_32 rfl ?_
    refine s_getr (k := 6) (b := 38) C dX2_addKey_33 fl_X2_31 (by decide) rfl (by decide) rfl ?_
    refine s_aload_n C dX2_addKey_36 rfl ?_
    refine s_geti (k := 8) (j := 8) C dX2_addKey_37 fl_X2_37 (by decide) rfl (by decide) rfl (by first | (simp (disch := omega) only [mput_ne, mput_nk, mput_eq, mcopy_ne]; done) | (simp (disch := omega) only [mput_ne, mput_nk, mput_eq, mcopy_ne]; rfl) | rfl) (fun r37 => ?_)
    refine s_aload_n C dX2_addKey_40 rfl ?_
    refine s_getr (k := 7) (b := 39) C dX2_addKey_41 fl_X2_34 (by decide) rfl (by decide) rfl ?_
    refine s_iload_n C dX2_addKey_44 rfl ?_
    refine s_iaload (n := 256) (z := M 39 b) C dX2_addKey_45 (by decide) rfl rfl (by omega) (by omega) (by omega) (by first | (simp (disch := omega) only [mput_ne, mput_nk, mput_eq, mcopy_ne]; done) | (simp (disch := omega) only [mput_ne, mput_nk, mput_eq, mcopy_ne]; rfl) | rfl) (fun r45 => ?_)
    refine s_iastore (n := 960) C dX2_addKey_46 (by decide) rfl rfl (by omega) (by omega) (by omega) (by omega) ?_
    refine s_aload_n C dX2_addKey_47 rfl ?_
    refine s_getr (k := 7) (b := 39) C dX2_addKey_48 fl_X2_34 (by decide) rfl (by decide) rfl ?_
    refine s_iload_n C dX2_addKey_51 rfl ?_
    refine s_aload_n C dX2_addKey_52 rfl ?_
    refine s_geti (k := 8) (j := 8) C dX2_addKey_53 fl_X2_37 (by decide) rfl (by decide) rfl (by first | (simp (disch := omega) only [mput_ne, mput_nk, mput_eq, mcopy_ne]; done) | (simp (disch := omega) only [mput_ne, mput_nk, mput_eq, mcopy_ne]; rfl) | rfl) (fun r53 => ?_)
    refine s_iastore (n := 256) C dX2_addKey_56 (by decide) rfl rfl (by omega) (by omega) (by omega) (by omega) ?_
    refine s_aload_n C dX2_addKey_57 rfl ?_
    refine s_dup C dX2_addKey_58 rfl ?_
    refine s_geti (k := 8) (j := 8) C dX2_addKey_59 fl_X2_37 (by decide) rfl (by decide) rfl (by first | (simp (disch := omega) only [mput_ne, mput_nk, mput_eq, mcopy_ne]; done) | (simp (disch := omega) only [mput_ne, mput_nk, mput_eq, mcopy_ne]; rfl) | rfl) (fun r59 => ?_)
    refine s_iconst C dX2_addKey_62 ?_
    refine s_iadd C dX2_addKey_63 ?_
    refine s_puti (k := 8) (j := 8) C dX2_addKey_64 fp_X2_37 (by decide) rfl rfl rfl (by omega) ?_
    refine s_aload_n C dX2_addKey_67 rfl ?_
    refine s_geti (k := 8) (j := 8) C dX2_addKey_68 fl_X2_37 (by decide) rfl (by decide) rfl (by first | (simp (disch := omega) only [mput_ne, mput_nk, mput_eq, mcopy_ne]; done) | (simp (disch := omega) only [mput_ne, mput_nk, mput_eq, mcopy_ne]; rfl) | rfl) (fun r68 => ?_)
    refine s_iconst C dX2_addKey_71 ?_
    refine s_isub C dX2_addKey_72 ?_
    exact s_ireturn C dX2_addKey_73 (⟨_, rfl, by omega, rfl⟩)
  · skip
    omega

set_option maxRecDepth 20000 in
set_option maxHeartbeats 4000000 in
theorem ct_X2_keyOf (E : Ev) (a : Nat) (ha : a = 18 ∨ a = 25) (M : Mm) (s n : Int) (hs : 0 ≤ s ∧ 0 ≤ n ∧ s + n ≤ 3000) (hK : KT M a) (hT : M 31 8 < 960) : Ct E yX2_keyOf cX2_keyOf 8 (some .int) 1 [zr E 31, zr E a, zi s, zi n] M (pI (fun z M' => KT M' a ∧ Sm M M' [31, 36, 37, 38, 39] ∧ (0 ≤ z ∧ z < M' 31 8) ∧ isK M' a z s n ∧ (M 31 8 ≤ M' 31 8 ∧ M' 31 8 ≤ M 31 8 + 1) ∧ ∀ k, 0 ≤ k → k < M 31 8 → M' 36 k = M 36 k ∧ M' 37 k = M 37 k)) := by
  refine Ct.of (own := RX2) (lv0 := [some (zr E 31), some (zr E a), some (zi s), some (zi n), none, none, none, none]) (by decide) rfl (Nat.le_of_ble_eq_true rfl) rfl (fun κ C => ?_)
  have hla : ln a = 3000 := by rcases ha with rfl | rfl <;> decide
  obtain ⟨k1, k2, k3, k4, k5, k6⟩ := id hK
  have hbr := hB_rg (M a) s n
  have L117 : ∀ (H key tries : Int) (hno : ∀ k, 0 ≤ k → k < M 31 8 → ¬ isK M a k s n), Gm E κ (pI (fun z M' => KT M' a ∧ Sm M M' [31, 36, 37, 38, 39] ∧ (0 ≤ z ∧ z < M' 31 8) ∧ isK M' a z s n ∧ (M 31 8 ≤ M' 31 8 ∧ M' 31 8 ≤ M 31 8 + 1) ∧ ∀ k, 0 ≤ k → k < M 31 8 → M' 36 k = M 36 k ∧ M' 37 k = M 37 k)) 8 117 [some (zr E 31), some (zr E a), some (zi s), some (zi n), some (zi H), some (zi (hB (M a) s n)), some (zi key), some (zi tries)] [] M := by
    intro H key tries  hno
    refine s_aload_n C dX2_keyOf_117 rfl ?_
    refine s_iload_n C dX2_keyOf_118 rfl ?_
    refine s_iload_n C dX2_keyOf_119 rfl ?_
    refine s_iload C dX2_keyOf_120 rfl ?_
    refine s_callV3 C dX2_keyOf_122 cy_X2_addKey cv_X2_addKey lk_X2_97 (ct_X2_addKey E M s n (hB (M a) s n) (by omega) (by omega) (by omega) (by omega)) (by decide) (by decide) (by first | decide | (decide)) rfl (Nat.le_of_ble_eq_true rfl) (k_I (fun z122 M122 q122 => ?_))
    obtain ⟨hz, hM⟩ := q122
    subst hM
    subst hz
    have v := kAdd_v M s n (hB (M a) s n)
    exact s_ireturn C dX2_keyOf_125 (⟨_, rfl, KT_add ha hK hT hs hno, kAdd_sm M s n _, ⟨by omega, by rw [(v 0).2.2.2.2]; omega⟩, ⟨by rw [(v _).2.1, if_pos rfl], by rw [(v _).1, if_pos rfl, kAdd_sm M s n _ a (by rcases ha with rfl | rfl <;> decide)]; exact fun _ _ _ => rfl⟩, ⟨by rw [(v 0).2.2.2.2]; omega, by rw [(v 0).2.2.2.2]; omega⟩, fun k h0 h1 => ⟨by rw [(v k).1, if_neg (by omega)], by rw [(v k).2.1, if_neg (by omega)]⟩⟩)
  have L58 : ∀ (n9 : Nat) (H key tries : Int) (hk : -1 ≤ key ∧ key < M 31 8) (ht : 0 ≤ tries ∧ tries ≤ M 31 8) (hm0 : 0 ≤ key → tries + key < M 31 8) (hall : ∀ k, 0 ≤ k → k < M 31 8 → isK M a k s n → Rk (M 38) key k) (hm : (key + 1).toNat < n9), Gm E κ (pI (fun z M' => KT M' a ∧ Sm M M' [31, 36, 37, 38, 39] ∧ (0 ≤ z ∧ z < M' 31 8) ∧ isK M' a z s n ∧ (M 31 8 ≤ M' 31 8 ∧ M' 31 8 ≤ M 31 8 + 1) ∧ ∀ k, 0 ≤ k → k < M 31 8 → M' 36 k = M 36 k ∧ M' 37 k = M 37 k)) 8 58 [some (zr E 31), some (zr E a), some (zi s), some (zi n), some (zi H), some (zi (hB (M a) s n)), some (zi key), some (zi tries)] [] M := by
    intro n9
    induction n9 with
    | zero => intro H key tries  hk ht hm0 hall hm; exact absurd hm (Nat.not_lt_zero _)
    | succ n9 ih58 =>
      intro H key tries  hk ht hm0 hall hm
      have L102 : ∀  (hk0 : 0 ≤ key) (hnk : ¬ isK M a key s n) (htlt : tries < M 31 8), Gm E κ (pI (fun z M' => KT M' a ∧ Sm M M' [31, 36, 37, 38, 39] ∧ (0 ≤ z ∧ z < M' 31 8) ∧ isK M' a z s n ∧ (M 31 8 ≤ M' 31 8 ∧ M' 31 8 ≤ M 31 8 + 1) ∧ ∀ k, 0 ≤ k → k < M 31 8 → M' 36 k = M 36 k ∧ M' 37 k = M 37 k)) 8 102 [some (zr E 31), some (zr E a), some (zi s), some (zi n), some (zi H), some (zi (hB (M a) s n)), some (zi key), some (zi tries)] [] M := by
        intro   hk0 hnk htlt
        have hk3 := k3 key (by omega) (by omega)
        refine s_aload_n C dX2_keyOf_102 rfl ?_
        refine s_getr (k := 6) (b := 38) C dX2_keyOf_103 fl_X2_31 (by decide) rfl (by decide) rfl ?_
        refine s_iload C dX2_keyOf_106 rfl ?_
        refine s_iaload (n := 960) C dX2_keyOf_108 (by decide) rfl rfl (by omega) (by omega) (by omega) (rfl) (fun r108 => ?_)
        refine s_istore (lv' := [_, _, _, _, _, _, _, _]) C dX2_keyOf_109 (by decide) rfl rfl ?_
        refine s_iinc (lv' := [_, _, _, _, _, _, _, _]) C dX2_keyOf_111 rfl (by decide) rfl rfl rfl ?_
        refine s_goto (tgt := 58) C dX2_keyOf_114 (by decide) ?_
        exact ih58 _ _ _  (by first | assumption | omega) (by first | assumption | omega) (fun q => by have := hm0 hk0; omega) (fun k h0 h1 h2 => by
          rcases (hall k h0 h1 h2).cs with h | ⟨_, h⟩
          · rw [h] at h2; exact absurd h2 hnk
          · exact h) (by omega)
      refine s_iload C dX2_keyOf_58 rfl ?_
      refine s_aload_n C dX2_keyOf_60 rfl ?_
      refine s_geti (k := 8) (j := 8) C dX2_keyOf_61 fl_X2_37 (by decide) rfl (by decide) rfl (rfl) (fun r61 => ?_)
      refine s_icmp_ge (tgt := 117) C dX2_keyOf_64 (by decide) (by omega) (by omega) (fun c64 => ?_) (fun c64 => ?_)
      · skip
        exact L117 _ _ _  (fun k h0 h1 h2 => by
        rcases (hall k h0 h1 h2).cs with h | ⟨h, _⟩
        · have := hm0 (by omega); omega
        · have := hm0 h; omega)
      · skip
        refine s_iload C dX2_keyOf_67 rfl ?_
        refine s_if_lt (tgt := 117) C dX2_keyOf_69 (by decide) (by omega) (fun c69 => ?_) (fun c69 => ?_)
        · skip
          exact L117 _ _ _  (fun k h0 h1 h2 => by
        rcases (hall k h0 h1 h2).cs with h | ⟨h, _⟩ <;> omega)
        · skip
          have hkk := k2 key (by omega) (by omega)
          have hk3 := k3 key (by omega) (by omega)
          refine s_aload_n C dX2_keyOf_72 rfl ?_
          refine s_getr (k := 5) (b := 37) C dX2_keyOf_73 fl_X2_28 (by decide) rfl (by decide) rfl ?_
          refine s_iload C dX2_keyOf_76 rfl ?_
          refine s_iaload (n := 960) C dX2_keyOf_78 (by decide) rfl rfl (by omega) (by omega) (by omega) (rfl) (fun r78 => ?_)
          refine s_iload_n C dX2_keyOf_79 rfl ?_
          refine s_icmp_ne (tgt := 102) C dX2_keyOf_80 (by decide) (by omega) (by omega) (fun c80 => ?_) (fun c80 => ?_)
          · skip
            exact L102   (by first | assumption | omega) (fun q => c80 q.1) (by first | assumption | omega)
          · skip
            refine s_aload_n C dX2_keyOf_83 rfl ?_
            refine s_aload_n C dX2_keyOf_84 rfl ?_
            refine s_getr (k := 4) (b := 36) C dX2_keyOf_85 fl_X2_25 (by decide) rfl (by decide) rfl ?_
            refine s_iload C dX2_keyOf_88 rfl ?_
            refine s_iaload (n := 960) C dX2_keyOf_90 (by decide) rfl rfl (by omega) (by omega) (by omega) (rfl) (fun r90 => ?_)
            refine s_iload_n C dX2_keyOf_91 rfl ?_
            refine s_iload_n C dX2_keyOf_92 rfl ?_
            refine s_callS4 C dX2_keyOf_93 cy_X2_isSame cs_X2_isSame lk_X2_93 (ct_X2_isSame E a ha M (M 36 key) s n (by omega) (by omega) (by omega)) (by decide) (Nat.le_of_ble_eq_true rfl) (k_P (fun z93 q93 => ?_))
            refine s_if_eq (tgt := 102) C dX2_keyOf_96 (by decide) (by rcases q93 with q | q <;> omega) (fun c96 => ?_) (fun c96 => ?_)
            · skip
              exact L102   (by first | assumption | omega) (fun q => by rcases q93 with ⟨g, _⟩ | ⟨_, g⟩; omega; exact g q.2) (by first | assumption | omega)
            · skip
              refine s_iload C dX2_keyOf_99 rfl ?_
              exact s_ireturn C dX2_keyOf_101 (⟨_, rfl, hK, Sm.rf M _, ⟨by omega, by omega⟩, ⟨c80, by rcases q93 with ⟨_, g⟩ | ⟨g, _⟩; exact g; exact absurd g c96⟩, ⟨by omega, by omega⟩, fun k _ _ => ⟨rfl, rfl⟩⟩)
  have L6 : ∀ (n9 : Nat) (p : Nat) (pp : Int) (u6 u7 : Option Value) (hpp : pp = (p : Int)) (hp : (p : Int) ≤ n) (hm : (n - pp).toNat < n9), Gm E κ (pI (fun z M' => KT M' a ∧ Sm M M' [31, 36, 37, 38, 39] ∧ (0 ≤ z ∧ z < M' 31 8) ∧ isK M' a z s n ∧ (M 31 8 ≤ M' 31 8 ∧ M' 31 8 ≤ M 31 8 + 1) ∧ ∀ k, 0 ≤ k → k < M 31 8 → M' 36 k = M 36 k ∧ M' 37 k = M 37 k)) 8 6 [some (zr E 31), some (zr E a), some (zi s), some (zi n), some (zi (hF (M a) s p)), some (zi pp), u6, u7] [] M := by
    intro n9
    induction n9 with
    | zero => intro p pp u6 u7 hpp hp hm; exact absurd hm (Nat.not_lt_zero _)
    | succ n9 ih6 =>
      intro p pp u6 u7 hpp hp hm
      refine s_iload C dX2_keyOf_6 rfl ?_
      refine s_iload_n C dX2_keyOf_8 rfl ?_
      refine s_icmp_ge (tgt := 32) C dX2_keyOf_9 (by decide) (by omega) (by omega) (fun c9 => ?_) (fun c9 => ?_)
      · skip
        refine s_iload C dX2_keyOf_32 rfl ?_
        refine s_iload C dX2_keyOf_34 rfl ?_
        refine s_bipush C dX2_keyOf_36 (by decide) ?_
        refine s_iushr C dX2_keyOf_38 ?_
        refine s_ixor C dX2_keyOf_39 ?_
        refine s_sipush C dX2_keyOf_40 (by decide) ?_
        refine s_iand C dX2_keyOf_43 ?_
        rw [show p = n.toNat by omega]
        rw [show zand (zxor (hF (M a) s n.toNat) (zushr (hF (M a) s n.toNat) 8)) 255 = hB (M a) s n from rfl]
        refine s_istore (lv' := [_, _, _, _, _, _, _, _]) C dX2_keyOf_44 (by decide) rfl rfl ?_
        refine s_aload_n C dX2_keyOf_46 rfl ?_
        refine s_getr (k := 7) (b := 39) C dX2_keyOf_47 fl_X2_34 (by decide) rfl (by decide) rfl ?_
        refine s_iload C dX2_keyOf_50 rfl ?_
        refine s_iaload (n := 256) C dX2_keyOf_52 (by decide) rfl rfl (by omega) (by omega) (by omega) (rfl) (fun r52 => ?_)
        refine s_istore (lv' := [_, _, _, _, _, _, _, _]) C dX2_keyOf_53 (by decide) rfl rfl ?_
        refine s_iconst C dX2_keyOf_55 ?_
        have hb4 := k4 (hB (M a) s n) (by omega) (by omega)
        refine s_istore (lv' := [_, _, _, _, _, _, _, _]) C dX2_keyOf_56 (by decide) rfl rfl ?_
        exact L58 _ _ _ _  (by first | assumption | omega) (by first | assumption | omega) (fun q => by omega) (fun k h0 h1 h2 => by
      have h3 := k5 k h0 h1
      rw [h2.1, hB_same hs.2.1 h2.2] at h3
      exact h3) (Nat.lt_succ_self _)
      · skip
        refine s_iload C dX2_keyOf_12 rfl ?_
        refine s_bipush C dX2_keyOf_14 (by decide) ?_
        refine s_imul C dX2_keyOf_16 ?_
        refine s_aload_n C dX2_keyOf_17 rfl ?_
        refine s_iload_n C dX2_keyOf_18 rfl ?_
        refine s_iload C dX2_keyOf_19 rfl ?_
        refine s_iadd C dX2_keyOf_21 ?_
        refine s_iaload C dX2_keyOf_22 (by rcases ha with rfl | rfl <;> decide) (by rcases ha with rfl | rfl <;> decide) rfl (by omega) (by omega) (by omega) (rfl) (fun r22 => ?_)
        refine s_iadd C dX2_keyOf_23 ?_
        rw [show hF (M a) s p * 31 + M a (s + pp) = hF (M a) s (p + 1) by rw [hF, hpp]]
        refine s_istore (lv' := [_, _, _, _, _, _, _, _]) C dX2_keyOf_24 (by decide) rfl rfl ?_
        refine s_iinc (lv' := [_, _, _, _, _, _, _, _]) C dX2_keyOf_26 rfl (by decide) rfl rfl rfl ?_
        refine s_goto (tgt := 6) C dX2_keyOf_29 (by decide) ?_
        exact ih6 (p + 1) _ _ _ (by omega) (by omega) (by omega)
  refine s_iconst C dX2_keyOf_0 ?_
  refine s_istore (lv' := [_, _, _, _, _, _, _, _]) C dX2_keyOf_1 (by decide) rfl rfl ?_
  refine s_iconst C dX2_keyOf_3 ?_
  refine s_istore (lv' := [_, _, _, _, _, _, _, _]) C dX2_keyOf_4 (by decide) rfl rfl ?_
  exact L6 _ 0 0 _ _ rfl (by omega) (Nat.lt_succ_self _)
