theorem Nar.mono {w : Int → Int → Int} {M : Mm} {a b a' b' wd : Int} (h : Nar w M a b wd) (ha : a ≤ a') (hb : b' ≤ b) : Nar w M a' b' wd :=
  ⟨fun i e h1 h2 h3 h4 h5 h6 => h.1 i e (by omega) (by omega) (by omega) (by omega) h5 h6, fun i j h1 h2 h3 h4 => h.2 i j (by omega) h2 (by omega) h4⟩
theorem alone_Cg (w : Int → Int → Int) (M : Mm) (c : Int) : Cg w (mput (fEmpty M c) 46 c 0) c [[]] := by
  unfold Cg fEmpty
  simp (disch := decide) only [mput_ne, mput_eq]
  refine ⟨[], [], List.Perm.refl _, rfl, rfl, rfl, ?_, rfl⟩
  intro y hy
  rw [List.mem_singleton.mp hy]
  unfold noL lexLt
  omega
theorem alone_On (M : Mm) (c : Int) : On M (mput (fEmpty M c) 46 c 0) [c] := by
  have h := fEmpty_on M c
  refine ⟨h.1.put (by decide), fun k hk => ?_⟩
  have hk' : k ≠ c := fun q => hk (by rw [q]; exact List.mem_cons_self)
  obtain ⟨h1, h2, h3, h4⟩ := h.2 k hk
  rw [mput_nk hk', mput_ne (by decide), mput_ne (by decide), mput_ne (by decide)]
  exact ⟨h1, h2, h3, h4⟩
theorem bvN64 {x : Int} (h0 : 0 ≤ x) (h : x < 9223372036854775808) : (Int64.ofInt x).toBitVec.toNat = x.toNat := by
  rw [Int64.toBitVec_ofInt, BitVec.toNat_ofInt]
  rw [Int.emod_eq_of_lt h0 (by omega)]
theorem toIN64 {v : Int64} (h : v.toBitVec.toNat < 9223372036854775808) : v.toInt = (v.toBitVec.toNat : Int) :=
  BitVec.toInt_eq_toNat_of_lt (by omega)
theorem zland_n {x y : Int} (hx : 0 ≤ x ∧ x < 9223372036854775808) (hy : 0 ≤ y ∧ y < 9223372036854775808) : zland x y = ((x.toNat &&& y.toNat : Nat) : Int) := by
  unfold zland
  have e : (Int64.ofInt x &&& Int64.ofInt y).toBitVec.toNat = x.toNat &&& y.toNat := by
    show ((Int64.ofInt x).toBitVec &&& (Int64.ofInt y).toBitVec).toNat = _
    rw [BitVec.toNat_and, bvN64 hx.1 hx.2, bvN64 hy.1 hy.2]
  rw [toIN64 (by rw [e]; exact Nat.lt_of_le_of_lt Nat.and_le_left (by omega)), e]
theorem zland_31 {x : Int} (hx : 0 ≤ x ∧ x < 9223372036854775808) : zland x 31 = x % 32 := by
  rw [zland_n hx (by decide)]
  have : x.toNat &&& (31 : Int).toNat = x.toNat % 32 := Nat.and_two_pow_sub_one_eq_mod x.toNat 5
  rw [this]
  omega
theorem shamtl : ∀ k : Nat, k < 12 → (((Int32.ofInt (5 * (k : Int))).toInt64.toUInt64 &&& Int64.toUInt64 63).toNat % 64) = 5 * k := by decide +kernel
theorem p32_pow : ∀ k : Nat, k < 12 → p32 k = ((2 ^ (5 * k) : Nat) : Int) := by decide +kernel
theorem zlushr_n {x : Int} (hx : 0 ≤ x ∧ x < 9223372036854775808) {k : Nat} (hk : k < 12) : zlushr x (5 * (k : Int)) = x / p32 k := by
  unfold zlushr
  have e : ((Int64.ofInt x).toUInt64 >>> ((Int32.ofInt (5 * (k : Int))).toInt64.toUInt64 &&& Int64.toUInt64 63)).toInt64.toBitVec.toNat = x.toNat >>> (5 * k) := by
    show ((Int64.ofInt x).toUInt64 >>> ((Int32.ofInt (5 * (k : Int))).toInt64.toUInt64 &&& Int64.toUInt64 63)).toNat = _
    rw [UInt64.toNat_shiftRight, shamtl k hk]
    show (Int64.ofInt x).toBitVec.toNat >>> (5 * k) = _
    rw [bvN64 hx.1 hx.2]
  have hle : x.toNat >>> (5 * k) ≤ x.toNat := by rw [Nat.shiftRight_eq_div_pow]; exact Nat.div_le_self _ _
  rw [toIN64 (by rw [e]; generalize x.toNat >>> (5 * k) = P at *; omega), e, Nat.shiftRight_eq_div_pow, p32_pow k hk]
  have : x = ((x.toNat : Nat) : Int) := by omega
  rw [this]
  simp
theorem zl2i_n {x : Int} (h : rg x) : zl2i x = x := by
  unfold zl2i
  rw [Int64.toInt_toInt32, toInt_zl (by omega)]
  exact Int.bmod_eq_of_le (by omega) (by omega)
/-- the head of d, out of the two numbers of a row of heads -/
def rowH (e t d : Int) : Int := (if d < 12 then e / p32 (11 - d).toNat % 32 else t / p32 (23 - d).toNat % 32) - 1

set_option maxRecDepth 20000 in
set_option maxHeartbeats 4000000 in
theorem ct_X1_grow_0 (E : Ev) (M : Mm) (n : Int) (hn : n = 0) : Ct E yX1_grow cX1_grow 4 none 3 [zr E 43, zi n] M (pV (fun M' => M' = M)) := by
  refine Ct.of (own := RX1) (lv0 := [some (zr E 43), some (zi n), none, none]) (by decide) rfl (Nat.le_of_ble_eq_true rfl) rfl (fun κ C => ?_)
  refine s_iload_n C dX1_grow_0 rfl ?_
  refine s_iconst C dX1_grow_1 ?_
  refine s_icmp_lt (tgt := 11) C dX1_grow_2 (by decide) (by omega) (by omega) (fun c2 => ?_) (fun c2 => ?_)
  · skip
    exact s_return C dX1_grow_11 (⟨rfl, rfl⟩)
  · skip
    omega

set_option maxRecDepth 20000 in
set_option maxHeartbeats 4000000 in
theorem ct_X1_grow (E : Ev) (w : Int → Int → Int) (hw : wOk w) (M : Mm) (n : Int) (hn : 1 ≤ n ∧ n ≤ 24) (h44 : ∀ h d, 0 ≤ h → h < n → 0 ≤ d → d < n → h ≠ d → M 44 (h * 24 + d) = w d h) (h45 : ∀ r, 0 ≤ r → r < n → M 45 r = w r (-1)) : Ct E yX1_grow cX1_grow 4 none 3 [zr E 43, zi n] M (pV (fun M' => Sm M M' [46, 47, 48, 49] ∧ Cg w M' 1152 (wD n))) := by
  refine Ct.of (own := RX1) (lv0 := [some (zr E 43), some (zi n), none, none]) (by decide) rfl (Nat.le_of_ble_eq_true rfl) rfl (fun κ C => ?_)
  have pW : Pw w ((rgI 0 (n - 1)).flatMap (fun r => prd (sD r 0) (sD r (n - 1)) [(r, -1)])) := by
    intro x hx
    obtain ⟨r, hr, hx⟩ := List.mem_flatMap.mp hx
    obtain ⟨r1, r2⟩ := mem_rgI.mp hr
    obtain ⟨y, hy, z, hz, rfl⟩ := prd_mem.mp hx
    have b1 := (sD_Bd hw (h := r) (e := 0) (by omega) (by omega) (by omega) (by omega)).2 r1 y hy
    have b2 := (sD_Bd hw (h := r) (e := n - 1) (by omega) (by omega) (by omega) (by omega)).1 (by omega) z hz
    have b3 := Bd_one hw (d := r) (h := -1) (by omega) (by omega)
    rw [List.append_assoc]
    exact Bd_Pw (a := 0) (b := n) (by omega) (by omega) (by omega) (Bd_app b1 (by rw [show n = n - 1 + 1 by omega]; exact Bd_app' b2 b3))
  have L79 : ∀ (n9 : Nat) (A : Mm) (r : Int) (u3 : Option Value) (hr : 0 ≤ r ∧ r ≤ n) (hSm : Sm M A [46, 47, 48, 49]) (hN : Nar w A 0 (n - 1) n) (hCs : Cs0 w A 1152 ((rgI 0 (r - 1)).flatMap (fun r => prd (sD r 0) (sD r (n - 1)) [(r, -1)]))) (hC : 0 < r → Cg w A 1152 ((rgI 0 (r - 1)).flatMap (fun r => prd (sD r 0) (sD r (n - 1)) [(r, -1)]))) (hm : (n - r).toNat < n9), Gm E κ (pV (fun M' => Sm M M' [46, 47, 48, 49] ∧ Cg w M' 1152 (wD n))) 4 79 [some (zr E 43), some (zi n), some (zi r), u3] [] A := by
    intro n9
    induction n9 with
    | zero => intro A r u3 hr hSm hN hCs hC hm; exact absurd hm (Nat.not_lt_zero _)
    | succ n9 ih79 =>
      intro A r u3 hr hSm hN hCs hC hm
      refine s_iload_n C dX1_grow_79 rfl ?_
      refine s_iload_n C dX1_grow_80 rfl ?_
      refine s_icmp_ge (tgt := 117) C dX1_grow_81 (by decide) (by omega) (by omega) (fun c81 => ?_) (fun c81 => ?_)
      · skip
        exact s_return C dX1_grow_117 (⟨rfl, ⟨hSm, by
      have := hC (by omega)
      rw [show r = n by omega] at this
      exact this⟩⟩)
      · skip
        refine s_aload_n C dX1_grow_84 rfl ?_
        refine s_sipush C dX1_grow_85 (by decide) ?_
        refine s_iload_n C dX1_grow_88 rfl ?_
        refine s_iconst C dX1_grow_89 ?_
        refine s_callS2 C dX1_grow_90 cy_X1_side cs_X1_side lk_X1_31 (ct_X1_side E A r 0) (by decide) (Nat.le_of_ble_eq_true rfl) (k_P (fun z90 q90 => ?_))
        subst q90
        refine s_iload_n C dX1_grow_93 rfl ?_
        refine s_iload_n C dX1_grow_94 rfl ?_
        refine s_iconst C dX1_grow_95 ?_
        refine s_isub C dX1_grow_96 ?_
        refine s_callS2 C dX1_grow_97 cy_X1_side cs_X1_side lk_X1_31 (ct_X1_side E A r (n - 1)) (by decide) (Nat.le_of_ble_eq_true rfl) (k_P (fun z97 q97 => ?_))
        subst q97
        refine s_aload_n C dX1_grow_100 rfl ?_
        refine s_getr (k := 1) (b := 45) C dX1_grow_101 fl_X1_15 (by decide) rfl (by decide) rfl ?_
        refine s_iload_n C dX1_grow_104 rfl ?_
        refine s_iaload (n := 24) (z := w r (-1)) C dX1_grow_105 (by decide) rfl rfl (by omega) (by omega) (by omega) (by rw [hSm 45 (by decide)]; exact h45 r (by omega) (by omega)) (fun r105 => ?_)
        refine s_iconst C dX1_grow_106 ?_
        refine s_iload_n C dX1_grow_107 rfl ?_
        refine s_callV6 C dX1_grow_108 cy_X1_offer cv_X1_offer lk_X1_46 (ct_offer E (w := w) (M := A) (t := [(r, -1)]) (A := sD r 0) (B := sD r (n - 1)) (by omega) (by omega) (by omega) (by omega) (by omega) hCs (hN.1 r 0 (by omega) (by omega) (by omega) (by omega) (by omega) (by omega)) (hN.1 r (n - 1) (by omega) (by omega) (by omega) (by omega) (by omega) (by omega)) (Pw_part pW (by omega)) (sD_Pw hw (by omega) (by omega) (by omega) (by omega)) (sD_Pw hw (by omega) (by omega) (by omega) (by omega)) (Pw_at pW (k := r) (by omega) (by omega)) (by simp [cO]) (hw r (-1) (by omega) (by omega) (by omega) (by omega)) (by simp [hiA]) (by simp [loA])) (by decide) (by decide) (by first | decide | (decide)) rfl (Nat.le_of_ble_eq_true rfl) (k_V (fun M108 q108 => ?_))
        refine s_iinc (lv' := [_, _, _, _]) C dX1_grow_111 rfl (by decide) rfl rfl rfl ?_
        refine s_goto (tgt := 79) C dX1_grow_114 (by decide) ?_
        have e := fm_next (F := (fun r => prd (sD r 0) (sD r (n - 1)) [(r, -1)])) (a := 0) (k := r) (by omega)
        exact ih79 _ _ _ (by omega) (hSm.tr q108.2.1 (fun _ h => h) (fun _ h => h)) ⟨fun h e h1 h2 h3 h4 h5 h6 => (hN.1 h e h1 h2 h3 h4 h5 h6).on q108.2 (by simp only [List.mem_singleton]; omega), fun a b h1 h2 h3 h4 => (hN.2 a b h1 h2 h3 h4).on q108.2 (by simp only [List.mem_singleton]; omega)⟩ (by rw [e]; exact Or.inr q108.1) (fun _ => by rw [e]; exact q108.1) (by omega)
  have L36 : ∀ (n9 : Nat) (A : Mm) (wd : Int) (u3 : Option Value) (hwd : 1 ≤ wd ∧ wd ≤ n) (hSm : Sm M A [46, 47, 48, 49]) (hN : Nar w A 0 (n - 1) wd) (hm : (n - wd).toNat < n9), Gm E κ (pV (fun M' => Sm M M' [46, 47, 48, 49] ∧ Cg w M' 1152 (wD n))) 4 36 [some (zr E 43), some (zi n), some (zi wd), u3] [] A := by
    intro n9
    induction n9 with
    | zero => intro A wd u3 hwd hSm hN hm; exact absurd hm (Nat.not_lt_zero _)
    | succ n9 ih36 =>
      intro A wd u3 hwd hSm hN hm
      have L43 : ∀ (n9 : Nat) (B : Mm) (i : Int) (hi : 0 ≤ i ∧ i + wd ≤ n) (hlt : wd < n) (hSmB : Sm M B [46, 47, 48, 49]) (hNB : Nar w B 0 (n - 1) wd) (hdone : ∀ a, 0 ≤ a → a < i → Cg w B (576 + a * 24 + (a + wd)) (gD a (a + wd)) ∧ Cg w B (a * 24 + (a + wd)) (sD a (a + wd)) ∧ Cg w B ((a + wd) * 24 + a) (sD (a + wd) a)) (hm : (n - wd - i).toNat < n9), Gm E κ (pV (fun M' => Sm M M' [46, 47, 48, 49] ∧ Cg w M' 1152 (wD n))) 4 43 [some (zr E 43), some (zi n), some (zi wd), some (zi i)] [] B := by
        intro n9
        induction n9 with
        | zero => intro B i  hi hlt hSmB hNB hdone hm; exact absurd hm (Nat.not_lt_zero _)
        | succ n9 ih43 =>
          intro B i  hi hlt hSmB hNB hdone hm
          refine s_iload_n C dX1_grow_43 rfl ?_
          refine s_iload_n C dX1_grow_44 rfl ?_
          refine s_iadd C dX1_grow_45 ?_
          refine s_iload_n C dX1_grow_46 rfl ?_
          refine s_icmp_ge (tgt := 64) C dX1_grow_47 (by decide) (by omega) (by omega) (fun c47 => ?_) (fun c47 => ?_)
          · skip
            refine s_iinc (lv' := [_, _, _, _]) C dX1_grow_64 rfl (by decide) rfl rfl rfl ?_
            refine s_goto (tgt := 36) C dX1_grow_67 (by decide) ?_
            refine ih36 _ _ _ (by omega) hSmB ⟨fun h e h1 h2 h3 h4 h5 h6 => ?_, fun a b h1 h2 h3 h4 => ?_⟩ (by omega)
            · by_cases c1 : e = h + wd
              · rw [c1]; exact (hdone h h1 (by omega)).2.1
              · by_cases c2 : h = e + wd
                · rw [c2]; exact (hdone e h3 (by omega)).2.2
                · exact hNB.1 h e h1 h2 h3 h4 (by omega) (by omega)
            · by_cases c1 : b = a + wd
              · rw [c1]; exact (hdone a h1 (by omega)).1
              · exact hNB.2 a b h1 h2 h3 (by omega)
          · skip
            refine s_aload_n C dX1_grow_50 rfl ?_
            refine s_iload_n C dX1_grow_51 rfl ?_
            refine s_iload_n C dX1_grow_52 rfl ?_
            refine s_iload_n C dX1_grow_53 rfl ?_
            refine s_iadd C dX1_grow_54 ?_
            refine s_callV2 C dX1_grow_55 cy_X1_fillSpan cv_X1_fillSpan lk_X1_39 (ct_X1_fillSpan E w hw B i (i + wd) (by omega) (fun h d h1 h2 h3 h4 h5 => by rw [hSmB 44 (by decide)]; exact h44 h d (by omega) (by omega) (by omega) (by omega) h5) (by rw [show i + wd - i = wd by omega]; exact hNB.mono (by omega) (by omega))) (by decide) (by decide) (by first | decide | (decide)) rfl (Nat.le_of_ble_eq_true rfl) (k_V (fun M55 q55 => ?_))
            refine s_iinc (lv' := [_, _, _, _]) C dX1_grow_58 rfl (by decide) rfl rfl rfl ?_
            refine s_goto (tgt := 43) C dX1_grow_61 (by decide) ?_
            obtain ⟨o1, o2, o3, o4⟩ := q55
            refine ih43 _ _ (by omega) hlt (hSmB.tr o1.1 (fun _ h => h) (fun _ h => h)) ⟨fun h e h1 h2 h3 h4 h5 h6 => (hNB.1 h e h1 h2 h3 h4 h5 h6).on o1 (by simp only [List.mem_cons, List.not_mem_nil, or_false]; omega), fun a b h1 h2 h3 h4 => (hNB.2 a b h1 h2 h3 h4).on o1 (by simp only [List.mem_cons, List.not_mem_nil, or_false]; omega)⟩ ?_ (by omega)
            intro a h1 h2
            by_cases c : a = i
            · rw [c]; exact ⟨o2, o3, o4⟩
            · obtain ⟨g1, g2, g3⟩ := hdone a h1 (by omega)
              exact ⟨g1.on o1 (by simp only [List.mem_cons, List.not_mem_nil, or_false]; omega), g2.on o1 (by simp only [List.mem_cons, List.not_mem_nil, or_false]; omega), g3.on o1 (by simp only [List.mem_cons, List.not_mem_nil, or_false]; omega)⟩
      refine s_iload_n C dX1_grow_36 rfl ?_
      refine s_iload_n C dX1_grow_37 rfl ?_
      refine s_icmp_ge (tgt := 70) C dX1_grow_38 (by decide) (by omega) (by omega) (fun c38 => ?_) (fun c38 => ?_)
      · skip
        refine s_aload_n C dX1_grow_70 rfl ?_
        refine s_sipush C dX1_grow_71 (by decide) ?_
        refine s_callV1 C dX1_grow_74 cy_X1_setEmpty cv_X1_setEmpty lk_X1_43 (ct_X1_setEmpty E A 1152 (by omega)) (by decide) (by decide) (by first | decide | (decide)) rfl (Nat.le_of_ble_eq_true rfl) (k_V (fun M74 q74 => ?_))
        subst q74
        refine s_iconst C dX1_grow_77 ?_
        refine s_istore_n (lv' := [_, _, _, _]) C dX1_grow_78 (by decide) rfl rfl ?_
        have ho := fEmpty_on A 1152
        have hwn : wd = n := by omega
        have hN' : Nar w A 0 (n - 1) n := by rw [hwn] at hN; exact hN
        exact L79 _ _ _ _ (by omega) (hSm.tr ho.1 (fun _ h => h) (fun _ h => h)) ⟨fun h e h1 h2 h3 h4 h5 h6 => (hN'.1 h e h1 h2 h3 h4 h5 h6).on ho (by simp only [List.mem_singleton]; omega), fun a b h1 h2 h3 h4 => (hN'.2 a b h1 h2 h3 h4).on ho (by simp only [List.mem_singleton]; omega)⟩ (by rw [rgI_nil (by omega)]; exact fEmpty_Cs w A _) (fun q => by omega) (Nat.lt_succ_self _)
      · skip
        refine s_iconst C dX1_grow_41 ?_
        refine s_istore_n (lv' := [_, _, _, _]) C dX1_grow_42 (by decide) rfl rfl ?_
        exact L43 _ _ _  (by first | assumption | omega) (by first | assumption | omega) (by first | assumption | omega) (by first | assumption | omega) (fun a h1 h2 => by omega) (Nat.lt_succ_self _)
  have L14 : ∀ (n9 : Nat) (A : Mm) (i : Int) (u3 : Option Value) (hi : 0 ≤ i ∧ i ≤ n) (hSm : Sm M A [46, 47, 48, 49]) (hA : ∀ h, 0 ≤ h → h < i → Cg w A (h * 24 + h) (sD h h)) (hm : (n - i).toNat < n9), Gm E κ (pV (fun M' => Sm M M' [46, 47, 48, 49] ∧ Cg w M' 1152 (wD n))) 4 14 [some (zr E 43), some (zi n), some (zi i), u3] [] A := by
    intro n9
    induction n9 with
    | zero => intro A i u3 hi hSm hA hm; exact absurd hm (Nat.not_lt_zero _)
    | succ n9 ih14 =>
      intro A i u3 hi hSm hA hm
      refine s_iload_n C dX1_grow_14 rfl ?_
      refine s_iload_n C dX1_grow_15 rfl ?_
      refine s_icmp_ge (tgt := 34) C dX1_grow_16 (by decide) (by omega) (by omega) (fun c16 => ?_) (fun c16 => ?_)
      · skip
        refine s_iconst C dX1_grow_34 ?_
        refine s_istore_n (lv' := [_, _, _, _]) C dX1_grow_35 (by decide) rfl rfl ?_
        exact L36 _ _ _ _ (by omega) hSm ⟨fun h e h1 h2 h3 h4 h5 h6 => by rw [show e = h by omega]; exact hA h h1 (by omega), fun a b h1 h2 h3 h4 => by omega⟩ (Nat.lt_succ_self _)
      · skip
        refine s_aload_n C dX1_grow_19 rfl ?_
        refine s_iload_n C dX1_grow_20 rfl ?_
        refine s_iload_n C dX1_grow_21 rfl ?_
        refine s_callS2 C dX1_grow_22 cy_X1_side cs_X1_side lk_X1_31 (ct_X1_side E A i i) (by decide) (Nat.le_of_ble_eq_true rfl) (k_P (fun z22 q22 => ?_))
        subst q22
        refine s_callV1 C dX1_grow_25 cy_X1_setAlone cv_X1_setAlone lk_X1_35 (ct_X1_setAlone E A (i * 24 + i) (by omega)) (by decide) (by decide) (by first | decide | (decide)) rfl (Nat.le_of_ble_eq_true rfl) (k_V (fun M25 q25 => ?_))
        subst q25
        refine s_iinc (lv' := [_, _, _, _]) C dX1_grow_28 rfl (by decide) rfl rfl rfl ?_
        refine s_goto (tgt := 14) C dX1_grow_31 (by decide) ?_
        have ho := alone_On A (i * 24 + i)
        exact ih14 _ _ _ (by omega) (hSm.tr ho.1 (fun _ h => h) (fun _ h => h)) (fun h h1 h2 => by
          by_cases c : h = i
          · rw [c, sD_self]; exact alone_Cg w A _
          · exact (hA h h1 (by omega)).on ho (by simp only [List.mem_singleton]; omega)) (by omega)
  refine s_iload_n C dX1_grow_0 rfl ?_
  refine s_iconst C dX1_grow_1 ?_
  refine s_icmp_lt (tgt := 11) C dX1_grow_2 (by decide) (by omega) (by omega) (fun c2 => ?_) (fun c2 => ?_)
  · skip
    omega
  · skip
    refine s_iload_n C dX1_grow_5 rfl ?_
    refine s_bipush C dX1_grow_6 (by decide) ?_
    refine s_icmp_le (tgt := 12) C dX1_grow_8 (by decide) (by omega) (by omega) (fun c8 => ?_) (fun c8 => ?_)
    · skip
      refine s_iconst C dX1_grow_12 ?_
      refine s_istore_n (lv' := [_, _, _, _]) C dX1_grow_13 (by decide) rfl rfl ?_
      exact L14 _ _ _ _ (by first | assumption | omega) (Sm.rf M _) (fun h h1 h2 => by omega) (Nat.lt_succ_self _)
    · skip
      omega

set_option maxRecDepth 20000 in
set_option maxHeartbeats 4000000 in
theorem ct_X1_headOf (E : Ev) (M : Mm) (d : Int) (hd : 0 ≤ d ∧ d < 24) (h8 : 0 ≤ M 48 1152) (h9 : 0 ≤ M 49 1152) : Ct E yX1_headOf cX1_headOf 4 (some .int) 0 [zr E 43, zi d] M (pP M (fun z => z = rowH (M 48 1152) (M 49 1152) d)) := by
  refine Ct.of (own := RX1) (lv0 := [some (zr E 43), some (zi d), none, none]) (by decide) rfl (Nat.le_of_ble_eq_true rfl) rfl (fun κ C => ?_)
  have L39 : ∀ (y : Int) (u2 u3 : Option Value) (hy : 0 ≤ y ∧ y < 9223372036854775808) (hr : y % 32 - 1 = rowH (M 48 1152) (M 49 1152) d), Gm E κ (pP M (fun z => z = rowH (M 48 1152) (M 49 1152) d)) 4 39 [some (zr E 43), some (zi d), u2, u3] [zl y] M := by
    intro y u2 u3 hy hr
    skip
    refine s_lstore_n (lv' := [_, _, _, _]) C dX1_headOf_39 (by decide) rfl rfl ?_
    refine s_lload_n C dX1_headOf_40 rfl ?_
    refine s_ldc2 C dX1_headOf_41 kc_X1_63 ?_
    refine s_land C dX1_headOf_44 ?_
    rw [zland_31 hy]
    refine s_l2i C dX1_headOf_45 ?_
    rw [zl2i_n (by omega)]
    refine s_iconst C dX1_headOf_46 ?_
    refine s_isub C dX1_headOf_47 ?_
    exact s_ireturn C dX1_headOf_48 (⟨_, rfl, rfl, hr⟩)
  refine s_iload_n C dX1_headOf_0 rfl ?_
  refine s_bipush C dX1_headOf_1 (by decide) ?_
  refine s_icmp_ge (tgt := 24) C dX1_headOf_3 (by decide) (by omega) (by omega) (fun c3 => ?_) (fun c3 => ?_)
  · skip
    refine s_aload_n C dX1_headOf_24 rfl ?_
    refine s_getr (k := 5) (b := 49) C dX1_headOf_25 fl_X1_28 (by decide) rfl (by decide) rfl ?_
    refine s_sipush C dX1_headOf_28 (by decide) ?_
    refine s_laload (n := 1153) C dX1_headOf_31 (by decide) rfl rfl (by omega) (by omega) (by omega) (rfl) (fun r31 => ?_)
    refine s_iconst C dX1_headOf_32 ?_
    refine s_bipush C dX1_headOf_33 (by decide) ?_
    refine s_iload_n C dX1_headOf_35 rfl ?_
    refine s_isub C dX1_headOf_36 ?_
    refine s_imul C dX1_headOf_37 ?_
    refine s_lushr C dX1_headOf_38 ?_
    have e := zlushr_n (x := M 49 1152) (by omega) (k := (23 - d).toNat) (by omega)
    rw [show (((23 - d).toNat : Nat) : Int) = 23 - d by omega] at e
    rw [e]
    have hp := p32_pos (23 - d).toNat
    have q1 : 0 ≤ M 49 1152 / p32 (23 - d).toNat := Int.ediv_nonneg h9 (by omega)
    have q2 : M 49 1152 / p32 (23 - d).toNat ≤ M 49 1152 := Int.ediv_le_self _ h9
    exact L39 _ _ _ (by omega) (by unfold rowH; rw [if_neg (by omega)])
  · skip
    refine s_aload_n C dX1_headOf_6 rfl ?_
    refine s_getr (k := 4) (b := 48) C dX1_headOf_7 fl_X1_24 (by decide) rfl (by decide) rfl ?_
    refine s_sipush C dX1_headOf_10 (by decide) ?_
    refine s_laload (n := 1153) C dX1_headOf_13 (by decide) rfl rfl (by omega) (by omega) (by omega) (rfl) (fun r13 => ?_)
    refine s_iconst C dX1_headOf_14 ?_
    refine s_bipush C dX1_headOf_15 (by decide) ?_
    refine s_iload_n C dX1_headOf_17 rfl ?_
    refine s_isub C dX1_headOf_18 ?_
    refine s_imul C dX1_headOf_19 ?_
    refine s_lushr C dX1_headOf_20 ?_
    have e := zlushr_n (x := M 48 1152) (by omega) (k := (11 - d).toNat) (by omega)
    rw [show (((11 - d).toNat : Nat) : Int) = 11 - d by omega] at e
    rw [e]
    have hp := p32_pos (11 - d).toNat
    have q1 : 0 ≤ M 48 1152 / p32 (11 - d).toNat := Int.ediv_nonneg h8 (by omega)
    have q2 : M 48 1152 / p32 (11 - d).toNat ≤ M 48 1152 := Int.ediv_le_self _ h8
    refine s_goto (tgt := 39) C dX1_headOf_21 (by decide) ?_
    exact L39 _ _ _ (by first | assumption | omega) (by unfold rowH; rw [if_pos (by omega)])
