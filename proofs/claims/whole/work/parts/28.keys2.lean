/-- key k is one of sentence s -/
def kb (M : Mm) (s k : Int) : Prop := tbl (M 35 (s * 15 + k / 64)) (k % 64)
/-- how many keys two sentences both have, by the first u longs -/
def shL (M : Mm) (i j : Int) (u : Nat) : Int := sumI (fun k => pcL (zland (M 35 (i * 15 + k)) (M 35 (j * 15 + k)))) u
theorem pcL_le (x : Int) : 0 ≤ pcL x ∧ pcL x ≤ 64 := cntB_nn _ 64
theorem shL_le (M : Mm) (i j : Int) : ∀ u : Nat, 0 ≤ shL M i j u ∧ shL M i j u ≤ 64 * (u : Int) := by
  intro u
  unfold shL
  induction u with
  | zero => simp [sumI]
  | succ u ih =>
    rw [sumI]
    have := pcL_le (zland (M 35 (i * 15 + (u : Int))) (M 35 (j * 15 + (u : Int))))
    omega
/-- the tables of words, as they are kept -/
def tW (M : Mm) (w : Nat) (mo L : Int) : Prop := M w 0 = mo ∧ M w 1 = L ∧ (0 ≤ M w 5 ∧ M w 5 ≤ mo) ∧ ∀ i, 0 ≤ i → i < M w 5 → 0 ≤ M (w + 2) i ∧ M (w + 2) i ≤ L
def isStop (M : Mm) (a : Nat) (p n : Int) : Prop := ∃ i, 0 ≤ i ∧ i < M 3 5 ∧ M 5 i = n ∧ wAt M 4 5 16 i a p

set_option maxRecDepth 20000 in
set_option maxHeartbeats 4000000 in
theorem ct_X2_takeWord (E : Ev) (t : Nat) (ht : t = 17 ∨ t = 24) (M : Mm) (s w : Int) (hs : 0 ≤ s ∧ s < 24) (hw : 0 ≤ w ∧ w < 960) (hp : 0 ≤ M (t + 2) w ∧ 0 ≤ M (t + 3) w ∧ M (t + 3) w ≤ 16 ∧ M (t + 2) w + M (t + 3) w ≤ 3000) (h3 : tW M 3 60 16) (h11 : tW M 11 10 6) (hK : KT M (t + 1)) (hT : M 31 8 < 960) : Ct E yX2_takeWord cX2_takeWord 10 none 2 [zr E 31, zr E t, zi s, zi w, zr E 3, zr E 11] M (pV (fun M' => (isStop M (t + 1) (M (t + 2) w) (M (t + 3) w) ∧ M' = M) ∨ (¬ isStop M (t + 1) (M (t + 2) w) (M (t + 3) w) ∧ ∃ lost z, lost ≤ 6 ∧ eLost M 12 13 6 (M 11 5) (t + 1) (M (t + 2) w) (M (t + 3) w) lost ∧ KT M' (t + 1) ∧ Sm M M' [31, 35, 36, 37, 38, 39] ∧ (0 ≤ z ∧ z < M' 31 8) ∧ isK M' (t + 1) z (M (t + 2) w) (M (t + 3) w - lost) ∧ (M 31 8 ≤ M' 31 8 ∧ M' 31 8 ≤ M 31 8 + 1) ∧ (∀ k, 0 ≤ k → k < M 31 8 → M' 36 k = M 36 k ∧ M' 37 k = M 37 k) ∧ ∀ s' k', 0 ≤ s' → s' < 24 → 0 ≤ k' → k' < 960 → (kb M' s' k' ↔ kb M s' k' ∨ (s' = s ∧ k' = z))))) := by
  refine Ct.of (own := RX2) (lv0 := [some (zr E 31), some (zr E t), some (zi s), some (zi w), some (zr E 3), some (zr E 11), none, none, none, none]) (by decide) rfl (Nat.le_of_ble_eq_true rfl) rfl (fun κ C => ?_)
  obtain ⟨l1, l2, l3, l4, l5, l6⟩ := lnT ht
  have ha : t + 1 = 18 ∨ t + 1 = 25 := by omega
  have hsr : t + 1 < NID ∧ kd (t + 1) = 20 := by rcases ht with rfl | rfl <;> decide
  obtain ⟨a0, a1, a5, aT⟩ := h3
  obtain ⟨b0, b1, b5, bT⟩ := h11
  refine s_aload_n C dX2_takeWord_0 rfl ?_
  refine s_getr (k := 1) (b := t + 2) C dX2_takeWord_1 fl_X2_61 (by rcases ht with rfl | rfl <;> decide) (by rcases ht with rfl | rfl <;> decide) (by decide) (by rcases ht with rfl | rfl <;> decide) ?_
  refine s_iload_n C dX2_takeWord_4 rfl ?_
  refine s_iaload C dX2_takeWord_5 (by rcases ht with rfl | rfl <;> decide) (by rcases ht with rfl | rfl <;> decide) rfl (by omega) (by omega) (by omega) (rfl) (fun r5 => ?_)
  refine s_istore (lv' := [_, _, _, _, _, _, _, _, _, _]) C dX2_takeWord_6 (by decide) rfl rfl ?_
  refine s_aload_n C dX2_takeWord_8 rfl ?_
  refine s_getr (k := 2) (b := t + 3) C dX2_takeWord_9 fl_X2_64 (by rcases ht with rfl | rfl <;> decide) (by rcases ht with rfl | rfl <;> decide) (by decide) (by rcases ht with rfl | rfl <;> decide) ?_
  refine s_iload_n C dX2_takeWord_12 rfl ?_
  refine s_iaload C dX2_takeWord_13 (by rcases ht with rfl | rfl <;> decide) (by rcases ht with rfl | rfl <;> decide) rfl (by omega) (by omega) (by omega) (rfl) (fun r13 => ?_)
  refine s_istore (lv' := [_, _, _, _, _, _, _, _, _, _]) C dX2_takeWord_14 (by decide) rfl rfl ?_
  refine s_aload C dX2_takeWord_16 rfl ?_
  refine s_aload_n C dX2_takeWord_18 rfl ?_
  refine s_getr (k := 0) (b := t + 1) C dX2_takeWord_19 fl_X2_58 (by rcases ht with rfl | rfl <;> decide) (by rcases ht with rfl | rfl <;> decide) (by decide) (by rcases ht with rfl | rfl <;> decide) ?_
  refine s_iload C dX2_takeWord_22 rfl ?_
  refine s_iload C dX2_takeWord_24 rfl ?_
  refine s_callV3 C dX2_takeWord_26 cy_X9_find cv_X9_find lk_X2_67 (ct_X9_find_3 E (t + 1) hsr M a0 a1 a5 aT (M (t + 2) w) (M (t + 3) w) (by omega) (by omega)) (by decide) (by decide) (by first | decide | (decide)) rfl (Nat.le_of_ble_eq_true rfl) (k_P (fun z26 q26 => ?_))
  have y26 : -1 ≤ z26 ∧ z26 < 60 := by rcases q26 with ⟨h, _⟩ | ⟨h1, h2, _⟩ <;> omega
  have hst : 0 ≤ z26 ↔ isStop M (t + 1) (M (t + 2) w) (M (t + 3) w) := by
    rcases q26 with ⟨h, hn⟩ | ⟨g1, g2, g3, _⟩
    · refine ⟨fun q => by omega, fun ⟨i, i1, i2, i3⟩ => absurd i3 (hn i i1 i2)⟩
    · exact ⟨fun _ => ⟨z26, g1, g2, g3⟩, fun _ => g1⟩
  clear q26
  refine s_if_ge (tgt := 91) C dX2_takeWord_29 (by decide) (by omega) (fun c29 => ?_) (fun c29 => ?_)
  · skip
    exact s_return C dX2_takeWord_91 (⟨rfl, by
      first
        | exact Or.inl ⟨hst.mp (by omega), rfl⟩
        | (refine Or.inr ⟨fun q => by have := hst.mpr q; omega, lost, z56, hlost6, hEl, ?_, ?_, ?_, ?_, ?_, ?_, ?_⟩
           · obtain ⟨k1, k2, k3, k4, k5, k6⟩ := o1
             unfold KT isK
             have na : t + 1 ≠ 35 := by omega
             simp (disch := first | decide | assumption) only [mput_ne]
             exact ⟨k1, k2, k3, k4, k5, k6⟩
           · exact (fun a h => by rw [mput_ne (fun q => h (by rw [q]; decide))]; exact o2 a (fun q => h (by simp only [List.mem_cons, List.not_mem_nil, or_false] at q ⊢; omega)))
           · rw [mput_ne (by decide)]; exact o3
           · unfold isK at *
             have na : t + 1 ≠ 35 := by omega
             simp (disch := first | decide | assumption) only [mput_ne]
             exact o4
           · rw [mput_ne (by decide)]; exact o5
           · intro k h0 h1
             rw [mput_ne (by decide), mput_ne (by decide)]
             exact o6 k h0 h1
           · intro s' k' g1 g2 g3 g4
             unfold kb
             rw [mput_at, e35]
             by_cases c : s' * 15 + k' / 64 = s * 15 + z56 / 64
             · have c1 : s' = s := by omega
               have c2 : k' / 64 = z56 / 64 := by omega
               rw [if_pos c, tbl_or (by omega) (by omega), c]
               constructor
               · rintro (h | h)
                 · exact Or.inl h
                 · exact Or.inr ⟨c1, by omega⟩
               · rintro (h | ⟨_, h⟩)
                 · exact Or.inl h
                 · exact Or.inr (by rw [h])
             · rw [if_neg c]
               constructor
               · exact fun h => Or.inl h
               · rintro (h | ⟨h1, h2⟩)
                 · exact h
                 · exact absurd (by rw [h1, h2]) c)⟩)
  · skip
    refine s_aload C dX2_takeWord_32 rfl ?_
    refine s_aload_n C dX2_takeWord_34 rfl ?_
    refine s_getr (k := 0) (b := t + 1) C dX2_takeWord_35 fl_X2_58 (by rcases ht with rfl | rfl <;> decide) (by rcases ht with rfl | rfl <;> decide) (by decide) (by rcases ht with rfl | rfl <;> decide) ?_
    refine s_iload C dX2_takeWord_38 rfl ?_
    refine s_iload C dX2_takeWord_40 rfl ?_
    refine s_callV3 C dX2_takeWord_42 cy_X9_lengthWithout cv_X9_lengthWithout lk_X2_87 (ct_X9_lengthWithout E (t + 1) hsr M b0 b1 b5 bT (M (t + 2) w) (M (t + 3) w) (by omega) (by omega)) (by decide) (by decide) (by first | decide | (decide)) rfl (Nat.le_of_ble_eq_true rfl) (k_P (fun z42 q42 => ?_))
    obtain ⟨lost, hz42, hlost6, hEl⟩ := q42
    subst hz42
    have hl0 : 0 ≤ lost ∧ lost ≤ M (t + 3) w := by
      obtain ⟨e1, e2, _⟩ := hEl
      rcases e2 with e2 | ⟨i, _, _, e3, e4, _⟩ <;> omega
    refine s_istore (lv' := [_, _, _, _, _, _, _, _, _, _]) C dX2_takeWord_45 (by decide) rfl rfl ?_
    refine s_aload_n C dX2_takeWord_47 rfl ?_
    refine s_aload_n C dX2_takeWord_48 rfl ?_
    refine s_getr (k := 0) (b := t + 1) C dX2_takeWord_49 fl_X2_58 (by rcases ht with rfl | rfl <;> decide) (by rcases ht with rfl | rfl <;> decide) (by decide) (by rcases ht with rfl | rfl <;> decide) ?_
    refine s_iload C dX2_takeWord_52 rfl ?_
    refine s_iload C dX2_takeWord_54 rfl ?_
    refine s_callV3 C dX2_takeWord_56 cy_X2_keyOf cv_X2_keyOf lk_X2_90 (ct_X2_keyOf E (t + 1) ha M (M (t + 2) w) (M (t + 3) w - lost) (by omega) hK hT) (by decide) (by decide) (by first | decide | (decide)) rfl (Nat.le_of_ble_eq_true rfl) (k_I (fun z56 M56 q56 => ?_))
    obtain ⟨o1, o2, o3, o4, o5, o6⟩ := q56
    have e35 : M56 35 = M 35 := o2 35 (by decide)
    have o8 := o1.1
    have hd1 : z56 / 64 * 64 ≤ z56 ∧ z56 < z56 / 64 * 64 + 64 := by omega
    refine s_istore (lv' := [_, _, _, _, _, _, _, _, _, _]) C dX2_takeWord_59 (by decide) rfl rfl ?_
    refine s_iload C dX2_takeWord_61 rfl ?_
    refine s_if_lt (tgt := 91) C dX2_takeWord_63 (by decide) (by omega) (fun c63 => ?_) (fun c63 => ?_)
    · skip
      omega
    · skip
      refine s_aload_n C dX2_takeWord_66 rfl ?_
      refine s_getr (k := 3) (b := 35) C dX2_takeWord_67 fl_X2_21 (by decide) rfl (by decide) rfl ?_
      refine s_iload_n C dX2_takeWord_70 rfl ?_
      refine s_bipush C dX2_takeWord_71 (by decide) ?_
      refine s_imul C dX2_takeWord_73 ?_
      refine s_iload C dX2_takeWord_74 rfl ?_
      refine s_bipush C dX2_takeWord_76 (by decide) ?_
      refine s_idiv C dX2_takeWord_78 (by decide) ?_
      rw [zdiv_n (by omega) (by decide)]
      refine s_iadd C dX2_takeWord_79 ?_
      refine s_dup2 C dX2_takeWord_80 rfl rfl ?_
      refine s_laload (n := 360) (z := M 35 (s * 15 + z56 / 64)) C dX2_takeWord_81 (by decide) rfl rfl (by omega) (by omega) (by omega) (by rw [e35]) (fun r81 => ?_)
      refine s_lconst (z := 1) C dX2_takeWord_82 rfl ?_
      refine s_iload C dX2_takeWord_83 rfl ?_
      refine s_bipush C dX2_takeWord_85 (by decide) ?_
      refine s_irem C dX2_takeWord_87 (by decide) ?_
      rw [zrem_n (by omega) (by decide)]
      refine s_lshl C dX2_takeWord_88 ?_
      refine s_lor C dX2_takeWord_89 ?_
      refine s_lastore (n := 360) C dX2_takeWord_90 (by decide) rfl rfl (by omega) (by omega) (by omega) (rgl_toInt _) ?_
      exact s_return C dX2_takeWord_91 (⟨rfl, by
      first
        | exact Or.inl ⟨hst.mp (by omega), rfl⟩
        | (refine Or.inr ⟨fun q => by have := hst.mpr q; omega, lost, z56, hlost6, hEl, ?_, ?_, ?_, ?_, ?_, ?_, ?_⟩
           · obtain ⟨k1, k2, k3, k4, k5, k6⟩ := o1
             unfold KT isK
             have na : t + 1 ≠ 35 := by omega
             simp (disch := first | decide | assumption) only [mput_ne]
             exact ⟨k1, k2, k3, k4, k5, k6⟩
           · exact (fun a h => by rw [mput_ne (fun q => h (by rw [q]; decide))]; exact o2 a (fun q => h (by simp only [List.mem_cons, List.not_mem_nil, or_false] at q ⊢; omega)))
           · rw [mput_ne (by decide)]; exact o3
           · unfold isK at *
             have na : t + 1 ≠ 35 := by omega
             simp (disch := first | decide | assumption) only [mput_ne]
             exact o4
           · rw [mput_ne (by decide)]; exact o5
           · intro k h0 h1
             rw [mput_ne (by decide), mput_ne (by decide)]
             exact o6 k h0 h1
           · intro s' k' g1 g2 g3 g4
             unfold kb
             rw [mput_at, e35]
             by_cases c : s' * 15 + k' / 64 = s * 15 + z56 / 64
             · have c1 : s' = s := by omega
               have c2 : k' / 64 = z56 / 64 := by omega
               rw [if_pos c, tbl_or (by omega) (by omega), c]
               constructor
               · rintro (h | h)
                 · exact Or.inl h
                 · exact Or.inr ⟨c1, by omega⟩
               · rintro (h | ⟨_, h⟩)
                 · exact Or.inl h
                 · exact Or.inr (by rw [h])
             · rw [if_neg c]
               constructor
               · exact fun h => Or.inl h
               · rintro (h | ⟨h1, h2⟩)
                 · exact h
                 · exact absurd (by rw [h1, h2]) c)⟩)

set_option maxRecDepth 20000 in
set_option maxHeartbeats 4000000 in
theorem ct_X2_compare (E : Ev) (M : Mm) (n : Int) (hn : 0 ≤ n ∧ n ≤ 24) (h8 : 0 ≤ M 31 8 ∧ M 31 8 ≤ 960) : Ct E yX2_compare cX2_compare 7 none 1 [zr E 31, zi n] M (pV (fun M' => Sm M M' [33, 34] ∧ (∀ a b, 0 ≤ b → b ≤ a → a < n → M' 34 (a * 24 + b) = shL M a b ((M 31 8 + 63) / 64).toNat ∧ M' 34 (b * 24 + a) = shL M a b ((M 31 8 + 63) / 64).toNat) ∧ ∀ a, 0 ≤ a → a < n → M' 33 a = shL M a a ((M 31 8 + 63) / 64).toNat)) := by
  refine Ct.of (own := RX2) (lv0 := [some (zr E 31), some (zi n), none, none, none, none, none]) (by decide) rfl (Nat.le_of_ble_eq_true rfl) rfl (fun κ C => ?_)
  have hu : 0 ≤ ((M 31 8 + 63) / 64) ∧ ((M 31 8 + 63) / 64) ≤ 15 := by omega
  have L7 : ∀ (n9 : Nat) (A : Mm) (i : Int) (u4 u5 u6 : Option Value) (hi : 0 ≤ i ∧ i ≤ n) (hSm : Sm M A [33, 34]) (hd : ∀ a b, 0 ≤ b → b ≤ a → a < i → A 34 (a * 24 + b) = shL M a b ((M 31 8 + 63) / 64).toNat ∧ A 34 (b * 24 + a) = shL M a b ((M 31 8 + 63) / 64).toNat) (hkc : ∀ a, 0 ≤ a → a < i → A 33 a = shL M a a ((M 31 8 + 63) / 64).toNat) (hm : (n - i).toNat < n9), Gm E κ (pV (fun M' => Sm M M' [33, 34] ∧ (∀ a b, 0 ≤ b → b ≤ a → a < n → M' 34 (a * 24 + b) = shL M a b ((M 31 8 + 63) / 64).toNat ∧ M' 34 (b * 24 + a) = shL M a b ((M 31 8 + 63) / 64).toNat) ∧ ∀ a, 0 ≤ a → a < n → M' 33 a = shL M a a ((M 31 8 + 63) / 64).toNat)) 7 7 [some (zr E 31), some (zi n), some (zi ((M 31 8 + 63) / 64)), some (zi i), u4, u5, u6] [] A := by
    intro n9
    induction n9 with
    | zero => intro A i u4 u5 u6 hi hSm hd hkc hm; exact absurd hm (Nat.not_lt_zero _)
    | succ n9 ih7 =>
      intro A i u4 u5 u6 hi hSm hd hkc hm
      have L15 : ∀ (n9 : Nat) (B : Mm) (j : Int) (u5 u6 : Option Value) (hj : 0 ≤ j ∧ j ≤ i + 1) (hin : i < n) (hSmB : Sm M B [33, 34]) (h33 : B 33 = A 33) (hdB : ∀ a b, 0 ≤ b → b ≤ a → a < i → B 34 (a * 24 + b) = shL M a b ((M 31 8 + 63) / 64).toNat ∧ B 34 (b * 24 + a) = shL M a b ((M 31 8 + 63) / 64).toNat) (hnB : ∀ b, 0 ≤ b → b < j → B 34 (i * 24 + b) = shL M i b ((M 31 8 + 63) / 64).toNat ∧ B 34 (b * 24 + i) = shL M i b ((M 31 8 + 63) / 64).toNat) (hm : (i + 1 - j).toNat < n9), Gm E κ (pV (fun M' => Sm M M' [33, 34] ∧ (∀ a b, 0 ≤ b → b ≤ a → a < n → M' 34 (a * 24 + b) = shL M a b ((M 31 8 + 63) / 64).toNat ∧ M' 34 (b * 24 + a) = shL M a b ((M 31 8 + 63) / 64).toNat) ∧ ∀ a, 0 ≤ a → a < n → M' 33 a = shL M a a ((M 31 8 + 63) / 64).toNat)) 7 15 [some (zr E 31), some (zi n), some (zi ((M 31 8 + 63) / 64)), some (zi i), some (zi j), u5, u6] [] B := by
        intro n9
        induction n9 with
        | zero => intro B j u5 u6 hj hin hSmB h33 hdB hnB hm; exact absurd hm (Nat.not_lt_zero _)
        | succ n9 ih15 =>
          intro B j u5 u6 hj hin hSmB h33 hdB hnB hm
          have e35 : B 35 = M 35 := hSmB 35 (by decide)
          have L27 : ∀ (n9 : Nat) (k : Nat) (kk sum : Int) (hkk : kk = (k : Int)) (hk : (k : Int) ≤ ((M 31 8 + 63) / 64)) (hsum : sum = shL M i j k) (hji : j ≤ i) (hm : (((M 31 8 + 63) / 64) - kk).toNat < n9), Gm E κ (pV (fun M' => Sm M M' [33, 34] ∧ (∀ a b, 0 ≤ b → b ≤ a → a < n → M' 34 (a * 24 + b) = shL M a b ((M 31 8 + 63) / 64).toNat ∧ M' 34 (b * 24 + a) = shL M a b ((M 31 8 + 63) / 64).toNat) ∧ ∀ a, 0 ≤ a → a < n → M' 33 a = shL M a a ((M 31 8 + 63) / 64).toNat)) 7 27 [some (zr E 31), some (zi n), some (zi ((M 31 8 + 63) / 64)), some (zi i), some (zi j), some (zi sum), some (zi kk)] [] B := by
            intro n9
            induction n9 with
            | zero => intro k kk sum  hkk hk hsum hji hm; exact absurd hm (Nat.not_lt_zero _)
            | succ n9 ih27 =>
              intro k kk sum  hkk hk hsum hji hm
              have hsl := shL_le M i j k
              refine s_iload C dX2_compare_27 rfl ?_
              refine s_iload_n C dX2_compare_29 rfl ?_
              refine s_icmp_ge (tgt := 73) C dX2_compare_30 (by decide) (by omega) (by omega) (fun c30 => ?_) (fun c30 => ?_)
              · skip
                refine s_aload_n C dX2_compare_73 rfl ?_
                refine s_getr (k := 2) (b := 34) C dX2_compare_74 fl_X2_18 (by decide) rfl (by decide) rfl ?_
                refine s_iload_n C dX2_compare_77 rfl ?_
                refine s_bipush C dX2_compare_78 (by decide) ?_
                refine s_imul C dX2_compare_80 ?_
                refine s_iload C dX2_compare_81 rfl ?_
                refine s_iadd C dX2_compare_83 ?_
                refine s_iload C dX2_compare_84 rfl ?_
                refine s_iastore (n := 576) C dX2_compare_86 (by decide) rfl rfl (by omega) (by omega) (by omega) (by omega) ?_
                refine s_aload_n C dX2_compare_87 rfl ?_
                refine s_getr (k := 2) (b := 34) C dX2_compare_88 fl_X2_18 (by decide) rfl (by decide) rfl ?_
                refine s_iload C dX2_compare_91 rfl ?_
                refine s_bipush C dX2_compare_93 (by decide) ?_
                refine s_imul C dX2_compare_95 ?_
                refine s_iload_n C dX2_compare_96 rfl ?_
                refine s_iadd C dX2_compare_97 ?_
                refine s_iload C dX2_compare_98 rfl ?_
                refine s_iastore (n := 576) C dX2_compare_100 (by decide) rfl rfl (by omega) (by omega) (by omega) (by omega) ?_
                refine s_iinc (lv' := [_, _, _, _, _, _, _]) C dX2_compare_101 rfl (by decide) rfl rfl rfl ?_
                refine s_goto (tgt := 15) C dX2_compare_104 (by decide) ?_
                have ek : k = ((M 31 8 + 63) / 64).toNat := by omega
                rw [ek] at hsum
                refine ih15 _ _ _ _ (by omega) hin ((hSmB.put (by decide)).put (by decide)) (by rw [mput_ne (by decide), mput_ne (by decide)]; exact h33) ?_ ?_ (by omega)
                · intro a b h1 h2 h3
                  have := hdB a b h1 h2 h3
                  rw [mput_nk (by omega), mput_nk (by omega), mput_nk (by omega), mput_nk (by omega)]
                  exact this
                · intro b h1 h2
                  rw [mput_at, mput_at, mput_at, mput_at]
                  by_cases c : b = j
                  · subst c
                    rw [hsum]
                    refine ⟨?_, by rw [if_pos rfl]⟩
                    split
                    · rfl
                    · rw [if_pos rfl]
                  · have := hnB b h1 (by omega)
                    rw [if_neg (by omega), if_neg (by omega), if_neg (by omega), if_neg (by omega)]
                    exact this
              · skip
                refine s_iload C dX2_compare_33 rfl ?_
                refine s_aload_n C dX2_compare_35 rfl ?_
                refine s_getr (k := 3) (b := 35) C dX2_compare_36 fl_X2_21 (by decide) rfl (by decide) rfl ?_
                refine s_iload_n C dX2_compare_39 rfl ?_
                refine s_bipush C dX2_compare_40 (by decide) ?_
                refine s_imul C dX2_compare_42 ?_
                refine s_iload C dX2_compare_43 rfl ?_
                refine s_iadd C dX2_compare_45 ?_
                refine s_laload (n := 360) (z := M 35 (i * 15 + kk)) C dX2_compare_46 (by decide) rfl rfl (by omega) (by omega) (by omega) (by rw [e35]) (fun r46 => ?_)
                refine s_aload_n C dX2_compare_47 rfl ?_
                refine s_getr (k := 3) (b := 35) C dX2_compare_48 fl_X2_21 (by decide) rfl (by decide) rfl ?_
                refine s_iload C dX2_compare_51 rfl ?_
                refine s_bipush C dX2_compare_53 (by decide) ?_
                refine s_imul C dX2_compare_55 ?_
                refine s_iload C dX2_compare_56 rfl ?_
                refine s_iadd C dX2_compare_58 ?_
                refine s_laload (n := 360) (z := M 35 (j * 15 + kk)) C dX2_compare_59 (by decide) rfl rfl (by omega) (by omega) (by omega) (by rw [e35]) (fun r59 => ?_)
                refine s_land C dX2_compare_60 ?_
                refine s_callS1 C dX2_compare_61 cy_J13_bitCount_95d88 cs_J13_bitCount_95d88 lk_X2_105 (ct_J13_bitCount_95d88 E B (zland (M 35 (i * 15 + kk)) (M 35 (j * 15 + kk)))) (by decide) (Nat.le_of_ble_eq_true rfl) (k_P (fun z61 q61 => ?_))
                subst q61
                refine s_iadd C dX2_compare_64 ?_
                refine s_istore (lv' := [_, _, _, _, _, _, _]) C dX2_compare_65 (by decide) rfl rfl ?_
                refine s_iinc (lv' := [_, _, _, _, _, _, _]) C dX2_compare_67 rfl (by decide) rfl rfl rfl ?_
                refine s_goto (tgt := 27) C dX2_compare_70 (by decide) ?_
                exact ih27 (k + 1) _ _ (by omega) (by omega) (by rw [hsum, hkk]; unfold shL; rw [sumI]) hji (by omega)
          refine s_iload C dX2_compare_15 rfl ?_
          refine s_iload_n C dX2_compare_17 rfl ?_
          refine s_icmp_gt (tgt := 107) C dX2_compare_18 (by decide) (by omega) (by omega) (fun c18 => ?_) (fun c18 => ?_)
          · skip
            refine s_aload_n C dX2_compare_107 rfl ?_
            refine s_getr (k := 1) (b := 33) C dX2_compare_108 fl_X2_15 (by decide) rfl (by decide) rfl ?_
            refine s_iload_n C dX2_compare_111 rfl ?_
            refine s_aload_n C dX2_compare_112 rfl ?_
            refine s_getr (k := 2) (b := 34) C dX2_compare_113 fl_X2_18 (by decide) rfl (by decide) rfl ?_
            refine s_iload_n C dX2_compare_116 rfl ?_
            refine s_bipush C dX2_compare_117 (by decide) ?_
            refine s_imul C dX2_compare_119 ?_
            refine s_iload_n C dX2_compare_120 rfl ?_
            refine s_iadd C dX2_compare_121 ?_
            refine s_iaload (n := 576) (z := shL M i i ((M 31 8 + 63) / 64).toNat) C dX2_compare_122 (by decide) rfl rfl (by omega) (by omega) (by omega) ((hnB i (by omega) (by omega)).1) (fun r122 => ?_)
            have hsl := shL_le M i i ((M 31 8 + 63) / 64).toNat
            refine s_iastore (n := 24) C dX2_compare_123 (by decide) rfl rfl (by omega) (by omega) (by omega) (by omega) ?_
            refine s_iinc (lv' := [_, _, _, _, _, _, _]) C dX2_compare_124 rfl (by decide) rfl rfl rfl ?_
            refine s_goto (tgt := 7) C dX2_compare_127 (by decide) ?_
            refine ih7 _ _ _ _ _ (by omega) (hSmB.put (by decide)) ?_ ?_ (by omega)
            · intro a b h1 h2 h3
              rw [mput_ne (by decide)]
              by_cases c : a = i
              · rw [c]; exact hnB b h1 (by omega)
              · exact hdB a b h1 h2 (by omega)
            · intro a h1 h2
              rw [mput_at]
              by_cases c : a = i
              · rw [if_pos c, c]
              · rw [if_neg c, h33]; exact hkc a h1 (by omega)
          · skip
            refine s_iconst C dX2_compare_21 ?_
            refine s_istore (lv' := [_, _, _, _, _, _, _]) C dX2_compare_22 (by decide) rfl rfl ?_
            refine s_iconst C dX2_compare_24 ?_
            refine s_istore (lv' := [_, _, _, _, _, _, _]) C dX2_compare_25 (by decide) rfl rfl ?_
            exact L27 _ 0 _ _ rfl (by omega) rfl (by omega) (Nat.lt_succ_self _)
      refine s_iload_n C dX2_compare_7 rfl ?_
      refine s_iload_n C dX2_compare_8 rfl ?_
      refine s_icmp_ge (tgt := 130) C dX2_compare_9 (by decide) (by omega) (by omega) (fun c9 => ?_) (fun c9 => ?_)
      · skip
        exact s_return C dX2_compare_130 (⟨rfl, ⟨hSm, fun a b h1 h2 h3 => hd a b h1 h2 (by omega), fun a h1 h2 => hkc a h1 (by omega)⟩⟩)
      · skip
        refine s_iconst C dX2_compare_12 ?_
        refine s_istore (lv' := [_, _, _, _, _, _, _]) C dX2_compare_13 (by decide) rfl rfl ?_
        exact L15 _ _ _ _ _ (by first | assumption | omega) (by first | assumption | omega) (hSm) (rfl) (hd) (fun b h1 h2 => by omega) (Nat.lt_succ_self _)
  refine s_aload_n C dX2_compare_0 rfl ?_
  refine s_callV0 C dX2_compare_1 cy_X2_longsUsed cv_X2_longsUsed lk_X2_101 (ct_X2_longsUsed E M h8) (by decide) (by decide) (by first | decide | (decide)) rfl (Nat.le_of_ble_eq_true rfl) (k_P (fun z1 q1 => ?_))
  subst q1
  refine s_istore_n (lv' := [_, _, _, _, _, _, _]) C dX2_compare_4 (by decide) rfl rfl ?_
  refine s_iconst C dX2_compare_5 ?_
  refine s_istore_n (lv' := [_, _, _, _, _, _, _]) C dX2_compare_6 (by decide) rfl rfl ?_
  exact L7 _ _ _ _ _ _ (by first | assumption | omega) (Sm.rf M _) (fun a b h1 h2 h3 => by omega) (fun a h1 h2 => by omega) (Nat.lt_succ_self _)

set_option maxRecDepth 20000 in
set_option maxHeartbeats 4000000 in
theorem ct_X2_isStale (E : Ev) (M : Mm) (p : Int) (hp : 0 ≤ p ∧ p < 24) (h41 : ∀ e, 0 ≤ e → e ≤ p → 0 ≤ M 41 e ∧ M 41 e < 24) (h8 : 0 ≤ M 31 8 ∧ M 31 8 ≤ 960) : Ct E yX2_isStale cX2_isStale 9 (some .boolean) 1 [zr E 31, zi p, zr E 41] M (pP M (fun z => Bz z (0 < M 33 (M 41 p) ∧ ∀ k, 0 ≤ k → k < ((M 31 8 + 63) / 64) → ∀ b, 0 ≤ b → b < 64 → tbl (M 35 (M 41 p * 15 + k)) b → ∃ e, 0 ≤ e ∧ e < p ∧ tbl (M 35 (M 41 e * 15 + k)) b))) := by
  refine Ct.of (own := RX2) (lv0 := [some (zr E 31), some (zi p), some (zr E 41), none, none, none, none, none, none]) (by decide) rfl (Nat.le_of_ble_eq_true rfl) rfl (fun κ C => ?_)
  have hu : 0 ≤ ((M 31 8 + 63) / 64) ∧ ((M 31 8 + 63) / 64) ≤ 15 := by omega
  have hid := h41 p hp.1 (by omega)
  have L13 : ∀ (n9 : Nat) (k : Int) (u6 u7 u8 : Option Value) (hk : 0 ≤ k ∧ k ≤ ((M 31 8 + 63) / 64)) (hall : ∀ q, 0 ≤ q → q < k → ∀ b, 0 ≤ b → b < 64 → tbl (M 35 (M 41 p * 15 + q)) b → ∃ e, 0 ≤ e ∧ e < p ∧ tbl (M 35 (M 41 e * 15 + q)) b) (hm : (((M 31 8 + 63) / 64) - k).toNat < n9), Gm E κ (pP M (fun z => Bz z (0 < M 33 (M 41 p) ∧ ∀ k, 0 ≤ k → k < ((M 31 8 + 63) / 64) → ∀ b, 0 ≤ b → b < 64 → tbl (M 35 (M 41 p * 15 + k)) b → ∃ e, 0 ≤ e ∧ e < p ∧ tbl (M 35 (M 41 e * 15 + k)) b))) 9 13 [some (zr E 31), some (zi p), some (zr E 41), some (zi (M 41 p)), some (zi ((M 31 8 + 63) / 64)), some (zi k), u6, u7, u8] [] M := by
    intro n9
    induction n9 with
    | zero => intro k u6 u7 u8 hk hall hm; exact absurd hm (Nat.not_lt_zero _)
    | succ n9 ih13 =>
      intro k u6 u7 u8 hk hall hm
      have L37 : ∀ (n9 : Nat) (fr e : Int) (hklt : k < ((M 31 8 + 63) / 64)) (hfr : rgl fr) (he : 0 ≤ e ∧ e ≤ p) (hb : ∀ b, 0 ≤ b → b < 64 → (tbl fr b ↔ tbl (M 35 (M 41 p * 15 + k)) b ∧ ∀ q, 0 ≤ q → q < e → ¬ tbl (M 35 (M 41 q * 15 + k)) b)) (hm : (p - e).toNat < n9), Gm E κ (pP M (fun z => Bz z (0 < M 33 (M 41 p) ∧ ∀ k, 0 ≤ k → k < ((M 31 8 + 63) / 64) → ∀ b, 0 ≤ b → b < 64 → tbl (M 35 (M 41 p * 15 + k)) b → ∃ e, 0 ≤ e ∧ e < p ∧ tbl (M 35 (M 41 e * 15 + k)) b))) 9 37 [some (zr E 31), some (zi p), some (zr E 41), some (zi (M 41 p)), some (zi ((M 31 8 + 63) / 64)), some (zi k), some (zl fr), none, some (zi e)] [] M := by
        intro n9
        induction n9 with
        | zero => intro fr e  hklt hfr he hb hm; exact absurd hm (Nat.not_lt_zero _)
        | succ n9 ih37 =>
          intro fr e  hklt hfr he hb hm
          refine s_iload C dX2_isStale_37 rfl ?_
          refine s_iload_n C dX2_isStale_39 rfl ?_
          refine s_icmp_ge (tgt := 73) C dX2_isStale_40 (by decide) (by omega) (by omega) (fun c40 => ?_) (fun c40 => ?_)
          · skip
            refine s_lload C dX2_isStale_73 rfl ?_
            refine s_lconst (z := 0) C dX2_isStale_75 rfl ?_
            skip
            refine s_lcmp C dX2_isStale_76 (by omega) (by omega) ?_
            have k76 := cmpI_spec fr 0
            have hz := tbl_zero hfr
            refine s_if_eq (tgt := 82) C dX2_isStale_77 (by decide) (by omega) (fun c77 => ?_) (fun c77 => ?_)
            · skip
              refine s_iinc (lv' := [_, _, _, _, _, _, _, _, _]) C dX2_isStale_82 rfl (by decide) rfl rfl rfl ?_
              refine s_goto (tgt := 13) C dX2_isStale_85 (by decide) ?_
              exact ih13 _ _ _ _ (by first | assumption | omega) (fun q h1 h2 b b1 b2 hq => by
          by_cases c : q = k
          · subst c
            have hf0 : fr = 0 := k76.1.mp c77
            have hnb := hz.mp hf0 b b1 b2
            rw [hb b b1 b2] at hnb
            apply Classical.byContradiction
            intro hne
            exact hnb ⟨hq, fun e' e1 e2 e3 => hne ⟨e', e1, by omega, e3⟩⟩
          · exact hall q h1 (by omega) b b1 b2 hq) (by omega)
            · skip
              refine s_iconst C dX2_isStale_80 ?_
              exact s_zreturn C dX2_isStale_81 (by decide) (⟨_, rfl, rfl, Bz.f (fun q => by
          apply c77
          rw [k76.1, hz]
          intro b h1 h2 h3
          obtain ⟨g1, g2⟩ := (hb b h1 h2).mp h3
          obtain ⟨e', e1, e2, e3⟩ := q.2 k hk.1 hklt b h1 h2 g1
          exact g2 e' e1 (by omega) e3)⟩)
          · skip
            refine s_lload C dX2_isStale_43 rfl ?_
            refine s_aload_n C dX2_isStale_45 rfl ?_
            refine s_getr (k := 3) (b := 35) C dX2_isStale_46 fl_X2_21 (by decide) rfl (by decide) rfl ?_
            refine s_aload_n C dX2_isStale_49 rfl ?_
            refine s_iload C dX2_isStale_50 rfl ?_
            have h4e := h41 e he.1 (by omega)
            refine s_iaload (n := 24) C dX2_isStale_52 (by decide) rfl rfl (by omega) (by omega) (by omega) (rfl) (fun r52 => ?_)
            refine s_bipush C dX2_isStale_53 (by decide) ?_
            refine s_imul C dX2_isStale_55 ?_
            refine s_iload C dX2_isStale_56 rfl ?_
            refine s_iadd C dX2_isStale_58 ?_
            refine s_laload (n := 360) C dX2_isStale_59 (by decide) rfl rfl (by omega) (by omega) (by omega) (rfl) (fun r59 => ?_)
            refine s_ldc2 C dX2_isStale_60 kc_X2_111 ?_
            refine s_lxor C dX2_isStale_63 ?_
            refine s_land C dX2_isStale_64 ?_
            refine s_lstore (lv' := [_, _, _, _, _, _, _, _, _]) C dX2_isStale_65 (by decide) rfl rfl ?_
            refine s_iinc (lv' := [_, _, _, _, _, _, _, _, _]) C dX2_isStale_67 rfl (by decide) rfl rfl rfl ?_
            refine s_goto (tgt := 37) C dX2_isStale_70 (by decide) ?_
            exact ih37 _ _  (by first | assumption | omega) (rgl_toInt _) (by first | assumption | omega) (fun b h1 h2 => by
          rw [tbl_and, tbl_not ⟨h1, h2⟩, hb b h1 h2]
          constructor
          · rintro ⟨⟨g1, g2⟩, g3⟩
            refine ⟨g1, fun q q1 q2 => ?_⟩
            by_cases c : q = e
            · rw [c]; exact g3
            · exact g2 q q1 (by omega)
          · rintro ⟨g1, g2⟩
            exact ⟨⟨g1, fun q q1 q2 => g2 q q1 (by omega)⟩, g2 e he.1 (by omega)⟩) (by omega)
      refine s_iload C dX2_isStale_13 rfl ?_
      refine s_iload C dX2_isStale_15 rfl ?_
      refine s_icmp_ge (tgt := 88) C dX2_isStale_17 (by decide) (by omega) (by omega) (fun c17 => ?_) (fun c17 => ?_)
      · skip
        refine s_aload_n C dX2_isStale_88 rfl ?_
        refine s_getr (k := 1) (b := 33) C dX2_isStale_89 fl_X2_15 (by decide) rfl (by decide) rfl ?_
        refine s_iload_n C dX2_isStale_92 rfl ?_
        refine s_iaload (n := 24) C dX2_isStale_93 (by decide) rfl rfl (by omega) (by omega) (by omega) (rfl) (fun r93 => ?_)
        refine s_if_le (tgt := 101) C dX2_isStale_94 (by decide) (by omega) (fun c94 => ?_) (fun c94 => ?_)
        · skip
          refine s_iconst C dX2_isStale_101 ?_
          exact s_zreturn C dX2_isStale_102 (by decide) (⟨_, rfl, rfl, by first | exact Bz.t ⟨by omega, fun q h1 h2 => hall q h1 (by omega)⟩ | exact Bz.f (fun q => by have := q.1; omega)⟩)
        · skip
          refine s_iconst C dX2_isStale_97 ?_
          refine s_goto (tgt := 102) C dX2_isStale_98 (by decide) ?_
          exact s_zreturn C dX2_isStale_102 (by decide) (⟨_, rfl, rfl, by first | exact Bz.t ⟨by omega, fun q h1 h2 => hall q h1 (by omega)⟩ | exact Bz.f (fun q => by have := q.1; omega)⟩)
      · skip
        refine s_aload_n C dX2_isStale_20 rfl ?_
        refine s_getr (k := 3) (b := 35) C dX2_isStale_21 fl_X2_21 (by decide) rfl (by decide) rfl ?_
        refine s_iload_n C dX2_isStale_24 rfl ?_
        refine s_bipush C dX2_isStale_25 (by decide) ?_
        refine s_imul C dX2_isStale_27 ?_
        refine s_iload C dX2_isStale_28 rfl ?_
        refine s_iadd C dX2_isStale_30 ?_
        refine s_laload (n := 360) C dX2_isStale_31 (by decide) rfl rfl (by omega) (by omega) (by omega) (rfl) (fun r31 => ?_)
        refine s_lstore (lv' := [_, _, _, _, _, _, _, _, _]) C dX2_isStale_32 (by decide) rfl rfl ?_
        refine s_iconst C dX2_isStale_34 ?_
        refine s_istore (lv' := [_, _, _, _, _, _, _, _, _]) C dX2_isStale_35 (by decide) rfl rfl ?_
        exact L37 _ _ _  (by first | assumption | omega) (r31) (by first | assumption | omega) (fun b h1 h2 => ⟨fun h => ⟨h, fun q g1 g2 => by omega⟩, fun h => h.1⟩) (Nat.lt_succ_self _)
  refine s_aload_n C dX2_isStale_0 rfl ?_
  refine s_iload_n C dX2_isStale_1 rfl ?_
  refine s_iaload (n := 24) C dX2_isStale_2 (by decide) rfl rfl (by omega) (by omega) (by omega) (rfl) (fun r2 => ?_)
  refine s_istore_n (lv' := [_, _, _, _, _, _, _, _, _]) C dX2_isStale_3 (by decide) rfl rfl ?_
  refine s_aload_n C dX2_isStale_4 rfl ?_
  refine s_callV0 C dX2_isStale_5 cy_X2_longsUsed cv_X2_longsUsed lk_X2_101 (ct_X2_longsUsed E M h8) (by decide) (by decide) (by first | decide | (decide)) rfl (Nat.le_of_ble_eq_true rfl) (k_P (fun z5 q5 => ?_))
  subst q5
  refine s_istore (lv' := [_, _, _, _, _, _, _, _, _]) C dX2_isStale_8 (by decide) rfl rfl ?_
  refine s_iconst C dX2_isStale_10 ?_
  refine s_istore (lv' := [_, _, _, _, _, _, _, _, _]) C dX2_isStale_11 (by decide) rfl rfl ?_
  exact L13 _ _ _ _ _ (by first | assumption | omega) (fun q h1 h2 => by omega) (Nat.lt_succ_self _)
