/-- places: which sentence of the text stands where, each once -/
def plOk (M : Mm) (n : Int) : Prop := M 40 2 = n ∧ (∀ i, 0 ≤ i → i < n → 0 ≤ M 41 i ∧ M 41 i < n) ∧ ∀ i j, 0 ≤ i → i < n → 0 ≤ j → j < n → M 41 i = M 41 j → i = j
def prOk (M : Mm) (n : Int) : Prop := (0 ≤ M 55 2 ∧ M 55 2 ≤ 20) ∧ ∀ p, 0 ≤ p → p < M 55 2 → (0 ≤ M 56 p ∧ M 56 p < n) ∧ (0 ≤ M 57 p ∧ M 57 p < n)

set_option maxRecDepth 20000 in
set_option maxHeartbeats 4000000 in
theorem ct_X10_word (E : Ev) (e : Nat) (he : e = 17 ∨ e = 24) (M : Mm) (h06 : M 0 6 = (e : Int)) (hX : txOk M e) (hP : plOk M (M e 7)) (i k j : Int) (hi : rg i) (hk : rg k) (hj : rg j) : Ct E yX10_word cX10_word 6 (some .int) 1 [zr E 0, zi i, zi k, zi j] M (pP M (fun z => z = if 0 ≤ i ∧ i < M e 7 ∧ 0 ≤ k ∧ k < M (e + 5) (M 41 i) ∧ 0 ≤ j ∧ j < wL M e (M 41 i) k then M (e + 1) (wS M e (M 41 i) k + j) else -1)) := by
  refine Ct.of (own := RX10) (lv0 := [some (zr E 0), some (zi i), some (zi k), some (zi j), none, none]) (by decide) rfl (Nat.le_of_ble_eq_true rfl) rfl (fun κ C => ?_)
  obtain ⟨l1, l2, l3, l4, l5, l6⟩ := lnT he
  obtain ⟨hn, hXs⟩ := hX
  refine s_aload_n C dX10_word_0 rfl ?_
  refine s_iload_n C dX10_word_1 rfl ?_
  refine s_callV1 C dX10_word_2 cy_X10_isNoSentence cv_X10_isNoSentence lk_X10_159 (ct_X10_isNoSentence E e he M h06 i hi) (by decide) (by decide) (by first | decide | (decide)) rfl (Nat.le_of_ble_eq_true rfl) (k_P (fun z2 q2 => ?_))
  refine s_if_eq (tgt := 10) C dX10_word_5 (by decide) (by rcases q2 with q | q <;> omega) (fun c5 => ?_) (fun c5 => ?_)
  · skip
    have hir : 0 ≤ i ∧ i < M e 7 := by rcases q2 with ⟨g, _⟩ | ⟨_, g⟩ <;> omega
    clear q2
    have hp := hP.2.1 i hir.1 hir.2
    have hx := hXs (M 41 i) hp.1 hp.2
    refine s_aload_n C dX10_word_10 rfl ?_
    refine s_getr (k := 9) (b := 40) C dX10_word_11 fl_X10_62 (by decide) rfl (by decide) rfl ?_
    refine s_getr (k := 0) (b := 41) C dX10_word_14 fl_X10_166 (by decide) rfl (by decide) rfl ?_
    refine s_iload_n C dX10_word_17 rfl ?_
    refine s_iaload (n := 24) C dX10_word_18 (by decide) rfl rfl (by omega) (by omega) (by omega) (rfl) (fun r18 => ?_)
    refine s_istore (lv' := [_, _, _, _, _, _]) C dX10_word_19 (by decide) rfl rfl ?_
    refine s_iload_n C dX10_word_21 rfl ?_
    refine s_if_lt (tgt := 39) C dX10_word_22 (by decide) (by omega) (fun c22 => ?_) (fun c22 => ?_)
    · skip
      refine s_iconst C dX10_word_39 ?_
      exact s_ireturn C dX10_word_40 (⟨_, rfl, rfl, by rw [if_neg (fun q => by omega)]⟩)
    · skip
      refine s_iload_n C dX10_word_25 rfl ?_
      refine s_aload_n C dX10_word_26 rfl ?_
      refine s_getd (k := 6) (j := 6) (b := e) C dX10_word_27 fl_X10_45 (by decide) rfl (by decide) rfl (h06) ?_
      refine s_getr (k := 4) (b := e + 5) C dX10_word_30 fl_X10_169 (by rcases he with rfl | rfl <;> decide) (by rcases he with rfl | rfl <;> decide) (by decide) (by rcases he with rfl | rfl <;> decide) ?_
      refine s_iload C dX10_word_33 rfl ?_
      refine s_iaload C dX10_word_35 (by rcases he with rfl | rfl <;> decide) (by rcases he with rfl | rfl <;> decide) rfl (by omega) (by omega) (by omega) (rfl) (fun r35 => ?_)
      refine s_icmp_lt (tgt := 41) C dX10_word_36 (by decide) (by omega) (by omega) (fun c36 => ?_) (fun c36 => ?_)
      · skip
        refine s_aload_n C dX10_word_41 rfl ?_
        refine s_getd (k := 6) (j := 6) (b := e) C dX10_word_42 fl_X10_45 (by decide) rfl (by decide) rfl (h06) ?_
        refine s_getr (k := 3) (b := e + 4) C dX10_word_45 fl_X10_190 (by rcases he with rfl | rfl <;> decide) (by rcases he with rfl | rfl <;> decide) (by decide) (by rcases he with rfl | rfl <;> decide) ?_
        refine s_iload C dX10_word_48 rfl ?_
        refine s_iaload C dX10_word_50 (by rcases he with rfl | rfl <;> decide) (by rcases he with rfl | rfl <;> decide) rfl (by omega) (by omega) (by omega) (rfl) (fun r50 => ?_)
        refine s_iload_n C dX10_word_51 rfl ?_
        refine s_iadd C dX10_word_52 ?_
        refine s_istore (lv' := [_, _, _, _, _, _]) C dX10_word_53 (by decide) rfl rfl ?_
        have hxk := hx.2 k (by omega) (by omega)
        refine s_iload_n C dX10_word_55 rfl ?_
        refine s_if_lt (tgt := 73) C dX10_word_56 (by decide) (by omega) (fun c56 => ?_) (fun c56 => ?_)
        · skip
          refine s_iconst C dX10_word_73 ?_
          exact s_ireturn C dX10_word_74 (⟨_, rfl, rfl, by rw [if_neg (fun q => by omega)]⟩)
        · skip
          refine s_iload_n C dX10_word_59 rfl ?_
          refine s_aload_n C dX10_word_60 rfl ?_
          refine s_getd (k := 6) (j := 6) (b := e) C dX10_word_61 fl_X10_45 (by decide) rfl (by decide) rfl (h06) ?_
          refine s_getr (k := 2) (b := e + 3) C dX10_word_64 fl_X10_193 (by rcases he with rfl | rfl <;> decide) (by rcases he with rfl | rfl <;> decide) (by decide) (by rcases he with rfl | rfl <;> decide) ?_
          refine s_iload C dX10_word_67 rfl ?_
          refine s_iaload (z := wL M e (M 41 i) k) C dX10_word_69 (by rcases he with rfl | rfl <;> decide) (by rcases he with rfl | rfl <;> decide) rfl (by omega) (by omega) (by omega) (rfl) (fun r69 => ?_)
          refine s_icmp_lt (tgt := 75) C dX10_word_70 (by decide) (by omega) (by omega) (fun c70 => ?_) (fun c70 => ?_)
          · skip
            have hwl : wL M e (M 41 i) k ≤ 16 ∧ 0 ≤ wS M e (M 41 i) k ∧ wS M e (M 41 i) k + wL M e (M 41 i) k ≤ 3000 := by unfold wL wS; omega
            refine s_aload_n C dX10_word_75 rfl ?_
            refine s_getd (k := 6) (j := 6) (b := e) C dX10_word_76 fl_X10_45 (by decide) rfl (by decide) rfl (h06) ?_
            refine s_getr (k := 0) (b := e + 1) C dX10_word_79 fl_X10_196 (by rcases he with rfl | rfl <;> decide) (by rcases he with rfl | rfl <;> decide) (by decide) (by rcases he with rfl | rfl <;> decide) ?_
            refine s_aload_n C dX10_word_82 rfl ?_
            refine s_getd (k := 6) (j := 6) (b := e) C dX10_word_83 fl_X10_45 (by decide) rfl (by decide) rfl (h06) ?_
            refine s_getr (k := 1) (b := e + 2) C dX10_word_86 fl_X10_199 (by rcases he with rfl | rfl <;> decide) (by rcases he with rfl | rfl <;> decide) (by decide) (by rcases he with rfl | rfl <;> decide) ?_
            refine s_iload C dX10_word_89 rfl ?_
            refine s_iaload (z := wS M e (M 41 i) k) C dX10_word_91 (by rcases he with rfl | rfl <;> decide) (by rcases he with rfl | rfl <;> decide) rfl (by omega) (by omega) (by omega) (rfl) (fun r91 => ?_)
            refine s_iload_n C dX10_word_92 rfl ?_
            refine s_iadd C dX10_word_93 ?_
            refine s_iaload C dX10_word_94 (by rcases he with rfl | rfl <;> decide) (by rcases he with rfl | rfl <;> decide) rfl (by omega) (by omega) (by omega) (rfl) (fun r94 => ?_)
            exact s_ireturn C dX10_word_95 (⟨_, rfl, rfl, by rw [if_pos (by omega)]⟩)
          · skip
            refine s_iconst C dX10_word_73 ?_
            exact s_ireturn C dX10_word_74 (⟨_, rfl, rfl, by rw [if_neg (fun q => by omega)]⟩)
      · skip
        refine s_iconst C dX10_word_39 ?_
        exact s_ireturn C dX10_word_40 (⟨_, rfl, rfl, by rw [if_neg (fun q => by omega)]⟩)
  · skip
    refine s_iconst C dX10_word_8 ?_
    exact s_ireturn C dX10_word_9 (⟨_, rfl, rfl, by rw [if_neg (fun q => by rcases q2 with ⟨_, g⟩ | ⟨g, _⟩ <;> omega)]⟩)

set_option maxRecDepth 20000 in
set_option maxHeartbeats 4000000 in
theorem ct_X10_pair (E : Ev) (e : Nat) (he : e = 17 ∨ e = 24) (M : Mm) (h06 : M 0 6 = (e : Int)) (hn : 0 ≤ M e 7 ∧ M e 7 ≤ 24) (hP : plOk M (M e 7)) (hR : prOk M (M e 7)) (a b : Int) (ha : rg a) (hb : rg b) : Ct E yX10_pair cX10_pair 5 (some .int) 1 [zr E 0, zi a, zi b] M (pI (fun z M' => (¬ ((0 ≤ a ∧ a < M e 7) ∧ (0 ≤ b ∧ b < M e 7) ∧ a ≠ b) ∧ z = -2 ∧ M' = M) ∨ (((0 ≤ a ∧ a < M e 7) ∧ (0 ≤ b ∧ b < M e 7) ∧ a ≠ b) ∧ ((Rch (M 56) (M 57) (M 55 2) (M 41 b) (M 41 a) ∧ z = -2 ∧ M' = M) ∨ (¬ Rch (M 56) (M 57) (M 55 2) (M 41 b) (M 41 a) ∧ (∃ p, 0 ≤ p ∧ p < M 55 2 ∧ M 56 p = M 41 a ∧ M 57 p = M 41 b) ∧ z = M 55 2 ∧ M' = M) ∨ (¬ Rch (M 56) (M 57) (M 55 2) (M 41 b) (M 41 a) ∧ ¬ (∃ p, 0 ≤ p ∧ p < M 55 2 ∧ M 56 p = M 41 a ∧ M 57 p = M 41 b) ∧ 20 ≤ M 55 2 ∧ z = -3 ∧ M' = M) ∨ (¬ Rch (M 56) (M 57) (M 55 2) (M 41 b) (M 41 a) ∧ ¬ (∃ p, 0 ≤ p ∧ p < M 55 2 ∧ M 56 p = M 41 a ∧ M 57 p = M 41 b) ∧ M 55 2 < 20 ∧ z = M 55 2 + 1 ∧ M' = mput (mput (mput M 56 (M 55 2) (M 41 a)) 57 (M 55 2) (M 41 b)) 55 2 (M 55 2 + 1)))))) := by
  refine Ct.of (own := RX10) (lv0 := [some (zr E 0), some (zi a), some (zi b), none, none]) (by decide) rfl (Nat.le_of_ble_eq_true rfl) rfl (fun κ C => ?_)
  refine s_aload_n C dX10_pair_0 rfl ?_
  refine s_iload_n C dX10_pair_1 rfl ?_
  refine s_callV1 C dX10_pair_2 cy_X10_isNoSentence cv_X10_isNoSentence lk_X10_159 (ct_X10_isNoSentence E e he M h06 a ha) (by decide) (by decide) (by first | decide | (decide)) rfl (Nat.le_of_ble_eq_true rfl) (k_P (fun z2 q2 => ?_))
  have k2 : (z2 = 1 ∧ ¬ (0 ≤ a ∧ a < M e 7)) ∨ (z2 = 0 ∧ 0 ≤ a ∧ a < M e 7) := by rcases q2 with ⟨g, g2⟩ | ⟨g, g2⟩ <;> omega
  clear q2
  refine s_if_ne (tgt := 21) C dX10_pair_5 (by decide) (by omega) (fun c5 => ?_) (fun c5 => ?_)
  · skip
    refine s_bipush C dX10_pair_21 (by decide) ?_
    exact s_ireturn C dX10_pair_23 (⟨_, rfl, Or.inl ⟨fun q => by omega, rfl, rfl⟩⟩)
  · skip
    refine s_aload_n C dX10_pair_8 rfl ?_
    refine s_iload_n C dX10_pair_9 rfl ?_
    refine s_callV1 C dX10_pair_10 cy_X10_isNoSentence cv_X10_isNoSentence lk_X10_159 (ct_X10_isNoSentence E e he M h06 b hb) (by decide) (by decide) (by first | decide | (decide)) rfl (Nat.le_of_ble_eq_true rfl) (k_P (fun z10 q10 => ?_))
    have k10 : (z10 = 1 ∧ ¬ (0 ≤ b ∧ b < M e 7)) ∨ (z10 = 0 ∧ 0 ≤ b ∧ b < M e 7) := by rcases q10 with ⟨g, g2⟩ | ⟨g, g2⟩ <;> omega
    clear q10
    refine s_if_ne (tgt := 21) C dX10_pair_13 (by decide) (by omega) (fun c13 => ?_) (fun c13 => ?_)
    · skip
      refine s_bipush C dX10_pair_21 (by decide) ?_
      exact s_ireturn C dX10_pair_23 (⟨_, rfl, Or.inl ⟨fun q => by omega, rfl, rfl⟩⟩)
    · skip
      refine s_iload_n C dX10_pair_16 rfl ?_
      refine s_iload_n C dX10_pair_17 rfl ?_
      refine s_icmp_ne (tgt := 24) C dX10_pair_18 (by decide) (by omega) (by omega) (fun c18 => ?_) (fun c18 => ?_)
      · skip
        have hg : (0 ≤ a ∧ a < M e 7) ∧ (0 ≤ b ∧ b < M e 7) ∧ a ≠ b := ⟨by omega, by omega, c18⟩
        have p1 := hP.2.1 a hg.1.1 hg.1.2
        have p2 := hP.2.1 b hg.2.1.1 hg.2.1.2
        have hR1 := hR.1
        refine s_aload_n C dX10_pair_24 rfl ?_
        refine s_getr (k := 9) (b := 40) C dX10_pair_25 fl_X10_62 (by decide) rfl (by decide) rfl ?_
        refine s_getr (k := 0) (b := 41) C dX10_pair_28 fl_X10_166 (by decide) rfl (by decide) rfl ?_
        refine s_iload_n C dX10_pair_31 rfl ?_
        refine s_iaload (n := 24) C dX10_pair_32 (by decide) rfl rfl (by omega) (by omega) (by omega) (rfl) (fun r32 => ?_)
        refine s_istore_n (lv' := [_, _, _, _, _]) C dX10_pair_33 (by decide) rfl rfl ?_
        refine s_aload_n C dX10_pair_34 rfl ?_
        refine s_getr (k := 9) (b := 40) C dX10_pair_35 fl_X10_62 (by decide) rfl (by decide) rfl ?_
        refine s_getr (k := 0) (b := 41) C dX10_pair_38 fl_X10_166 (by decide) rfl (by decide) rfl ?_
        refine s_iload_n C dX10_pair_41 rfl ?_
        refine s_iaload (n := 24) C dX10_pair_42 (by decide) rfl rfl (by omega) (by omega) (by omega) (rfl) (fun r42 => ?_)
        refine s_istore (lv' := [_, _, _, _, _]) C dX10_pair_43 (by decide) rfl rfl ?_
        refine s_aload_n C dX10_pair_45 rfl ?_
        refine s_getr (k := 12) (b := 55) C dX10_pair_46 fl_X10_83 (by decide) rfl (by decide) rfl ?_
        refine s_iload C dX10_pair_49 rfl ?_
        refine s_iload_n C dX10_pair_51 rfl ?_
        refine s_callV2 C dX10_pair_52 cy_X4_mustBeAhead cv_X4_mustBeAhead lk_X10_278 (ct_X4_mustBeAhead E M (M 41 b) (M 41 a) (by omega) (by omega) hR1 (fun p h1 h2 => by have := hR.2 p h1 h2; omega)) (by decide) (by decide) (by first | decide | (decide)) rfl (Nat.le_of_ble_eq_true rfl) (k_P (fun z52 q52 => ?_))
        refine s_if_eq (tgt := 61) C dX10_pair_55 (by decide) (by rcases q52 with ⟨q, _⟩ | ⟨q, _⟩ <;> omega) (fun c55 => ?_) (fun c55 => ?_)
        · skip
          have hnr : ¬ Rch (M 56) (M 57) (M 55 2) (M 41 b) (M 41 a) := by
            rcases q52 with ⟨g, _⟩ | ⟨_, g⟩
            · exact absurd (g.symm.trans c55) (by decide)
            · exact g
          clear q52
          refine s_aload_n C dX10_pair_61 rfl ?_
          refine s_getr (k := 12) (b := 55) C dX10_pair_62 fl_X10_83 (by decide) rfl (by decide) rfl ?_
          refine s_iload_n C dX10_pair_65 rfl ?_
          refine s_iload C dX10_pair_66 rfl ?_
          refine s_callV2 C dX10_pair_68 cy_X4_has cv_X4_has lk_X10_281 (ct_X4_has E M (M 41 a) (M 41 b) (by omega) (by omega) hR1) (by decide) (by decide) (by first | decide | (decide)) rfl (Nat.le_of_ble_eq_true rfl) (k_P (fun z68 q68 => ?_))
          refine s_if_eq (tgt := 82) C dX10_pair_71 (by decide) (by rcases q68 with ⟨q, _⟩ | ⟨q, _⟩ <;> omega) (fun c71 => ?_) (fun c71 => ?_)
          · skip
            have hnh : ¬ (∃ p, 0 ≤ p ∧ p < M 55 2 ∧ M 56 p = M 41 a ∧ M 57 p = M 41 b) := by
              rcases q68 with ⟨g, _⟩ | ⟨_, g⟩
              · exact absurd (g.symm.trans c71) (by decide)
              · exact g
            clear q68
            refine s_aload_n C dX10_pair_82 rfl ?_
            refine s_getr (k := 12) (b := 55) C dX10_pair_83 fl_X10_83 (by decide) rfl (by decide) rfl ?_
            refine s_geti (k := 2) (j := 2) C dX10_pair_86 fl_X10_155 (by decide) rfl (by decide) rfl (rfl) (fun r86 => ?_)
            refine s_bipush C dX10_pair_89 (by decide) ?_
            refine s_icmp_lt (tgt := 97) C dX10_pair_91 (by decide) (by omega) (by omega) (fun c91 => ?_) (fun c91 => ?_)
            · skip
              refine s_aload_n C dX10_pair_97 rfl ?_
              refine s_getr (k := 12) (b := 55) C dX10_pair_98 fl_X10_83 (by decide) rfl (by decide) rfl ?_
              refine s_iload_n C dX10_pair_101 rfl ?_
              refine s_iload C dX10_pair_102 rfl ?_
              refine s_callV2 C dX10_pair_104 cy_X4_add cv_X4_add lk_X10_284 (ct_X4_add E M (M 41 a) (M 41 b) (by omega) (by omega) (by clear hnh; omega)) (by decide) (by decide) (by first | decide | (decide)) rfl (Nat.le_of_ble_eq_true rfl) (k_V (fun M104 q104 => ?_))
              subst q104
              refine s_aload_n C dX10_pair_107 rfl ?_
              refine s_getr (k := 12) (b := 55) C dX10_pair_108 fl_X10_83 (by decide) rfl (by decide) rfl ?_
              refine s_geti (k := 2) (j := 2) (z := M 55 2 + 1) C dX10_pair_111 fl_X10_155 (by decide) rfl (by decide) rfl (mput_eq) (fun r111 => ?_)
              exact s_ireturn C dX10_pair_114 (⟨_, rfl, Or.inr ⟨hg, Or.inr (Or.inr (Or.inr ⟨hnr, hnh, c91, rfl, rfl⟩))⟩⟩)
            · skip
              refine s_bipush C dX10_pair_94 (by decide) ?_
              exact s_ireturn C dX10_pair_96 (⟨_, rfl, Or.inr ⟨hg, Or.inr (Or.inr (Or.inl ⟨hnr, hnh, c91, rfl, rfl⟩))⟩⟩)
          · skip
            refine s_aload_n C dX10_pair_74 rfl ?_
            refine s_getr (k := 12) (b := 55) C dX10_pair_75 fl_X10_83 (by decide) rfl (by decide) rfl ?_
            refine s_geti (k := 2) (j := 2) C dX10_pair_78 fl_X10_155 (by decide) rfl (by decide) rfl (rfl) (fun r78 => ?_)
            exact s_ireturn C dX10_pair_81 (⟨_, rfl, Or.inr ⟨hg, Or.inr (Or.inl ⟨hnr, by rcases q68 with ⟨_, g⟩ | ⟨g, _⟩; exact g; exact absurd g c71, rfl, rfl⟩)⟩⟩)
        · skip
          refine s_bipush C dX10_pair_58 (by decide) ?_
          exact s_ireturn C dX10_pair_60 (⟨_, rfl, Or.inr ⟨hg, Or.inl ⟨by rcases q52 with ⟨_, g⟩ | ⟨g, _⟩; exact g; exact absurd g c55, rfl, rfl⟩⟩⟩)
      · skip
        refine s_bipush C dX10_pair_21 (by decide) ?_
        exact s_ireturn C dX10_pair_23 (⟨_, rfl, Or.inl ⟨fun q => by omega, rfl, rfl⟩⟩)
