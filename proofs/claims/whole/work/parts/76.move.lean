/-- places when what stands at l .. u is moved ahead of e -/
def mvA (a : Int → Int) (l u e i : Int) : Int := if e ≤ l then (if e ≤ i ∧ i < e + (u - l + 1) then a (l + (i - e)) else if e + (u - l + 1) ≤ i ∧ i ≤ u then a (i - (u - l + 1)) else a i) else (if l ≤ i ∧ i < l + (e - u - 1) then a (u + 1 + (i - l)) else if l + (e - u - 1) ≤ i ∧ i < e then a (l + (i - (l + (e - u - 1)))) else a i)
/-- places are as g says, z stand elsewhere -/
def MvP (M1 M' : Mm) (n z : Int) (g : Int → Int) : Prop := Sm M1 M' [0, 40, 41, 42] ∧ (∀ k : Int, k ≠ 15 → M' 0 k = M1 0 k) ∧ M' 0 15 = 1 ∧ M' 40 2 = M1 40 2 ∧ (∀ i, 0 ≤ i → i < n → M' 41 i = g i) ∧ z = cntB (fun i => M1 41 i != g i) n.toNat
theorem MvP.of {M1 X M' : Mm} {n z : Int} {g : Int → Int} (hn : 0 ≤ n) (h40 : X 40 2 = n) (h1 : Sm M1 X [0, 40, 42]) (h0 : ∀ k : Int, k ≠ 15 → X 0 k = M1 0 k) (h15 : X 0 15 = 1) (hp : X 40 2 = M1 40 2) (hg : ∀ i, 0 ≤ i → i < n → X 42 i = g i) (q : z = cntB (fun i => X 41 i != X 42 i) (X 40 2).toNat ∧ M' = mcopy X 42 0 41 0 (X 40 2)) : MvP M1 M' n z g := by
  obtain ⟨q1, rfl⟩ := q
  rw [h40] at q1
  refine ⟨fun a ha => ?_, fun k hk => ?_, ?_, ?_, fun i i0 i1 => ?_, ?_⟩
  · simp only [List.mem_cons, List.not_mem_nil, or_false, not_or] at ha
    rw [mcopy_ne (by omega)]
    exact h1 a (by simp only [List.mem_cons, List.not_mem_nil, or_false]; omega)
  · rw [mcopy_ne (by decide)]; exact h0 k hk
  · rw [mcopy_ne (by decide)]; exact h15
  · rw [mcopy_ne (by decide)]; exact hp
  · rw [mcopy_at, h40, if_pos (by omega), show 0 + (i - 0) = i by omega]; exact hg i i0 i1
  · rw [q1]
    refine cntB_congr n.toNat (fun i i0 i1 => ?_)
    rw [hg i i0 (by omega), h1 41 (by decide)]
theorem mv_ahead {M1 : Mm} {n l u e i : Int} (hs : M1 40 2 = n) (hl : 0 ≤ e ∧ e < l ∧ l ≤ u ∧ u < n) (hi : 0 ≤ i ∧ i < n) : plPut (plPut (mput (mcopy M1 41 0 42 0 (M1 40 2)) 40 3 e) l (l + (u - l + 1) - l)) e (l - e) 42 i = mvA (M1 41) l u e i := by
  have e3 : plPut (mput (mcopy M1 41 0 42 0 (M1 40 2)) 40 3 e) l (l + (u - l + 1) - l) 40 3 = e + (l + (u - l + 1) - l) := by rw [plPut_40, if_pos rfl, mput_eq]
  have e41 : plPut (mput (mcopy M1 41 0 42 0 (M1 40 2)) 40 3 e) l (l + (u - l + 1) - l) 41 = M1 41 := by rw [plPut_ne (by decide) (by decide), mput_ne (by decide), mcopy_ne (by decide)]
  rw [plPut_42, e3, e41, plPut_42, mput_eq, mput_ne (by decide : (42 : Nat) ≠ 40), mput_ne (by decide : (41 : Nat) ≠ 40), mcopy_ne (by decide : (41 : Nat) ≠ 42), mcopy_at, hs]
  unfold mvA
  repeat' split
  all_goals first | rfl | (exfalso; omega) | (congr 1; omega)
theorem mv_behind {M1 : Mm} {n l u e i : Int} (hs : M1 40 2 = n) (hl : 0 ≤ l ∧ l ≤ u ∧ u < e ∧ e ≤ n) (hi : 0 ≤ i ∧ i < n) : plPut (plPut (mput (mcopy M1 41 0 42 0 (M1 40 2)) 40 3 l) (l + (u - l + 1)) (e - (l + (u - l + 1)))) l (l + (u - l + 1) - l) 42 i = mvA (M1 41) l u e i := by
  have e3 : plPut (mput (mcopy M1 41 0 42 0 (M1 40 2)) 40 3 l) (l + (u - l + 1)) (e - (l + (u - l + 1))) 40 3 = l + (e - (l + (u - l + 1))) := by rw [plPut_40, if_pos rfl, mput_eq]
  have e41 : plPut (mput (mcopy M1 41 0 42 0 (M1 40 2)) 40 3 l) (l + (u - l + 1)) (e - (l + (u - l + 1))) 41 = M1 41 := by rw [plPut_ne (by decide) (by decide), mput_ne (by decide), mcopy_ne (by decide)]
  rw [plPut_42, e3, e41, plPut_42, mput_eq, mput_ne (by decide : (42 : Nat) ≠ 40), mput_ne (by decide : (41 : Nat) ≠ 40), mcopy_ne (by decide : (41 : Nat) ≠ 42), mcopy_at, hs]
  unfold mvA
  repeat' split
  all_goals first | rfl | (exfalso; omega) | (congr 1; omega)

set_option maxRecDepth 20000 in
set_option maxHeartbeats 4000000 in
theorem ct_X10_move (E : Ev) (e d : Nat) (M : Mm) (hX : XI M e d) (t f : Int) (ht : rg t) (hf : rg f) : Ct E yX10_move cX10_move 6 (some .int) 6 [zr E 0, zi t, zi f] M (pI (fun z M' => (¬ ((0 ≤ t ∧ t < M e 7) ∧ 0 ≤ f ∧ f ≤ M e 7) ∧ z = -2 ∧ M' = M) ∨ (((0 ≤ t ∧ t < M e 7) ∧ 0 ≤ f ∧ f ≤ M e 7) ∧ ∃ M1 r l u, Frs M M1 e ∧ TT (M1 51) (M e 7) r ∧ Iv (M1 51) (M e 7) r t l u ∧ ((l ≤ f ∧ f ≤ u ∧ z = -2 ∧ M' = M1) ∨ (¬ (l ≤ f ∧ f ≤ u) ∧ MvP M1 M' (M e 7) z (mvA (M1 41) l u f)))))) := by
  refine Ct.of (own := RX10) (lv0 := [some (zr E 0), some (zi t), some (zi f), none, none, none]) (by decide) rfl (Nat.le_of_ble_eq_true rfl) rfl (fun κ C => ?_)
  have hn := hX.hn
  have he := hX.he
  obtain ⟨l1, l2, l3, l4, l5, l6⟩ := lnT he
  refine s_aload_n C dX10_move_0 rfl ?_
  refine s_getd (k := 6) (j := 6) (b := e) C dX10_move_1 fl_X10_45 (by decide) rfl (by decide) rfl (hX.2.1.1) ?_
  refine s_geti (k := 7) (j := 7) C dX10_move_4 fl_X10_149 (by first | (rcases hX.he with rfl | rfl <;> decide) | (rcases he with rfl | rfl <;> decide)) (by first | (rcases hX.he with rfl | rfl <;> decide) | (rcases he with rfl | rfl <;> decide)) (by decide) rfl (rfl) (fun r4 => ?_)
  refine s_istore_n (lv' := [_, _, _, _, _, _]) C dX10_move_7 (by decide) rfl rfl ?_
  refine s_aload_n C dX10_move_8 rfl ?_
  refine s_iload_n C dX10_move_9 rfl ?_
  refine s_callV1 C dX10_move_10 cy_X10_isNoSentence cv_X10_isNoSentence lk_X10_159 (ct_X10_isNoSentence E e hX.he M hX.2.1.1 t ht) (by decide) (by decide) (by first | decide | (decide)) rfl (Nat.le_of_ble_eq_true rfl) (k_P (fun z10 q10 => ?_))
  have k10 : (z10 = 1 ∧ ¬ (0 ≤ t ∧ t < M e 7)) ∨ (z10 = 0 ∧ 0 ≤ t ∧ t < M e 7) := by rcases q10 with ⟨g, g2⟩ | ⟨g, g2⟩ <;> omega
  clear q10
  refine s_if_ne (tgt := 25) C dX10_move_13 (by decide) (by omega) (fun c13 => ?_) (fun c13 => ?_)
  · skip
    refine s_bipush C dX10_move_25 (by decide) ?_
    exact s_ireturn C dX10_move_27 (⟨_, rfl, Or.inl ⟨fun h => by omega, rfl, rfl⟩⟩)
  · skip
    refine s_iload_n C dX10_move_16 rfl ?_
    refine s_if_lt (tgt := 25) C dX10_move_17 (by decide) (by omega) (fun c17 => ?_) (fun c17 => ?_)
    · skip
      refine s_bipush C dX10_move_25 (by decide) ?_
      exact s_ireturn C dX10_move_27 (⟨_, rfl, Or.inl ⟨fun h => by omega, rfl, rfl⟩⟩)
    · skip
      refine s_iload_n C dX10_move_20 rfl ?_
      refine s_iload_n C dX10_move_21 rfl ?_
      refine s_icmp_le (tgt := 28) C dX10_move_22 (by decide) (by omega) (by omega) (fun c22 => ?_) (fun c22 => ?_)
      · skip
        refine s_aload_n C dX10_move_28 rfl ?_
        refine s_callV0 C dX10_move_29 cy_X10_refresh cv_X10_refresh lk_X10_163 (ct_X10_refresh E e d M hX) (by decide) (by decide) (by first | decide | (decide)) rfl (Nat.le_of_ble_eq_true rfl) (k_V (fun M29 q29 => ?_))
        obtain ⟨r1, r41, r5, r6, r15, r06⟩ := frs_e hX q29
        have r7 : M29 e 7 = M e 7 := by rw [r1]
        have hX2 := hX.frs q29
        have hpl : M29 40 2 = M e 7 := by rw [← r7]; exact hX2.pl.1
        obtain ⟨r, hT, h50, hB⟩ := q29.2.2.2.2.2.bones (by omega)
        rw [r7] at hT
        obtain ⟨l, u, hv⟩ := hT.iv (i := t) (by omega)
        have hb := (hB t (by omega) (by omega)).2
        rw [r7] at hb
        obtain ⟨e53, e54⟩ := hb l u hv
        have hv1 := hv.1
        refine s_aload_n C dX10_move_32 rfl ?_
        refine s_getr (k := 11) (b := 50) C dX10_move_33 fl_X10_76 (by decide) rfl (by decide) rfl ?_
        refine s_getr (k := 2) (b := 53) C dX10_move_36 fl_X10_298 (by decide) rfl (by decide) rfl ?_
        refine s_iload_n C dX10_move_39 rfl ?_
        refine s_iaload (n := 24) (z := l) C dX10_move_40 (by decide) rfl rfl (by omega) (by omega) (by omega) (e53) (fun r40 => ?_)
        refine s_istore (lv' := [_, _, _, _, _, _]) C dX10_move_41 (by decide) rfl rfl ?_
        refine s_iload C dX10_move_43 rfl ?_
        refine s_aload_n C dX10_move_45 rfl ?_
        refine s_getr (k := 11) (b := 50) C dX10_move_46 fl_X10_76 (by decide) rfl (by decide) rfl ?_
        refine s_getr (k := 3) (b := 54) C dX10_move_49 fl_X10_187 (by decide) rfl (by decide) rfl ?_
        refine s_iload_n C dX10_move_52 rfl ?_
        refine s_iaload (n := 24) (z := u - l + 1) C dX10_move_53 (by decide) rfl rfl (by omega) (by omega) (by omega) (e54) (fun r53 => ?_)
        refine s_iadd C dX10_move_54 ?_
        refine s_istore (lv' := [_, _, _, _, _, _]) C dX10_move_55 (by decide) rfl rfl ?_
        refine s_iload_n C dX10_move_57 rfl ?_
        refine s_iload C dX10_move_58 rfl ?_
        refine s_icmp_lt (tgt := 72) C dX10_move_60 (by decide) (by omega) (by omega) (fun c60 => ?_) (fun c60 => ?_)
        · skip
          refine s_iload_n C dX10_move_72 rfl ?_
          refine s_iload C dX10_move_73 rfl ?_
          refine s_icmp_ge (tgt := 115) C dX10_move_75 (by decide) (by omega) (by omega) (fun c75 => ?_) (fun c75 => ?_)
          · skip
            refine s_aload_n C dX10_move_115 rfl ?_
            refine s_getr (k := 9) (b := 40) C dX10_move_116 fl_X10_62 (by decide) rfl (by decide) rfl ?_
            refine s_iload C dX10_move_119 rfl ?_
            refine s_callV1 C dX10_move_121 cy_X5_start cv_X5_start lk_X10_301 (ct_X5_start E M29 l (by omega) (by omega)) (by decide) (by decide) (by first | decide | (decide)) rfl (Nat.le_of_ble_eq_true rfl) (k_V (fun M121 q121 => ?_))
            subst q121
            have s2 : (mput (mcopy M29 41 0 42 0 (M29 40 2)) 40 3 l) 40 2 = M e 7 := by rw [mput_nk (by decide), mcopy_ne (by decide)]; exact hpl
            have s3 : (mput (mcopy M29 41 0 42 0 (M29 40 2)) 40 3 l) 40 3 = l := by rw [mput_eq]
            refine s_aload_n C dX10_move_124 rfl ?_
            refine s_getr (k := 9) (b := 40) C dX10_move_125 fl_X10_62 (by decide) rfl (by decide) rfl ?_
            refine s_iload C dX10_move_128 rfl ?_
            refine s_iload_n C dX10_move_130 rfl ?_
            refine s_iload C dX10_move_131 rfl ?_
            refine s_isub C dX10_move_133 ?_
            refine s_callV2 C dX10_move_134 cy_X5_put cv_X5_put lk_X10_315 (ct_X5_put E _ (l + (u - l + 1)) (f - (l + (u - l + 1))) (by omega) (by rw [s2]; omega) (by rw [s2, s3]; omega) (by rw [s2]; omega)) (by decide) (by decide) (by first | decide | (decide)) rfl (Nat.le_of_ble_eq_true rfl) (k_V (fun M134 q134 => ?_))
            subst q134
            have s4 : plPut (mput (mcopy M29 41 0 42 0 (M29 40 2)) 40 3 l) (l + (u - l + 1)) (f - (l + (u - l + 1))) 40 2 = M e 7 := by rw [plPut_40, if_neg (by decide)]; exact s2
            have s5 : plPut (mput (mcopy M29 41 0 42 0 (M29 40 2)) 40 3 l) (l + (u - l + 1)) (f - (l + (u - l + 1))) 40 3 = l + (f - (l + (u - l + 1))) := by rw [plPut_40, if_pos rfl, s3]
            refine s_aload_n C dX10_move_137 rfl ?_
            refine s_getr (k := 9) (b := 40) C dX10_move_138 fl_X10_62 (by decide) rfl (by decide) rfl ?_
            refine s_iload C dX10_move_141 rfl ?_
            refine s_iload C dX10_move_143 rfl ?_
            refine s_iload C dX10_move_145 rfl ?_
            refine s_isub C dX10_move_147 ?_
            refine s_callV2 C dX10_move_148 cy_X5_put cv_X5_put lk_X10_315 (ct_X5_put E _ l (l + (u - l + 1) - l) (by omega) (by rw [s4]; omega) (by rw [s4, s5]; omega) (by rw [s4]; omega)) (by decide) (by decide) (by first | decide | (decide)) rfl (Nat.le_of_ble_eq_true rfl) (k_V (fun M148 q148 => ?_))
            subst q148
            have s6 : ∀ i, 0 ≤ i → i < M e 7 → plPut (plPut (mput (mcopy M29 41 0 42 0 (M29 40 2)) 40 3 l) (l + (u - l + 1)) (f - (l + (u - l + 1)))) l (l + (u - l + 1) - l) 42 i = mvA (M29 41) l u f i := fun i i0 i1 => mv_behind hpl (by omega) ⟨i0, i1⟩
            have s7 : plPut (plPut (mput (mcopy M29 41 0 42 0 (M29 40 2)) 40 3 l) (l + (u - l + 1)) (f - (l + (u - l + 1)))) l (l + (u - l + 1) - l) 40 2 = M e 7 := by rw [plPut_40, if_neg (by decide)]; exact s4
            have s8 : Sm M29 (plPut (plPut (mput (mcopy M29 41 0 42 0 (M29 40 2)) 40 3 l) (l + (u - l + 1)) (f - (l + (u - l + 1)))) l (l + (u - l + 1) - l)) [40, 42] := fun a ha => by
              simp only [List.mem_cons, List.not_mem_nil, or_false, not_or] at ha
              rw [plPut_ne ha.1 ha.2, plPut_ne ha.1 ha.2, mput_ne ha.1, mcopy_ne ha.2]
            generalize plPut (plPut (mput (mcopy M29 41 0 42 0 (M29 40 2)) 40 3 l) (l + (u - l + 1)) (f - (l + (u - l + 1)))) l (l + (u - l + 1) - l) = X at s6 s7 s8 ⊢
            refine s_aload_n C dX10_move_151 rfl ?_
            refine s_iconst C dX10_move_152 ?_
            refine s_putz (k := 15) (j := 15) C dX10_move_153 fp_X10_136 (by decide) rfl rfl rfl (by decide) ?_
            refine s_aload_n C dX10_move_156 rfl ?_
            refine s_getr (k := 9) (b := 40) C dX10_move_157 fl_X10_62 (by decide) rfl (by decide) rfl ?_
            refine s_callV0 C dX10_move_160 cy_X5_take cv_X5_take lk_X10_318 (ct_X5_take E (mput X 0 15 1) (by rw [mput_ne (by decide), s7]; omega)) (by decide) (by decide) (by first | decide | (decide)) rfl (Nat.le_of_ble_eq_true rfl) (k_I (fun z160 M160 q160 => ?_))
            exact s_ireturn C dX10_move_163 (⟨_, rfl, Or.inr ⟨by omega, M29, r, l, u, q29, hT, hv, Or.inr ⟨by omega, MvP.of hn.1 (by rw [mput_ne (by decide)]; exact s7) (fun a ha => by
      simp only [List.mem_cons, List.not_mem_nil, or_false, not_or] at ha
      rw [mput_ne ha.1]
      exact s8 a (by simp only [List.mem_cons, List.not_mem_nil, or_false]; omega)) (fun k hk => by rw [mput_nk hk, s8 0 (by decide)]) (by rw [mput_eq]) (by rw [mput_ne (by decide), s7, hpl]) (fun i i0 i1 => by rw [mput_ne (by decide)]; exact s6 i i0 i1) q160⟩⟩⟩)
          · skip
            refine s_aload_n C dX10_move_78 rfl ?_
            refine s_getr (k := 9) (b := 40) C dX10_move_79 fl_X10_62 (by decide) rfl (by decide) rfl ?_
            refine s_iload_n C dX10_move_82 rfl ?_
            refine s_callV1 C dX10_move_83 cy_X5_start cv_X5_start lk_X10_301 (ct_X5_start E M29 f (by omega) (by omega)) (by decide) (by decide) (by first | decide | (decide)) rfl (Nat.le_of_ble_eq_true rfl) (k_V (fun M83 q83 => ?_))
            subst q83
            have s2 : (mput (mcopy M29 41 0 42 0 (M29 40 2)) 40 3 f) 40 2 = M e 7 := by rw [mput_nk (by decide), mcopy_ne (by decide)]; exact hpl
            have s3 : (mput (mcopy M29 41 0 42 0 (M29 40 2)) 40 3 f) 40 3 = f := by rw [mput_eq]
            refine s_aload_n C dX10_move_86 rfl ?_
            refine s_getr (k := 9) (b := 40) C dX10_move_87 fl_X10_62 (by decide) rfl (by decide) rfl ?_
            refine s_iload C dX10_move_90 rfl ?_
            refine s_iload C dX10_move_92 rfl ?_
            refine s_iload C dX10_move_94 rfl ?_
            refine s_isub C dX10_move_96 ?_
            refine s_callV2 C dX10_move_97 cy_X5_put cv_X5_put lk_X10_315 (ct_X5_put E _ l (l + (u - l + 1) - l) (by omega) (by rw [s2]; omega) (by rw [s2, s3]; omega) (by rw [s2]; omega)) (by decide) (by decide) (by first | decide | (decide)) rfl (Nat.le_of_ble_eq_true rfl) (k_V (fun M97 q97 => ?_))
            subst q97
            have s4 : plPut (mput (mcopy M29 41 0 42 0 (M29 40 2)) 40 3 f) l (l + (u - l + 1) - l) 40 2 = M e 7 := by rw [plPut_40, if_neg (by decide)]; exact s2
            have s5 : plPut (mput (mcopy M29 41 0 42 0 (M29 40 2)) 40 3 f) l (l + (u - l + 1) - l) 40 3 = f + (l + (u - l + 1) - l) := by rw [plPut_40, if_pos rfl, s3]
            refine s_aload_n C dX10_move_100 rfl ?_
            refine s_getr (k := 9) (b := 40) C dX10_move_101 fl_X10_62 (by decide) rfl (by decide) rfl ?_
            refine s_iload_n C dX10_move_104 rfl ?_
            refine s_iload C dX10_move_105 rfl ?_
            refine s_iload_n C dX10_move_107 rfl ?_
            refine s_isub C dX10_move_108 ?_
            refine s_callV2 C dX10_move_109 cy_X5_put cv_X5_put lk_X10_315 (ct_X5_put E _ f (l - f) (by omega) (by rw [s4]; omega) (by rw [s4, s5]; omega) (by rw [s4]; omega)) (by decide) (by decide) (by first | decide | (decide)) rfl (Nat.le_of_ble_eq_true rfl) (k_V (fun M109 q109 => ?_))
            subst q109
            have s6 : ∀ i, 0 ≤ i → i < M e 7 → plPut (plPut (mput (mcopy M29 41 0 42 0 (M29 40 2)) 40 3 f) l (l + (u - l + 1) - l)) f (l - f) 42 i = mvA (M29 41) l u f i := fun i i0 i1 => mv_ahead hpl (by omega) ⟨i0, i1⟩
            have s7 : plPut (plPut (mput (mcopy M29 41 0 42 0 (M29 40 2)) 40 3 f) l (l + (u - l + 1) - l)) f (l - f) 40 2 = M e 7 := by rw [plPut_40, if_neg (by decide)]; exact s4
            have s8 : Sm M29 (plPut (plPut (mput (mcopy M29 41 0 42 0 (M29 40 2)) 40 3 f) l (l + (u - l + 1) - l)) f (l - f)) [40, 42] := fun a ha => by
              simp only [List.mem_cons, List.not_mem_nil, or_false, not_or] at ha
              rw [plPut_ne ha.1 ha.2, plPut_ne ha.1 ha.2, mput_ne ha.1, mcopy_ne ha.2]
            generalize plPut (plPut (mput (mcopy M29 41 0 42 0 (M29 40 2)) 40 3 f) l (l + (u - l + 1) - l)) f (l - f) = X at s6 s7 s8 ⊢
            refine s_goto (tgt := 151) C dX10_move_112 (by decide) ?_
            refine s_aload_n C dX10_move_151 rfl ?_
            refine s_iconst C dX10_move_152 ?_
            refine s_putz (k := 15) (j := 15) C dX10_move_153 fp_X10_136 (by decide) rfl rfl rfl (by decide) ?_
            refine s_aload_n C dX10_move_156 rfl ?_
            refine s_getr (k := 9) (b := 40) C dX10_move_157 fl_X10_62 (by decide) rfl (by decide) rfl ?_
            refine s_callV0 C dX10_move_160 cy_X5_take cv_X5_take lk_X10_318 (ct_X5_take E (mput X 0 15 1) (by rw [mput_ne (by decide), s7]; omega)) (by decide) (by decide) (by first | decide | (decide)) rfl (Nat.le_of_ble_eq_true rfl) (k_I (fun z160 M160 q160 => ?_))
            exact s_ireturn C dX10_move_163 (⟨_, rfl, Or.inr ⟨by omega, M29, r, l, u, q29, hT, hv, Or.inr ⟨by omega, MvP.of hn.1 (by rw [mput_ne (by decide)]; exact s7) (fun a ha => by
      simp only [List.mem_cons, List.not_mem_nil, or_false, not_or] at ha
      rw [mput_ne ha.1]
      exact s8 a (by simp only [List.mem_cons, List.not_mem_nil, or_false]; omega)) (fun k hk => by rw [mput_nk hk, s8 0 (by decide)]) (by rw [mput_eq]) (by rw [mput_ne (by decide), s7, hpl]) (fun i i0 i1 => by rw [mput_ne (by decide)]; exact s6 i i0 i1) q160⟩⟩⟩)
        · skip
          refine s_iload_n C dX10_move_63 rfl ?_
          refine s_iload C dX10_move_64 rfl ?_
          refine s_icmp_ge (tgt := 72) C dX10_move_66 (by decide) (by omega) (by omega) (fun c66 => ?_) (fun c66 => ?_)
          · skip
            refine s_iload_n C dX10_move_72 rfl ?_
            refine s_iload C dX10_move_73 rfl ?_
            refine s_icmp_ge (tgt := 115) C dX10_move_75 (by decide) (by omega) (by omega) (fun c75 => ?_) (fun c75 => ?_)
            · skip
              refine s_aload_n C dX10_move_115 rfl ?_
              refine s_getr (k := 9) (b := 40) C dX10_move_116 fl_X10_62 (by decide) rfl (by decide) rfl ?_
              refine s_iload C dX10_move_119 rfl ?_
              refine s_callV1 C dX10_move_121 cy_X5_start cv_X5_start lk_X10_301 (ct_X5_start E M29 l (by omega) (by omega)) (by decide) (by decide) (by first | decide | (decide)) rfl (Nat.le_of_ble_eq_true rfl) (k_V (fun M121 q121 => ?_))
              subst q121
              have s2 : (mput (mcopy M29 41 0 42 0 (M29 40 2)) 40 3 l) 40 2 = M e 7 := by rw [mput_nk (by decide), mcopy_ne (by decide)]; exact hpl
              have s3 : (mput (mcopy M29 41 0 42 0 (M29 40 2)) 40 3 l) 40 3 = l := by rw [mput_eq]
              refine s_aload_n C dX10_move_124 rfl ?_
              refine s_getr (k := 9) (b := 40) C dX10_move_125 fl_X10_62 (by decide) rfl (by decide) rfl ?_
              refine s_iload C dX10_move_128 rfl ?_
              refine s_iload_n C dX10_move_130 rfl ?_
              refine s_iload C dX10_move_131 rfl ?_
              refine s_isub C dX10_move_133 ?_
              refine s_callV2 C dX10_move_134 cy_X5_put cv_X5_put lk_X10_315 (ct_X5_put E _ (l + (u - l + 1)) (f - (l + (u - l + 1))) (by omega) (by rw [s2]; omega) (by rw [s2, s3]; omega) (by rw [s2]; omega)) (by decide) (by decide) (by first | decide | (decide)) rfl (Nat.le_of_ble_eq_true rfl) (k_V (fun M134 q134 => ?_))
              subst q134
              have s4 : plPut (mput (mcopy M29 41 0 42 0 (M29 40 2)) 40 3 l) (l + (u - l + 1)) (f - (l + (u - l + 1))) 40 2 = M e 7 := by rw [plPut_40, if_neg (by decide)]; exact s2
              have s5 : plPut (mput (mcopy M29 41 0 42 0 (M29 40 2)) 40 3 l) (l + (u - l + 1)) (f - (l + (u - l + 1))) 40 3 = l + (f - (l + (u - l + 1))) := by rw [plPut_40, if_pos rfl, s3]
              refine s_aload_n C dX10_move_137 rfl ?_
              refine s_getr (k := 9) (b := 40) C dX10_move_138 fl_X10_62 (by decide) rfl (by decide) rfl ?_
              refine s_iload C dX10_move_141 rfl ?_
              refine s_iload C dX10_move_143 rfl ?_
              refine s_iload C dX10_move_145 rfl ?_
              refine s_isub C dX10_move_147 ?_
              refine s_callV2 C dX10_move_148 cy_X5_put cv_X5_put lk_X10_315 (ct_X5_put E _ l (l + (u - l + 1) - l) (by omega) (by rw [s4]; omega) (by rw [s4, s5]; omega) (by rw [s4]; omega)) (by decide) (by decide) (by first | decide | (decide)) rfl (Nat.le_of_ble_eq_true rfl) (k_V (fun M148 q148 => ?_))
              subst q148
              have s6 : ∀ i, 0 ≤ i → i < M e 7 → plPut (plPut (mput (mcopy M29 41 0 42 0 (M29 40 2)) 40 3 l) (l + (u - l + 1)) (f - (l + (u - l + 1)))) l (l + (u - l + 1) - l) 42 i = mvA (M29 41) l u f i := fun i i0 i1 => mv_behind hpl (by omega) ⟨i0, i1⟩
              have s7 : plPut (plPut (mput (mcopy M29 41 0 42 0 (M29 40 2)) 40 3 l) (l + (u - l + 1)) (f - (l + (u - l + 1)))) l (l + (u - l + 1) - l) 40 2 = M e 7 := by rw [plPut_40, if_neg (by decide)]; exact s4
              have s8 : Sm M29 (plPut (plPut (mput (mcopy M29 41 0 42 0 (M29 40 2)) 40 3 l) (l + (u - l + 1)) (f - (l + (u - l + 1)))) l (l + (u - l + 1) - l)) [40, 42] := fun a ha => by
                simp only [List.mem_cons, List.not_mem_nil, or_false, not_or] at ha
                rw [plPut_ne ha.1 ha.2, plPut_ne ha.1 ha.2, mput_ne ha.1, mcopy_ne ha.2]
              generalize plPut (plPut (mput (mcopy M29 41 0 42 0 (M29 40 2)) 40 3 l) (l + (u - l + 1)) (f - (l + (u - l + 1)))) l (l + (u - l + 1) - l) = X at s6 s7 s8 ⊢
              refine s_aload_n C dX10_move_151 rfl ?_
              refine s_iconst C dX10_move_152 ?_
              refine s_putz (k := 15) (j := 15) C dX10_move_153 fp_X10_136 (by decide) rfl rfl rfl (by decide) ?_
              refine s_aload_n C dX10_move_156 rfl ?_
              refine s_getr (k := 9) (b := 40) C dX10_move_157 fl_X10_62 (by decide) rfl (by decide) rfl ?_
              refine s_callV0 C dX10_move_160 cy_X5_take cv_X5_take lk_X10_318 (ct_X5_take E (mput X 0 15 1) (by rw [mput_ne (by decide), s7]; omega)) (by decide) (by decide) (by first | decide | (decide)) rfl (Nat.le_of_ble_eq_true rfl) (k_I (fun z160 M160 q160 => ?_))
              exact s_ireturn C dX10_move_163 (⟨_, rfl, Or.inr ⟨by omega, M29, r, l, u, q29, hT, hv, Or.inr ⟨by omega, MvP.of hn.1 (by rw [mput_ne (by decide)]; exact s7) (fun a ha => by
      simp only [List.mem_cons, List.not_mem_nil, or_false, not_or] at ha
      rw [mput_ne ha.1]
      exact s8 a (by simp only [List.mem_cons, List.not_mem_nil, or_false]; omega)) (fun k hk => by rw [mput_nk hk, s8 0 (by decide)]) (by rw [mput_eq]) (by rw [mput_ne (by decide), s7, hpl]) (fun i i0 i1 => by rw [mput_ne (by decide)]; exact s6 i i0 i1) q160⟩⟩⟩)
            · skip
              refine s_aload_n C dX10_move_78 rfl ?_
              refine s_getr (k := 9) (b := 40) C dX10_move_79 fl_X10_62 (by decide) rfl (by decide) rfl ?_
              refine s_iload_n C dX10_move_82 rfl ?_
              refine s_callV1 C dX10_move_83 cy_X5_start cv_X5_start lk_X10_301 (ct_X5_start E M29 f (by omega) (by omega)) (by decide) (by decide) (by first | decide | (decide)) rfl (Nat.le_of_ble_eq_true rfl) (k_V (fun M83 q83 => ?_))
              subst q83
              have s2 : (mput (mcopy M29 41 0 42 0 (M29 40 2)) 40 3 f) 40 2 = M e 7 := by rw [mput_nk (by decide), mcopy_ne (by decide)]; exact hpl
              have s3 : (mput (mcopy M29 41 0 42 0 (M29 40 2)) 40 3 f) 40 3 = f := by rw [mput_eq]
              refine s_aload_n C dX10_move_86 rfl ?_
              refine s_getr (k := 9) (b := 40) C dX10_move_87 fl_X10_62 (by decide) rfl (by decide) rfl ?_
              refine s_iload C dX10_move_90 rfl ?_
              refine s_iload C dX10_move_92 rfl ?_
              refine s_iload C dX10_move_94 rfl ?_
              refine s_isub C dX10_move_96 ?_
              refine s_callV2 C dX10_move_97 cy_X5_put cv_X5_put lk_X10_315 (ct_X5_put E _ l (l + (u - l + 1) - l) (by omega) (by rw [s2]; omega) (by rw [s2, s3]; omega) (by rw [s2]; omega)) (by decide) (by decide) (by first | decide | (decide)) rfl (Nat.le_of_ble_eq_true rfl) (k_V (fun M97 q97 => ?_))
              subst q97
              have s4 : plPut (mput (mcopy M29 41 0 42 0 (M29 40 2)) 40 3 f) l (l + (u - l + 1) - l) 40 2 = M e 7 := by rw [plPut_40, if_neg (by decide)]; exact s2
              have s5 : plPut (mput (mcopy M29 41 0 42 0 (M29 40 2)) 40 3 f) l (l + (u - l + 1) - l) 40 3 = f + (l + (u - l + 1) - l) := by rw [plPut_40, if_pos rfl, s3]
              refine s_aload_n C dX10_move_100 rfl ?_
              refine s_getr (k := 9) (b := 40) C dX10_move_101 fl_X10_62 (by decide) rfl (by decide) rfl ?_
              refine s_iload_n C dX10_move_104 rfl ?_
              refine s_iload C dX10_move_105 rfl ?_
              refine s_iload_n C dX10_move_107 rfl ?_
              refine s_isub C dX10_move_108 ?_
              refine s_callV2 C dX10_move_109 cy_X5_put cv_X5_put lk_X10_315 (ct_X5_put E _ f (l - f) (by omega) (by rw [s4]; omega) (by rw [s4, s5]; omega) (by rw [s4]; omega)) (by decide) (by decide) (by first | decide | (decide)) rfl (Nat.le_of_ble_eq_true rfl) (k_V (fun M109 q109 => ?_))
              subst q109
              have s6 : ∀ i, 0 ≤ i → i < M e 7 → plPut (plPut (mput (mcopy M29 41 0 42 0 (M29 40 2)) 40 3 f) l (l + (u - l + 1) - l)) f (l - f) 42 i = mvA (M29 41) l u f i := fun i i0 i1 => mv_ahead hpl (by omega) ⟨i0, i1⟩
              have s7 : plPut (plPut (mput (mcopy M29 41 0 42 0 (M29 40 2)) 40 3 f) l (l + (u - l + 1) - l)) f (l - f) 40 2 = M e 7 := by rw [plPut_40, if_neg (by decide)]; exact s4
              have s8 : Sm M29 (plPut (plPut (mput (mcopy M29 41 0 42 0 (M29 40 2)) 40 3 f) l (l + (u - l + 1) - l)) f (l - f)) [40, 42] := fun a ha => by
                simp only [List.mem_cons, List.not_mem_nil, or_false, not_or] at ha
                rw [plPut_ne ha.1 ha.2, plPut_ne ha.1 ha.2, mput_ne ha.1, mcopy_ne ha.2]
              generalize plPut (plPut (mput (mcopy M29 41 0 42 0 (M29 40 2)) 40 3 f) l (l + (u - l + 1) - l)) f (l - f) = X at s6 s7 s8 ⊢
              refine s_goto (tgt := 151) C dX10_move_112 (by decide) ?_
              refine s_aload_n C dX10_move_151 rfl ?_
              refine s_iconst C dX10_move_152 ?_
              refine s_putz (k := 15) (j := 15) C dX10_move_153 fp_X10_136 (by decide) rfl rfl rfl (by decide) ?_
              refine s_aload_n C dX10_move_156 rfl ?_
              refine s_getr (k := 9) (b := 40) C dX10_move_157 fl_X10_62 (by decide) rfl (by decide) rfl ?_
              refine s_callV0 C dX10_move_160 cy_X5_take cv_X5_take lk_X10_318 (ct_X5_take E (mput X 0 15 1) (by rw [mput_ne (by decide), s7]; omega)) (by decide) (by decide) (by first | decide | (decide)) rfl (Nat.le_of_ble_eq_true rfl) (k_I (fun z160 M160 q160 => ?_))
              exact s_ireturn C dX10_move_163 (⟨_, rfl, Or.inr ⟨by omega, M29, r, l, u, q29, hT, hv, Or.inr ⟨by omega, MvP.of hn.1 (by rw [mput_ne (by decide)]; exact s7) (fun a ha => by
      simp only [List.mem_cons, List.not_mem_nil, or_false, not_or] at ha
      rw [mput_ne ha.1]
      exact s8 a (by simp only [List.mem_cons, List.not_mem_nil, or_false]; omega)) (fun k hk => by rw [mput_nk hk, s8 0 (by decide)]) (by rw [mput_eq]) (by rw [mput_ne (by decide), s7, hpl]) (fun i i0 i1 => by rw [mput_ne (by decide)]; exact s6 i i0 i1) q160⟩⟩⟩)
          · skip
            refine s_bipush C dX10_move_69 (by decide) ?_
            exact s_ireturn C dX10_move_71 (⟨_, rfl, Or.inr ⟨by omega, M29, r, l, u, q29, hT, hv, Or.inl ⟨by omega, by omega, rfl, rfl⟩⟩⟩)
      · skip
        refine s_bipush C dX10_move_25 (by decide) ?_
        exact s_ireturn C dX10_move_27 (⟨_, rfl, Or.inl ⟨fun h => by omega, rfl, rfl⟩⟩)

/-- the reference's places are as g says -/
def MvR (M1 M' : Mm) (n z : Int) (g : Int → Int) : Prop := Sm M1 M' [66, 85, 106] ∧ (∀ k : Int, k ≠ 32 → M' 66 k = M1 66 k) ∧ (M' 66 32 ≠ 0 → ∀ i, 0 ≤ i → i < n → M1 85 i = g i) ∧ (∀ i, 0 ≤ i → i < n → M' 85 i = g i) ∧ (∀ i, (i < 0 ∨ n ≤ i) → M' 85 i = M1 85 i) ∧ z = cntB (fun i => M1 85 i != g i) n.toNat
def saF (M : Mm) (j : Int) : Mm := fun b => if b = 85 then (fun i => if 0 ≤ i ∧ i < j then M 106 i else M 85 i) else M b
theorem saF_85 (M : Mm) (j i : Int) : saF M j 85 i = if 0 ≤ i ∧ i < j then M 106 i else M 85 i := rfl
theorem saF_ne {M : Mm} {j : Int} {a : Nat} (h : a ≠ 85) : saF M j a = M a := by simp [saF, h]
theorem saF_0 (M : Mm) : saF M 0 = M := by
  funext b i
  by_cases h : b = 85
  · subst h; rw [saF_85, if_neg (by omega)]
  · rw [saF_ne h]
theorem saF_s (M : Mm) (j : Int) (hj : 0 ≤ j) : mput (saF M j) 85 j (M 106 j) = saF M (j + 1) := by
  funext b i
  by_cases h : b = 85
  · subst h
    rw [mput_at, saF_85, saF_85]
    by_cases c : i = j
    · subst c; rw [if_pos rfl, if_pos (by omega)]
    · rw [if_neg c]
      by_cases c2 : 0 ≤ i ∧ i < j
      · rw [if_pos c2, if_pos (by omega)]
      · rw [if_neg c2, if_neg (by omega)]
  · rw [mput_ne h, saF_ne h, saF_ne h]
theorem cntB_0 {f : Int → Bool} : ∀ n : Nat, cntB f n = 0 → ∀ i : Int, 0 ≤ i → i < (n : Int) → f i = false := by
  intro n
  induction n with
  | zero => intro _ i a b; omega
  | succ n ih =>
    intro h i a b
    rw [cntB] at h
    have h1 := (cntB_nn f n).1
    by_cases c : f (n : Int) = true
    · rw [if_pos c] at h; omega
    · rw [if_neg c] at h
      by_cases e : i = (n : Int)
      · subst e; simpa using c
      · exact ih (by omega) i a (by omega)

set_option maxRecDepth 20000 in
set_option maxHeartbeats 4000000 in
theorem ct_X11_setAll (E : Ev) (M : Mm) (n : Int) (hn : 0 ≤ n ∧ n ≤ 24) (hmn : M 66 24 = n) : Ct E yX11_setAll cX11_setAll 3 (some .int) 0 [zr E 66] M (pI (fun z M' => z = cntB (fun q => M 85 q != M 106 q) n.toNat ∧ M' = if 0 < z then mput (saF M n) 66 32 0 else saF M n)) := by
  refine Ct.of (own := RX11) (lv0 := [some (zr E 66), none, none]) (by decide) rfl (Nat.le_of_ble_eq_true rfl) rfl (fun κ C => ?_)
  have L4 : ∀ (n9 : Nat) (i : Nat) (hi : (i : Int) ≤ n) (hm : (n - (i : Int)).toNat < n9), Gm E κ (pI (fun z M' => z = cntB (fun q => M 85 q != M 106 q) n.toNat ∧ M' = if 0 < z then mput (saF M n) 66 32 0 else saF M n)) 3 4 [some (zr E 66), some (zi (cntB (fun q => M 85 q != M 106 q) i)), some (zi (i : Int))] [] (saF M (i : Int)) := by
    intro n9
    induction n9 with
    | zero => intro i  hi hm; exact absurd hm (Nat.not_lt_zero _)
    | succ n9 ih4 =>
      intro i  hi hm
      refine s_iload_n C dX11_setAll_4 rfl ?_
      refine s_aload_n C dX11_setAll_5 rfl ?_
      refine s_geti (k := 24) (j := 24) (z := n) C dX11_setAll_6 fl_X11_196 (by decide) rfl (by decide) rfl (by rw [saF_ne (by decide)]; exact hmn) (fun r6 => ?_)
      refine s_icmp_ge (tgt := 53) C dX11_setAll_9 (by decide) (by omega) (by omega) (fun c9 => ?_) (fun c9 => ?_)
      · skip
        refine s_iload_n C dX11_setAll_53 rfl ?_
        refine s_if_le (tgt := 62) C dX11_setAll_54 (by decide) (by have := cntB_nn (fun q => M 85 q != M 106 q) i; omega) (fun c54 => ?_) (fun c54 => ?_)
        · skip
          refine s_iload_n C dX11_setAll_62 rfl ?_
          exact s_ireturn C dX11_setAll_63 (⟨_, rfl, by
      have hi2 : n.toNat = i := by omega
      have hi3 : ((i : Nat) : Int) = n := by omega
      rw [hi2, hi3]
      refine ⟨rfl, ?_⟩
      first
        | (rw [if_neg (by omega)]; done)
        | (rw [if_pos (by omega)]; done)⟩)
        · skip
          refine s_aload_n C dX11_setAll_57 rfl ?_
          refine s_iconst C dX11_setAll_58 ?_
          refine s_putz (k := 32) (j := 32) C dX11_setAll_59 fp_X11_176 (by decide) rfl rfl rfl (by decide) ?_
          refine s_iload_n C dX11_setAll_62 rfl ?_
          exact s_ireturn C dX11_setAll_63 (⟨_, rfl, by
      have hi2 : n.toNat = i := by omega
      have hi3 : ((i : Nat) : Int) = n := by omega
      rw [hi2, hi3]
      refine ⟨rfl, ?_⟩
      first
        | (rw [if_neg (by omega)]; done)
        | (rw [if_pos (by omega)]; done)⟩)
      · skip
        refine s_iload_n C dX11_setAll_12 rfl ?_
        refine s_aload_n C dX11_setAll_13 rfl ?_
        refine s_getr (k := 23) (b := 85) C dX11_setAll_14 fl_X11_65 (by decide) rfl (by decide) rfl ?_
        refine s_iload_n C dX11_setAll_17 rfl ?_
        refine s_iaload (n := 24) (z := M 85 (i : Int)) C dX11_setAll_18 (by decide) rfl rfl (by omega) (by omega) (by omega) (by rw [saF_85, if_neg (by omega)]) (fun r18 => ?_)
        refine s_aload_n C dX11_setAll_19 rfl ?_
        refine s_getr (k := 54) (b := 106) C dX11_setAll_20 fl_X11_133 (by decide) rfl (by decide) rfl ?_
        refine s_iload_n C dX11_setAll_23 rfl ?_
        refine s_iaload (n := 24) (z := M 106 (i : Int)) C dX11_setAll_24 (by decide) rfl rfl (by omega) (by omega) (by omega) (by rw [saF_ne (by decide)]) (fun r24 => ?_)
        refine s_icmp_eq (tgt := 32) C dX11_setAll_25 (by decide) (by omega) (by omega) (fun c25 => ?_) (fun c25 => ?_)
        · skip
          refine s_iconst C dX11_setAll_32 ?_
          refine s_iadd C dX11_setAll_33 ?_
          refine s_istore_n (lv' := [_, _, _]) C dX11_setAll_34 (by decide) rfl rfl ?_
          refine s_aload_n C dX11_setAll_35 rfl ?_
          refine s_getr (k := 23) (b := 85) C dX11_setAll_36 fl_X11_65 (by decide) rfl (by decide) rfl ?_
          refine s_iload_n C dX11_setAll_39 rfl ?_
          refine s_aload_n C dX11_setAll_40 rfl ?_
          refine s_getr (k := 54) (b := 106) C dX11_setAll_41 fl_X11_133 (by decide) rfl (by decide) rfl ?_
          refine s_iload_n C dX11_setAll_44 rfl ?_
          refine s_iaload (n := 24) (z := M 106 (i : Int)) C dX11_setAll_45 (by decide) rfl rfl (by omega) (by omega) (by omega) (by rw [saF_ne (by decide)]) (fun r45 => ?_)
          refine s_iastore (n := 24) C dX11_setAll_46 (by decide) rfl rfl (by omega) (by omega) (by omega) (by omega) ?_
          refine s_iinc (lv' := [_, _, _]) C dX11_setAll_47 rfl (by decide) rfl rfl rfl ?_
          refine s_goto (tgt := 4) C dX11_setAll_50 (by decide) ?_
          rw [saF_s M _ (by omega)]
          have e9 : cntB (fun q => M 85 q != M 106 q) (i + 1) = cntB (fun q => M 85 q != M 106 q) i + (if (M 85 (i : Int) != M 106 (i : Int)) then 1 else 0) := rfl
          first
            | (rw [if_neg (by simp [c25]), Int.add_zero] at e9; rw [show (i : Int) + 1 = ((i + 1 : Nat) : Int) by omega, Int.add_zero, ← e9]; exact ih4 (i + 1) (by omega) (by omega))
            | (rw [if_pos (by simp [c25])] at e9; rw [show (i : Int) + 1 = ((i + 1 : Nat) : Int) by omega, ← e9]; exact ih4 (i + 1) (by omega) (by omega))
        · skip
          refine s_iconst C dX11_setAll_28 ?_
          refine s_goto (tgt := 33) C dX11_setAll_29 (by decide) ?_
          refine s_iadd C dX11_setAll_33 ?_
          refine s_istore_n (lv' := [_, _, _]) C dX11_setAll_34 (by decide) rfl rfl ?_
          refine s_aload_n C dX11_setAll_35 rfl ?_
          refine s_getr (k := 23) (b := 85) C dX11_setAll_36 fl_X11_65 (by decide) rfl (by decide) rfl ?_
          refine s_iload_n C dX11_setAll_39 rfl ?_
          refine s_aload_n C dX11_setAll_40 rfl ?_
          refine s_getr (k := 54) (b := 106) C dX11_setAll_41 fl_X11_133 (by decide) rfl (by decide) rfl ?_
          refine s_iload_n C dX11_setAll_44 rfl ?_
          refine s_iaload (n := 24) (z := M 106 (i : Int)) C dX11_setAll_45 (by decide) rfl rfl (by omega) (by omega) (by omega) (by rw [saF_ne (by decide)]) (fun r45 => ?_)
          refine s_iastore (n := 24) C dX11_setAll_46 (by decide) rfl rfl (by omega) (by omega) (by omega) (by omega) ?_
          refine s_iinc (lv' := [_, _, _]) C dX11_setAll_47 rfl (by decide) rfl rfl rfl ?_
          refine s_goto (tgt := 4) C dX11_setAll_50 (by decide) ?_
          rw [saF_s M _ (by omega)]
          have e9 : cntB (fun q => M 85 q != M 106 q) (i + 1) = cntB (fun q => M 85 q != M 106 q) i + (if (M 85 (i : Int) != M 106 (i : Int)) then 1 else 0) := rfl
          first
            | (rw [if_neg (by simp [c25]), Int.add_zero] at e9; rw [show (i : Int) + 1 = ((i + 1 : Nat) : Int) by omega, Int.add_zero, ← e9]; exact ih4 (i + 1) (by omega) (by omega))
            | (rw [if_pos (by simp [c25])] at e9; rw [show (i : Int) + 1 = ((i + 1 : Nat) : Int) by omega, ← e9]; exact ih4 (i + 1) (by omega) (by omega))
  refine s_iconst C dX11_setAll_0 ?_
  refine s_istore_n (lv' := [_, _, _]) C dX11_setAll_1 (by decide) rfl rfl ?_
  refine s_iconst C dX11_setAll_2 ?_
  refine s_istore_n (lv' := [_, _, _]) C dX11_setAll_3 (by decide) rfl rfl ?_
  have h := L4 _ 0 (by omega) (Nat.lt_succ_self _)
  rw [show ((0 : Nat) : Int) = 0 from rfl, saF_0] at h
  exact h

theorem MvR.of {M1 X M' : Mm} {n z : Int} {g : Int → Int} (hn : 0 ≤ n) (hs : Sm M1 X [106]) (hg : ∀ i, 0 ≤ i → i < n → X 106 i = g i) (q : z = cntB (fun q => X 85 q != X 106 q) n.toNat ∧ M' = if 0 < z then mput (saF X n) 66 32 0 else saF X n) : MvR M1 M' n z g := by
  obtain ⟨q1, q2⟩ := q
  have e85 : X 85 = M1 85 := hs 85 (by decide)
  have e66 : X 66 = M1 66 := hs 66 (by decide)
  have hz : z = cntB (fun i => M1 85 i != g i) n.toNat := by
    rw [q1]
    exact cntB_congr n.toNat (fun i i0 i1 => by rw [hg i i0 (by omega), e85])
  have r85 : M' 85 = saF X n 85 := by rw [q2]; split; rw [mput_ne (by decide)]; rfl
  refine ⟨fun a ha => ?_, fun k hk => ?_, fun h i i0 i1 => ?_, fun i i0 i1 => ?_, fun i hi => ?_, hz⟩
  · simp only [List.mem_cons, List.not_mem_nil, or_false, not_or] at ha
    have e : M' a = X a := by
      rw [q2]
      split
      · rw [mput_ne ha.1, saF_ne ha.2.1]
      · rw [saF_ne ha.2.1]
    rw [e]
    exact hs a (by simp only [List.mem_cons, List.not_mem_nil, or_false]; omega)
  · rw [q2]
    split
    · rw [mput_nk hk, saF_ne (by decide), e66]
    · rw [saF_ne (by decide), e66]
  · by_cases c : 0 < z
    · rw [q2, if_pos c, mput_eq] at h
      exact absurd rfl h
    · have h0 : cntB (fun i => M1 85 i != g i) n.toNat = 0 := by
        have := (cntB_nn (fun i => M1 85 i != g i) n.toNat).1
        omega
      have := cntB_0 n.toNat h0 i i0 (by omega)
      simpa using this
  · rw [r85, saF_85, if_pos ⟨i0, i1⟩]; exact hg i i0 i1
  · rw [r85, saF_85, if_neg (by omega), e85]
