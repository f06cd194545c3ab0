/-- all cells of spans narrower than this, within a .. b, stand for their lists -/
def Nar (w : Int → Int → Int) (M : Mm) (a b wd : Int) : Prop := (∀ h e, a ≤ h → h ≤ b → a ≤ e → e ≤ b → h - e < wd → e - h < wd → Cg w M (h * 24 + e) (sD h e)) ∧ ∀ i j, a ≤ i → i < j → j ≤ b → j - i < wd → Cg w M (576 + i * 24 + j) (gD i j)

set_option maxRecDepth 20000 in
set_option maxHeartbeats 4000000 in
theorem ct_X1_fillSpan (E : Ev) (w : Int → Int → Int) (hw : wOk w) (M : Mm) (i j : Int) (hij : 0 ≤ i ∧ i < j ∧ j < 24) (h44 : ∀ h d, i ≤ h → h ≤ j → i ≤ d → d ≤ j → h ≠ d → M 44 (h * 24 + d) = w d h) (hN : Nar w M i j (j - i)) : Ct E yX1_fillSpan cX1_fillSpan 8 none 2 [zr E 43, zi i, zi j] M (pV (fun M' => On M M' [(576 + i * 24 + j), (i * 24 + j), (j * 24 + i)] ∧ Cg w M' (576 + i * 24 + j) (gD i j) ∧ Cg w M' (i * 24 + j) (sD i j) ∧ Cg w M' (j * 24 + i) (sD j i))) := by
  refine Ct.of (own := RX1) (lv0 := [some (zr E 43), some (zi i), some (zi j), none, none, none, none, none]) (by decide) rfl (Nat.le_of_ble_eq_true rfl) rfl (fun κ C => ?_)
  have pG : Pw w ((rgI i (j - 1)).flatMap (fun k => prd (sD i k) (sD j (k + 1)) [])) := gD_Pw hw hij.1 hij.2.1 hij.2.2
  have pS1 : Pw w ((rgI (i + 1) j).flatMap (fun d => prd (gD i d) (sD d j) [(d, i)])) := by
    have := sD_Pw hw (h := i) (e := j) hij.1 (by omega) (by omega) hij.2.2
    rwa [sD_up hij.2.1 (by omega)] at this
  have pS2 : Pw w ((rgI i (j - 1)).flatMap (fun d => prd (sD d i) (gD d j) [(d, j)])) := by
    have := sD_Pw hw (h := j) (e := i) (by omega) hij.2.2 hij.1 (by omega)
    rwa [sD_dn hij.2.1 (by omega)] at this
  have L131 : ∀ (n9 : Nat) (A : Mm) (d : Int) (u7 : Option Value) (hd : i ≤ d ∧ d ≤ j) (hOn : On M A [(576 + i * 24 + j), (i * 24 + j), (j * 24 + i)]) (hG : Cg w A (576 + i * 24 + j) (gD i j)) (hS : Cg w A (i * 24 + j) (sD i j)) (hCs : Cs0 w A (j * 24 + i) ((rgI i (d - 1)).flatMap (fun d => prd (sD d i) (gD d j) [(d, j)]))) (hC : i < d → Cg w A (j * 24 + i) ((rgI i (d - 1)).flatMap (fun d => prd (sD d i) (gD d j) [(d, j)]))) (hm : (j - d).toNat < n9), Gm E κ (pV (fun M' => On M M' [(576 + i * 24 + j), (i * 24 + j), (j * 24 + i)] ∧ Cg w M' (576 + i * 24 + j) (gD i j) ∧ Cg w M' (i * 24 + j) (sD i j) ∧ Cg w M' (j * 24 + i) (sD j i))) 8 131 [some (zr E 43), some (zi i), some (zi j), some (zi (576 + i * 24 + j)), some (zi (i * 24 + j)), some (zi (j * 24 + i)), some (zi d), u7] [] A := by
    intro n9
    induction n9 with
    | zero => intro A d u7 hd hOn hG hS hCs hC hm; exact absurd hm (Nat.not_lt_zero _)
    | succ n9 ih131 =>
      intro A d u7 hd hOn hG hS hCs hC hm
      refine s_iload C dX1_fillSpan_131 rfl ?_
      refine s_iload_n C dX1_fillSpan_133 rfl ?_
      refine s_icmp_ge (tgt := 180) C dX1_fillSpan_134 (by decide) (by omega) (by omega) (fun c134 => ?_) (fun c134 => ?_)
      · skip
        exact s_return C dX1_fillSpan_180 (⟨rfl, ⟨hOn, hG, hS, by
      have := hC (by omega)
      rw [show d = j by omega, ← sD_dn hij.2.1 (by omega)] at this
      exact this⟩⟩)
      · skip
        refine s_aload_n C dX1_fillSpan_137 rfl ?_
        refine s_getr (k := 0) (b := 44) C dX1_fillSpan_138 fl_X1_11 (by decide) rfl (by decide) rfl ?_
        refine s_iload_n C dX1_fillSpan_141 rfl ?_
        refine s_bipush C dX1_fillSpan_142 (by decide) ?_
        refine s_imul C dX1_fillSpan_144 ?_
        refine s_iload C dX1_fillSpan_145 rfl ?_
        refine s_iadd C dX1_fillSpan_147 ?_
        refine s_iaload (n := 576) (z := w d j) C dX1_fillSpan_148 (by decide) rfl rfl (by omega) (by omega) (by omega) (by rw [hOn.1 44 (by decide)]; exact h44 j d (by omega) (by omega) (by omega) (by omega) (by omega)) (fun r148 => ?_)
        refine s_istore (lv' := [_, _, _, _, _, _, _, _]) C dX1_fillSpan_149 (by decide) rfl rfl ?_
        refine s_aload_n C dX1_fillSpan_151 rfl ?_
        refine s_iload C dX1_fillSpan_152 rfl ?_
        refine s_iload C dX1_fillSpan_154 rfl ?_
        refine s_iload_n C dX1_fillSpan_156 rfl ?_
        refine s_callS2 C dX1_fillSpan_157 cy_X1_side cs_X1_side lk_X1_31 (ct_X1_side E A d i) (by decide) (Nat.le_of_ble_eq_true rfl) (k_P (fun z157 q157 => ?_))
        subst q157
        refine s_iload C dX1_fillSpan_160 rfl ?_
        refine s_iload_n C dX1_fillSpan_162 rfl ?_
        refine s_callS2 C dX1_fillSpan_163 cy_X1_gap cs_X1_gap lk_X1_50 (ct_X1_gap E A d j) (by decide) (Nat.le_of_ble_eq_true rfl) (k_P (fun z163 q163 => ?_))
        subst q163
        refine s_iload C dX1_fillSpan_166 rfl ?_
        refine s_iload_n C dX1_fillSpan_168 rfl ?_
        refine s_iload C dX1_fillSpan_169 rfl ?_
        have hgd : Cg w A (576 + d * 24 + j) (gD d j) := by
          by_cases c : d = i
          · rw [c]; exact hG
          · exact (hN.2 d j (by omega) (by omega) (by omega) (by omega)).on hOn (by simp only [List.mem_cons, List.not_mem_nil, or_false]; omega)
        refine s_callV6 C dX1_fillSpan_171 cy_X1_offer cv_X1_offer lk_X1_46 (ct_offer E (w := w) (M := A) (t := [(d, j)]) (A := sD d i) (B := gD d j) (by omega) (by omega) (by omega) (by omega) (by omega) hCs ((hN.1 d i (by omega) (by omega) (by omega) (by omega) (by omega) (by omega)).on hOn (by simp only [List.mem_cons, List.not_mem_nil, or_false]; omega)) hgd (Pw_part pS2 (by omega)) (sD_Pw hw (by omega) (by omega) (by omega) (by omega)) (gD_Pw hw (by omega) (by omega) (by omega)) (Pw_at pS2 (k := d) (by omega) (by omega)) (by simp [cO]) (hw d j (by omega) (by omega) (by omega) (by omega)) (by simp [hiA]) (by simp [loA])) (by decide) (by decide) (by first | decide | (decide)) rfl (Nat.le_of_ble_eq_true rfl) (k_V (fun M171 q171 => ?_))
        refine s_iinc (lv' := [_, _, _, _, _, _, _, _]) C dX1_fillSpan_174 rfl (by decide) rfl rfl rfl ?_
        refine s_goto (tgt := 131) C dX1_fillSpan_177 (by decide) ?_
        have e := fm_next (F := (fun d => prd (sD d i) (gD d j) [(d, j)])) (a := i) (k := d) (by omega)
        exact ih131 _ _ _ (by omega) (hOn.tr q171.2 (fun c h => by simp only [List.mem_cons, List.not_mem_nil, or_false] at h ⊢; omega)) (hG.on q171.2 (by simp only [List.mem_singleton]; omega)) (hS.on q171.2 (by simp only [List.mem_singleton]; omega)) (by rw [e]; exact Or.inr q171.1) (fun _ => by rw [e]; exact q171.1) (by omega)
  have L66 : ∀ (n9 : Nat) (A : Mm) (d : Int) (u6 u7 : Option Value) (hd : i + 1 ≤ d ∧ d ≤ j + 1) (hOn : On M A [(576 + i * 24 + j), (i * 24 + j)]) (hG : Cg w A (576 + i * 24 + j) (gD i j)) (hCs : Cs0 w A (i * 24 + j) ((rgI (i + 1) (d - 1)).flatMap (fun d => prd (gD i d) (sD d j) [(d, i)]))) (hC : i + 1 < d → Cg w A (i * 24 + j) ((rgI (i + 1) (d - 1)).flatMap (fun d => prd (gD i d) (sD d j) [(d, i)]))) (hm : (j + 1 - d).toNat < n9), Gm E κ (pV (fun M' => On M M' [(576 + i * 24 + j), (i * 24 + j), (j * 24 + i)] ∧ Cg w M' (576 + i * 24 + j) (gD i j) ∧ Cg w M' (i * 24 + j) (sD i j) ∧ Cg w M' (j * 24 + i) (sD j i))) 8 66 [some (zr E 43), some (zi i), some (zi j), some (zi (576 + i * 24 + j)), some (zi (i * 24 + j)), some (zi d), u6, u7] [] A := by
    intro n9
    induction n9 with
    | zero => intro A d u6 u7 hd hOn hG hCs hC hm; exact absurd hm (Nat.not_lt_zero _)
    | succ n9 ih66 =>
      intro A d u6 u7 hd hOn hG hCs hC hm
      refine s_iload C dX1_fillSpan_66 rfl ?_
      refine s_iload_n C dX1_fillSpan_68 rfl ?_
      refine s_icmp_gt (tgt := 115) C dX1_fillSpan_69 (by decide) (by omega) (by omega) (fun c69 => ?_) (fun c69 => ?_)
      · skip
        have hS0 : Cg w A (i * 24 + j) (sD i j) := by
          have := hC (by omega)
          rw [show d - 1 = j by omega, ← sD_up hij.2.1 (by omega)] at this
          exact this
        refine s_iload_n C dX1_fillSpan_115 rfl ?_
        refine s_iload_n C dX1_fillSpan_116 rfl ?_
        refine s_callS2 C dX1_fillSpan_117 cy_X1_side cs_X1_side lk_X1_31 (ct_X1_side E A j i) (by decide) (Nat.le_of_ble_eq_true rfl) (k_P (fun z117 q117 => ?_))
        subst q117
        refine s_istore (lv' := [_, _, _, _, _, _, _, _]) C dX1_fillSpan_120 (by decide) rfl rfl ?_
        refine s_aload_n C dX1_fillSpan_122 rfl ?_
        refine s_iload C dX1_fillSpan_123 rfl ?_
        refine s_callV1 C dX1_fillSpan_125 cy_X1_setEmpty cv_X1_setEmpty lk_X1_43 (ct_X1_setEmpty E A (j * 24 + i) (by omega)) (by decide) (by decide) (by first | decide | (decide)) rfl (Nat.le_of_ble_eq_true rfl) (k_V (fun M125 q125 => ?_))
        subst q125
        refine s_iload_n C dX1_fillSpan_128 rfl ?_
        refine s_istore (lv' := [_, _, _, _, _, _, _, _]) C dX1_fillSpan_129 (by decide) rfl rfl ?_
        exact L131 _ _ _ _ (by omega) ((hOn.wk (fun c h => by simp only [List.mem_cons, List.not_mem_nil, or_false] at h ⊢; omega)).tr (fEmpty_on A _) (fun c h => by simp only [List.mem_cons, List.not_mem_nil, or_false] at h ⊢; omega)) (hG.on (fEmpty_on A _) (by simp only [List.mem_singleton]; omega)) (hS0.on (fEmpty_on A _) (by simp only [List.mem_singleton]; omega)) (by rw [rgI_nil (by omega)]; exact fEmpty_Cs w A _) (fun q => by omega) (Nat.lt_succ_self _)
      · skip
        refine s_aload_n C dX1_fillSpan_72 rfl ?_
        refine s_getr (k := 0) (b := 44) C dX1_fillSpan_73 fl_X1_11 (by decide) rfl (by decide) rfl ?_
        refine s_iload_n C dX1_fillSpan_76 rfl ?_
        refine s_bipush C dX1_fillSpan_77 (by decide) ?_
        refine s_imul C dX1_fillSpan_79 ?_
        refine s_iload C dX1_fillSpan_80 rfl ?_
        refine s_iadd C dX1_fillSpan_82 ?_
        refine s_iaload (n := 576) (z := w d i) C dX1_fillSpan_83 (by decide) rfl rfl (by omega) (by omega) (by omega) (by rw [hOn.1 44 (by decide)]; exact h44 i d (by omega) (by omega) (by omega) (by omega) (by omega)) (fun r83 => ?_)
        refine s_istore (lv' := [_, _, _, _, _, _, _, _]) C dX1_fillSpan_84 (by decide) rfl rfl ?_
        refine s_aload_n C dX1_fillSpan_86 rfl ?_
        refine s_iload C dX1_fillSpan_87 rfl ?_
        refine s_iload_n C dX1_fillSpan_89 rfl ?_
        refine s_iload C dX1_fillSpan_90 rfl ?_
        refine s_callS2 C dX1_fillSpan_92 cy_X1_gap cs_X1_gap lk_X1_50 (ct_X1_gap E A i d) (by decide) (Nat.le_of_ble_eq_true rfl) (k_P (fun z92 q92 => ?_))
        subst q92
        refine s_iload C dX1_fillSpan_95 rfl ?_
        refine s_iload_n C dX1_fillSpan_97 rfl ?_
        refine s_callS2 C dX1_fillSpan_98 cy_X1_side cs_X1_side lk_X1_31 (ct_X1_side E A d j) (by decide) (Nat.le_of_ble_eq_true rfl) (k_P (fun z98 q98 => ?_))
        subst q98
        refine s_iload C dX1_fillSpan_101 rfl ?_
        refine s_iload_n C dX1_fillSpan_103 rfl ?_
        refine s_iload C dX1_fillSpan_104 rfl ?_
        have hgd : Cg w A (576 + i * 24 + d) (gD i d) := by
          by_cases c : d = j
          · rw [c]; exact hG
          · exact (hN.2 i d (by omega) (by omega) (by omega) (by omega)).on hOn (by simp only [List.mem_cons, List.not_mem_nil, or_false]; omega)
        refine s_callV6 C dX1_fillSpan_106 cy_X1_offer cv_X1_offer lk_X1_46 (ct_offer E (w := w) (M := A) (t := [(d, i)]) (A := gD i d) (B := sD d j) (by omega) (by omega) (by omega) (by omega) (by omega) hCs hgd ((hN.1 d j (by omega) (by omega) (by omega) (by omega) (by omega) (by omega)).on hOn (by simp only [List.mem_cons, List.not_mem_nil, or_false]; omega)) (Pw_part pS1 (by omega)) (gD_Pw hw (by omega) (by omega) (by omega)) (sD_Pw hw (by omega) (by omega) (by omega) (by omega)) (Pw_at pS1 (k := d) (by omega) (by omega)) (by simp [cO]) (hw d i (by omega) (by omega) (by omega) (by omega)) (by simp [hiA]) (by simp [loA])) (by decide) (by decide) (by first | decide | (decide)) rfl (Nat.le_of_ble_eq_true rfl) (k_V (fun M106 q106 => ?_))
        refine s_iinc (lv' := [_, _, _, _, _, _, _, _]) C dX1_fillSpan_109 rfl (by decide) rfl rfl rfl ?_
        refine s_goto (tgt := 66) C dX1_fillSpan_112 (by decide) ?_
        have e := fm_next (F := (fun d => prd (gD i d) (sD d j) [(d, i)])) (a := i + 1) (k := d) (by omega)
        exact ih66 _ _ _ _ (by omega) (hOn.tr q106.2 (fun c h => List.mem_cons_of_mem _ h)) (hG.on q106.2 (by simp only [List.mem_singleton]; omega)) (by rw [e]; exact Or.inr q106.1) (fun _ => by rw [e]; exact q106.1) (by omega)
  have L14 : ∀ (n9 : Nat) (A : Mm) (k : Int) (u5 u6 u7 : Option Value) (hk : i ≤ k ∧ k ≤ j) (hOn : On M A [(576 + i * 24 + j)]) (hCs : Cs0 w A (576 + i * 24 + j) ((rgI i (k - 1)).flatMap (fun k => prd (sD i k) (sD j (k + 1)) []))) (hC : i < k → Cg w A (576 + i * 24 + j) ((rgI i (k - 1)).flatMap (fun k => prd (sD i k) (sD j (k + 1)) []))) (hm : (j - k).toNat < n9), Gm E κ (pV (fun M' => On M M' [(576 + i * 24 + j), (i * 24 + j), (j * 24 + i)] ∧ Cg w M' (576 + i * 24 + j) (gD i j) ∧ Cg w M' (i * 24 + j) (sD i j) ∧ Cg w M' (j * 24 + i) (sD j i))) 8 14 [some (zr E 43), some (zi i), some (zi j), some (zi (576 + i * 24 + j)), some (zi k), u5, u6, u7] [] A := by
    intro n9
    induction n9 with
    | zero => intro A k u5 u6 u7 hk hOn hCs hC hm; exact absurd hm (Nat.not_lt_zero _)
    | succ n9 ih14 =>
      intro A k u5 u6 u7 hk hOn hCs hC hm
      refine s_iload C dX1_fillSpan_14 rfl ?_
      refine s_iload_n C dX1_fillSpan_16 rfl ?_
      refine s_icmp_ge (tgt := 48) C dX1_fillSpan_17 (by decide) (by omega) (by omega) (fun c17 => ?_) (fun c17 => ?_)
      · skip
        have hG0 : Cg w A (576 + i * 24 + j) (gD i j) := by
          have := hC (by omega)
          rw [show k = j by omega] at this
          exact this
        refine s_iload_n C dX1_fillSpan_48 rfl ?_
        refine s_iload_n C dX1_fillSpan_49 rfl ?_
        refine s_callS2 C dX1_fillSpan_50 cy_X1_side cs_X1_side lk_X1_31 (ct_X1_side E A i j) (by decide) (Nat.le_of_ble_eq_true rfl) (k_P (fun z50 q50 => ?_))
        subst q50
        refine s_istore (lv' := [_, _, _, _, _, _, _, _]) C dX1_fillSpan_53 (by decide) rfl rfl ?_
        refine s_aload_n C dX1_fillSpan_55 rfl ?_
        refine s_iload C dX1_fillSpan_56 rfl ?_
        refine s_callV1 C dX1_fillSpan_58 cy_X1_setEmpty cv_X1_setEmpty lk_X1_43 (ct_X1_setEmpty E A (i * 24 + j) (by omega)) (by decide) (by decide) (by first | decide | (decide)) rfl (Nat.le_of_ble_eq_true rfl) (k_V (fun M58 q58 => ?_))
        subst q58
        refine s_iload_n C dX1_fillSpan_61 rfl ?_
        refine s_iconst C dX1_fillSpan_62 ?_
        refine s_iadd C dX1_fillSpan_63 ?_
        refine s_istore (lv' := [_, _, _, _, _, _, _, _]) C dX1_fillSpan_64 (by decide) rfl rfl ?_
        exact L66 _ _ _ _ _ (by omega) ((hOn.wk (fun c h => List.mem_cons.mpr (Or.inl (List.mem_singleton.mp h)))).tr (fEmpty_on A _) (fun c h => List.mem_cons_of_mem _ h)) (hG0.on (fEmpty_on A _) (by simp only [List.mem_singleton]; omega)) (by rw [rgI_nil (by omega)]; exact fEmpty_Cs w A _) (fun q => by omega) (Nat.lt_succ_self _)
      · skip
        refine s_aload_n C dX1_fillSpan_20 rfl ?_
        refine s_iload_n C dX1_fillSpan_21 rfl ?_
        refine s_iload_n C dX1_fillSpan_22 rfl ?_
        refine s_iload C dX1_fillSpan_23 rfl ?_
        refine s_callS2 C dX1_fillSpan_25 cy_X1_side cs_X1_side lk_X1_31 (ct_X1_side E A i k) (by decide) (Nat.le_of_ble_eq_true rfl) (k_P (fun z25 q25 => ?_))
        subst q25
        refine s_iload_n C dX1_fillSpan_28 rfl ?_
        refine s_iload C dX1_fillSpan_29 rfl ?_
        refine s_iconst C dX1_fillSpan_31 ?_
        refine s_iadd C dX1_fillSpan_32 ?_
        refine s_callS2 C dX1_fillSpan_33 cy_X1_side cs_X1_side lk_X1_31 (ct_X1_side E A j (k + 1)) (by decide) (Nat.le_of_ble_eq_true rfl) (k_P (fun z33 q33 => ?_))
        subst q33
        refine s_iconst C dX1_fillSpan_36 ?_
        refine s_iconst C dX1_fillSpan_37 ?_
        refine s_iload_n C dX1_fillSpan_38 rfl ?_
        refine s_callV6 C dX1_fillSpan_39 cy_X1_offer cv_X1_offer lk_X1_46 (ct_offer E (w := w) (M := A) (t := []) (A := sD i k) (B := sD j (k + 1)) (by omega) (by omega) (by omega) (by omega) (by omega) hCs ((hN.1 i k (by omega) (by omega) (by omega) (by omega) (by omega) (by omega)).on hOn (by simp only [List.mem_singleton]; omega)) ((hN.1 j (k + 1) (by omega) (by omega) (by omega) (by omega) (by omega) (by omega)).on hOn (by simp only [List.mem_singleton]; omega)) (Pw_part pG (by omega)) (sD_Pw hw (by omega) (by omega) (by omega) (by omega)) (sD_Pw hw (by omega) (by omega) (by omega) (by omega)) (Pw_at pG (k := k) (by omega) (by omega)) rfl (by decide) (by unfold hiD; split <;> simp [hiA]) (by unfold loD; split <;> simp [loA])) (by decide) (by decide) (by first | decide | (decide)) rfl (Nat.le_of_ble_eq_true rfl) (k_V (fun M39 q39 => ?_))
        refine s_iinc (lv' := [_, _, _, _, _, _, _, _]) C dX1_fillSpan_42 rfl (by decide) rfl rfl rfl ?_
        refine s_goto (tgt := 14) C dX1_fillSpan_45 (by decide) ?_
        have e := fm_next (F := (fun k => prd (sD i k) (sD j (k + 1)) [])) (a := i) (k := k) (by omega)
        exact ih14 _ _ _ _ _ (by omega) (hOn.tr q39.2 (fun c h => h)) (by rw [e]; exact Or.inr q39.1) (fun _ => by rw [e]; exact q39.1) (by omega)
  refine s_iload_n C dX1_fillSpan_0 rfl ?_
  refine s_iload_n C dX1_fillSpan_1 rfl ?_
  refine s_callS2 C dX1_fillSpan_2 cy_X1_gap cs_X1_gap lk_X1_50 (ct_X1_gap E M i j) (by decide) (Nat.le_of_ble_eq_true rfl) (k_P (fun z2 q2 => ?_))
  subst q2
  refine s_istore_n (lv' := [_, _, _, _, _, _, _, _]) C dX1_fillSpan_5 (by decide) rfl rfl ?_
  refine s_aload_n C dX1_fillSpan_6 rfl ?_
  refine s_iload_n C dX1_fillSpan_7 rfl ?_
  refine s_callV1 C dX1_fillSpan_8 cy_X1_setEmpty cv_X1_setEmpty lk_X1_43 (ct_X1_setEmpty E M (576 + i * 24 + j) (by omega)) (by decide) (by decide) (by first | decide | (decide)) rfl (Nat.le_of_ble_eq_true rfl) (k_V (fun M8 q8 => ?_))
  subst q8
  refine s_iload_n C dX1_fillSpan_11 rfl ?_
  refine s_istore (lv' := [_, _, _, _, _, _, _, _]) C dX1_fillSpan_12 (by decide) rfl rfl ?_
  exact L14 _ _ _ _ _ _ (by omega) (fEmpty_on M _) (by rw [rgI_nil (by omega)]; exact fEmpty_Cs w M _) (fun q => by omega) (Nat.lt_succ_self _)
