def tDrop (M : Mm) (w : Nat) (L i : Int) : Mm := mput (mput (mcopy (mput M w 5 (M w 5 - 1)) (w + 1) ((M w 5 - 1) * L) (w + 1) (i * L) L) (w + 2) i (M (w + 2) (M w 5 - 1))) (w + 3) i (M (w + 3) (M w 5 - 1))
def tAdd (M : Mm) (w : Nat) (L n kind : Int) : Mm := mput (mput (mput (mcopy M 2 0 (w + 1) (M w 5 * L) n) (w + 2) (M w 5) n) (w + 3) (M w 5) kind) w 5 (M w 5 + 1)
def tFind (M : Mm) (w : Nat) (L n z : Int) : Prop := (z = -1 ∧ ∀ i, 0 ≤ i → i < M w 5 → ¬ (M (w + 2) i = n ∧ wAt M (w + 1) (w + 2) L i 2 0)) ∨ (0 ≤ z ∧ z < M w 5 ∧ (M (w + 2) z = n ∧ wAt M (w + 1) (w + 2) L z 2 0) ∧ ∀ i, 0 ≤ i → i < z → ¬ (M (w + 2) i = n ∧ wAt M (w + 1) (w + 2) L i 2 0))
theorem tFind_rg {M : Mm} {w : Nat} {L n z : Int} (h : tFind M w L n z) : -1 ≤ z ∧ (0 ≤ z → z < M w 5) := by
  rcases h with ⟨h, _⟩ | ⟨h1, h2, _⟩ <;> omega
/-- the tape is taken as a word: what is behind it -/
def tTk (M M1 : Mm) : Prop := Sm M M1 [1, 2] ∧ M1 1 1 = 0
def tLow (M M1 : Mm) : Prop := ∀ p, 0 ≤ p → p < M 1 1 → M1 2 p = low (M 2 p)
def tgl (M M' : Mm) (w : Nat) (mo L z : Int) : Prop := ∃ M1, tTk M M1 ∧ ((¬ tWd M L ∧ z = -2 ∧ M' = M1) ∨ (tWd M L ∧ tLow M M1 ∧ ∃ i, tFind M1 w L (M 1 1) i ∧ ((0 ≤ i ∧ z = M1 w 5 - 1 ∧ M' = mput (tDrop M1 w L i) 0 14 1) ∨ (i < 0 ∧ mo ≤ M1 w 5 ∧ z = -3 ∧ M' = M1) ∨ (i < 0 ∧ M1 w 5 < mo ∧ z = M1 w 5 + 1 ∧ M' = mput (tAdd M1 w L (M 1 1) 0) 0 14 1))))

set_option maxRecDepth 20000 in
set_option maxHeartbeats 4000000 in
theorem ct_X10_toggle_3 (E : Ev) (M : Mm) (hs : 0 ≤ M 1 1 ∧ M 1 1 ≤ 3000) (hw : tW M 3 60 16) : Ct E yX10_toggle cX10_toggle 4 (some .int) 3 [zr E 0, zr E 3] M (pI (fun z M' => tgl M M' 3 60 16 z)) := by
  refine Ct.of (own := RX10) (lv0 := [some (zr E 0), some (zr E 3), none, none]) (by decide) rfl (Nat.le_of_ble_eq_true rfl) rfl (fun κ C => ?_)
  obtain ⟨a0, a1, a5, aT⟩ := hw
  refine s_aload_n C dX10_toggle_0 rfl ?_
  refine s_getr (k := 0) (b := 1) C dX10_toggle_1 fl_X10_12 (by decide) rfl (by decide) rfl ?_
  refine s_aload_n C dX10_toggle_4 rfl ?_
  refine s_geti (k := 1) (j := 1) (z := 16) C dX10_toggle_5 fl_X10_139 (by decide) rfl (by decide) rfl (a1) (fun r5 => ?_)
  refine s_callV1 C dX10_toggle_8 cy_X7_takeWord cv_X7_takeWord lk_X10_106 (ct_X7_takeWord E M 16 (by omega) hs) (by decide) (by decide) (by first | decide | (decide)) rfl (Nat.le_of_ble_eq_true rfl) (k_I (fun z8 M8 q8 => ?_))
  obtain ⟨o1, o2, o3⟩ := q8
  have ew : M8 3 = M 3 := o1 3 (by decide)
  have ew2 : M8 5 = M 5 := o1 5 (by decide)
  have hz8 : 0 ≤ z8 ∧ z8 ≤ 16 := by
    rcases o3 with ⟨h, _⟩ | ⟨h, g, _⟩
    · omega
    · have := g.2.1; omega
  refine s_istore_n (lv' := [_, _, _, _]) C dX10_toggle_11 (by decide) rfl rfl ?_
  refine s_iload_n C dX10_toggle_12 rfl ?_
  refine s_if_ne (tgt := 19) C dX10_toggle_13 (by decide) (by omega) (fun c13 => ?_) (fun c13 => ?_)
  · skip
    have ho : tWd M 16 ∧ z8 = M 1 1 ∧ tLow M M8 := by
      rcases o3 with ⟨g, _⟩ | ⟨h, g, g2⟩
      · exact absurd g c13
      · exact ⟨g, h, fun p p1 p2 => g2 p p1 (by omega)⟩
    obtain ⟨ho1, ho2, ho3⟩ := ho
    clear o3
    refine s_aload_n C dX10_toggle_19 rfl ?_
    refine s_aload_n C dX10_toggle_20 rfl ?_
    refine s_getr (k := 0) (b := 1) C dX10_toggle_21 fl_X10_12 (by decide) rfl (by decide) rfl ?_
    refine s_getr (k := 0) (b := 2) C dX10_toggle_24 fl_X10_110 (by decide) rfl (by decide) rfl ?_
    refine s_iconst C dX10_toggle_27 ?_
    refine s_iload_n C dX10_toggle_28 rfl ?_
    refine s_callV3 C dX10_toggle_29 cy_X9_find cv_X9_find lk_X10_113 (ct_X9_find_3 E 2 (by decide) M8 (by rw [ew]; exact a0) (by rw [ew]; exact a1) (by rw [ew]; exact a5) (by rw [ew, ew2]; exact aT) 0 z8 (by have : ln 2 = 3000 := rfl; omega) (by decide)) (by decide) (by decide) (by first | decide | (decide)) rfl (Nat.le_of_ble_eq_true rfl) (k_P (fun z29 q29 => ?_))
    have hf : tFind M8 3 16 z8 z29 := q29
    clear q29
    have hfr := tFind_rg hf
    rw [ho2] at hf
    have ew5 : M8 3 5 = M 3 5 := by rw [ew]
    refine s_istore_n (lv' := [_, _, _, _]) C dX10_toggle_32 (by decide) rfl rfl ?_
    refine s_iload_n C dX10_toggle_33 rfl ?_
    refine s_if_lt (tgt := 45) C dX10_toggle_34 (by decide) (by omega) (fun c34 => ?_) (fun c34 => ?_)
    · skip
      refine s_aload_n C dX10_toggle_45 rfl ?_
      refine s_callV0 C dX10_toggle_46 cy_X9_isFull cv_X9_isFull lk_X10_123 (ct_X9_isFull_3 E M8 (by rw [ew]; exact a0) (by rw [ew]; exact a1)) (by decide) (by decide) (by first | decide | (decide)) rfl (Nat.le_of_ble_eq_true rfl) (k_P (fun z46 q46 => ?_))
      refine s_if_eq (tgt := 55) C dX10_toggle_49 (by decide) (by rcases q46 with q | q <;> omega) (fun c49 => ?_) (fun c49 => ?_)
      · skip
        refine s_aload_n C dX10_toggle_55 rfl ?_
        refine s_aload_n C dX10_toggle_56 rfl ?_
        refine s_getr (k := 0) (b := 1) C dX10_toggle_57 fl_X10_12 (by decide) rfl (by decide) rfl ?_
        refine s_getr (k := 0) (b := 2) C dX10_toggle_60 fl_X10_110 (by decide) rfl (by decide) rfl ?_
        refine s_iload_n C dX10_toggle_63 rfl ?_
        refine s_iconst C dX10_toggle_64 ?_
        have hnf : M8 3 5 < 60 := by
          rcases q46 with ⟨g, _⟩ | ⟨_, g⟩
          · omega
          · omega
        refine s_callV3 C dX10_toggle_65 cy_X9_add cv_X9_add lk_X10_127 (ct_X9_add_3 E M8 (by rw [ew]; exact a0) (by rw [ew]; exact a1) 2 (by decide) z8 0 (by rw [ew] at hnf ⊢; omega) (by omega) (by decide)) (by decide) (by decide) (by first | decide | (decide)) rfl (Nat.le_of_ble_eq_true rfl) (k_V (fun M65 q65 => ?_))
        subst q65
        refine s_aload_n C dX10_toggle_68 rfl ?_
        refine s_iconst C dX10_toggle_69 ?_
        refine s_putz (k := 14) (j := 14) C dX10_toggle_70 fp_X10_131 (by decide) rfl rfl rfl (by decide) ?_
        refine s_aload_n C dX10_toggle_73 rfl ?_
        refine s_geti (k := 5) (j := 5) C dX10_toggle_74 fl_X10_135 (by decide) rfl (by decide) rfl (by first | (simp (disch := omega) only [mput_ne, mput_nk, mput_eq, mcopy_ne]; done) | (simp (disch := omega) only [mput_ne, mput_nk, mput_eq, mcopy_ne]; rfl) | rfl) (fun r74 => ?_)
        exact s_ireturn C dX10_toggle_77 (⟨_, rfl, ⟨M8, ⟨o1, o2⟩, Or.inr ⟨ho1, ho3, z29, hf, by
      first
        | exact Or.inl ⟨by omega, rfl, rfl⟩
        | (refine Or.inr (Or.inr ⟨by omega, hnf, rfl, ?_⟩); rw [ho2]; rfl)⟩⟩⟩)
      · skip
        refine s_bipush C dX10_toggle_52 (by decide) ?_
        exact s_ireturn C dX10_toggle_54 (⟨_, rfl, ⟨M8, ⟨o1, o2⟩, Or.inr ⟨ho1, ho3, z29, hf, Or.inr (Or.inl ⟨by omega, by rcases q46 with ⟨_, g⟩ | ⟨g, _⟩; exact g; omega, rfl, rfl⟩)⟩⟩⟩)
    · skip
      refine s_aload_n C dX10_toggle_37 rfl ?_
      refine s_iload_n C dX10_toggle_38 rfl ?_
      refine s_callV1 C dX10_toggle_39 cy_X9_drop cv_X9_drop lk_X10_117 (ct_X9_drop_3 E M8 (by rw [ew]; exact a0) (by rw [ew]; exact a1) z29 (by rw [ew]; exact a5) (by omega)) (by decide) (by decide) (by first | decide | (decide)) rfl (Nat.le_of_ble_eq_true rfl) (k_V (fun M39 q39 => ?_))
      subst q39
      refine s_goto (tgt := 68) C dX10_toggle_42 (by decide) ?_
      refine s_aload_n C dX10_toggle_68 rfl ?_
      refine s_iconst C dX10_toggle_69 ?_
      refine s_putz (k := 14) (j := 14) C dX10_toggle_70 fp_X10_131 (by decide) rfl rfl rfl (by decide) ?_
      refine s_aload_n C dX10_toggle_73 rfl ?_
      refine s_geti (k := 5) (j := 5) C dX10_toggle_74 fl_X10_135 (by decide) rfl (by decide) rfl (by first | (simp (disch := omega) only [mput_ne, mput_nk, mput_eq, mcopy_ne]; done) | (simp (disch := omega) only [mput_ne, mput_nk, mput_eq, mcopy_ne]; rfl) | rfl) (fun r74 => ?_)
      exact s_ireturn C dX10_toggle_77 (⟨_, rfl, ⟨M8, ⟨o1, o2⟩, Or.inr ⟨ho1, ho3, z29, hf, by
      first
        | exact Or.inl ⟨by omega, rfl, rfl⟩
        | (refine Or.inr (Or.inr ⟨by omega, hnf, rfl, ?_⟩); rw [ho2]; rfl)⟩⟩⟩)
  · skip
    refine s_bipush C dX10_toggle_16 (by decide) ?_
    exact s_ireturn C dX10_toggle_18 (⟨_, rfl, ⟨M8, ⟨o1, o2⟩, Or.inl ⟨by
      rcases o3 with ⟨_, g⟩ | ⟨h, g, _⟩
      · exact g
      · have := g.1; omega, rfl, rfl⟩⟩⟩)

set_option maxRecDepth 20000 in
set_option maxHeartbeats 4000000 in
theorem ct_X10_toggle_11 (E : Ev) (M : Mm) (hs : 0 ≤ M 1 1 ∧ M 1 1 ≤ 3000) (hw : tW M 11 10 6) : Ct E yX10_toggle cX10_toggle 4 (some .int) 3 [zr E 0, zr E 11] M (pI (fun z M' => tgl M M' 11 10 6 z)) := by
  refine Ct.of (own := RX10) (lv0 := [some (zr E 0), some (zr E 11), none, none]) (by decide) rfl (Nat.le_of_ble_eq_true rfl) rfl (fun κ C => ?_)
  obtain ⟨a0, a1, a5, aT⟩ := hw
  refine s_aload_n C dX10_toggle_0 rfl ?_
  refine s_getr (k := 0) (b := 1) C dX10_toggle_1 fl_X10_12 (by decide) rfl (by decide) rfl ?_
  refine s_aload_n C dX10_toggle_4 rfl ?_
  refine s_geti (k := 1) (j := 1) (z := 6) C dX10_toggle_5 fl_X10_139 (by decide) rfl (by decide) rfl (a1) (fun r5 => ?_)
  refine s_callV1 C dX10_toggle_8 cy_X7_takeWord cv_X7_takeWord lk_X10_106 (ct_X7_takeWord E M 6 (by omega) hs) (by decide) (by decide) (by first | decide | (decide)) rfl (Nat.le_of_ble_eq_true rfl) (k_I (fun z8 M8 q8 => ?_))
  obtain ⟨o1, o2, o3⟩ := q8
  have ew : M8 11 = M 11 := o1 11 (by decide)
  have ew2 : M8 13 = M 13 := o1 13 (by decide)
  have hz8 : 0 ≤ z8 ∧ z8 ≤ 6 := by
    rcases o3 with ⟨h, _⟩ | ⟨h, g, _⟩
    · omega
    · have := g.2.1; omega
  refine s_istore_n (lv' := [_, _, _, _]) C dX10_toggle_11 (by decide) rfl rfl ?_
  refine s_iload_n C dX10_toggle_12 rfl ?_
  refine s_if_ne (tgt := 19) C dX10_toggle_13 (by decide) (by omega) (fun c13 => ?_) (fun c13 => ?_)
  · skip
    have ho : tWd M 6 ∧ z8 = M 1 1 ∧ tLow M M8 := by
      rcases o3 with ⟨g, _⟩ | ⟨h, g, g2⟩
      · exact absurd g c13
      · exact ⟨g, h, fun p p1 p2 => g2 p p1 (by omega)⟩
    obtain ⟨ho1, ho2, ho3⟩ := ho
    clear o3
    refine s_aload_n C dX10_toggle_19 rfl ?_
    refine s_aload_n C dX10_toggle_20 rfl ?_
    refine s_getr (k := 0) (b := 1) C dX10_toggle_21 fl_X10_12 (by decide) rfl (by decide) rfl ?_
    refine s_getr (k := 0) (b := 2) C dX10_toggle_24 fl_X10_110 (by decide) rfl (by decide) rfl ?_
    refine s_iconst C dX10_toggle_27 ?_
    refine s_iload_n C dX10_toggle_28 rfl ?_
    refine s_callV3 C dX10_toggle_29 cy_X9_find cv_X9_find lk_X10_113 (ct_X9_find_11 E 2 (by decide) M8 (by rw [ew]; exact a0) (by rw [ew]; exact a1) (by rw [ew]; exact a5) (by rw [ew, ew2]; exact aT) 0 z8 (by have : ln 2 = 3000 := rfl; omega) (by decide)) (by decide) (by decide) (by first | decide | (decide)) rfl (Nat.le_of_ble_eq_true rfl) (k_P (fun z29 q29 => ?_))
    have hf : tFind M8 11 6 z8 z29 := q29
    clear q29
    have hfr := tFind_rg hf
    rw [ho2] at hf
    have ew5 : M8 11 5 = M 11 5 := by rw [ew]
    refine s_istore_n (lv' := [_, _, _, _]) C dX10_toggle_32 (by decide) rfl rfl ?_
    refine s_iload_n C dX10_toggle_33 rfl ?_
    refine s_if_lt (tgt := 45) C dX10_toggle_34 (by decide) (by omega) (fun c34 => ?_) (fun c34 => ?_)
    · skip
      refine s_aload_n C dX10_toggle_45 rfl ?_
      refine s_callV0 C dX10_toggle_46 cy_X9_isFull cv_X9_isFull lk_X10_123 (ct_X9_isFull_11 E M8 (by rw [ew]; exact a0) (by rw [ew]; exact a1)) (by decide) (by decide) (by first | decide | (decide)) rfl (Nat.le_of_ble_eq_true rfl) (k_P (fun z46 q46 => ?_))
      refine s_if_eq (tgt := 55) C dX10_toggle_49 (by decide) (by rcases q46 with q | q <;> omega) (fun c49 => ?_) (fun c49 => ?_)
      · skip
        refine s_aload_n C dX10_toggle_55 rfl ?_
        refine s_aload_n C dX10_toggle_56 rfl ?_
        refine s_getr (k := 0) (b := 1) C dX10_toggle_57 fl_X10_12 (by decide) rfl (by decide) rfl ?_
        refine s_getr (k := 0) (b := 2) C dX10_toggle_60 fl_X10_110 (by decide) rfl (by decide) rfl ?_
        refine s_iload_n C dX10_toggle_63 rfl ?_
        refine s_iconst C dX10_toggle_64 ?_
        have hnf : M8 11 5 < 10 := by
          rcases q46 with ⟨g, _⟩ | ⟨_, g⟩
          · omega
          · omega
        refine s_callV3 C dX10_toggle_65 cy_X9_add cv_X9_add lk_X10_127 (ct_X9_add_11 E M8 (by rw [ew]; exact a0) (by rw [ew]; exact a1) 2 (by decide) z8 0 (by rw [ew] at hnf ⊢; omega) (by omega) (by decide)) (by decide) (by decide) (by first | decide | (decide)) rfl (Nat.le_of_ble_eq_true rfl) (k_V (fun M65 q65 => ?_))
        subst q65
        refine s_aload_n C dX10_toggle_68 rfl ?_
        refine s_iconst C dX10_toggle_69 ?_
        refine s_putz (k := 14) (j := 14) C dX10_toggle_70 fp_X10_131 (by decide) rfl rfl rfl (by decide) ?_
        refine s_aload_n C dX10_toggle_73 rfl ?_
        refine s_geti (k := 5) (j := 5) C dX10_toggle_74 fl_X10_135 (by decide) rfl (by decide) rfl (by first | (simp (disch := omega) only [mput_ne, mput_nk, mput_eq, mcopy_ne]; done) | (simp (disch := omega) only [mput_ne, mput_nk, mput_eq, mcopy_ne]; rfl) | rfl) (fun r74 => ?_)
        exact s_ireturn C dX10_toggle_77 (⟨_, rfl, ⟨M8, ⟨o1, o2⟩, Or.inr ⟨ho1, ho3, z29, hf, by
      first
        | exact Or.inl ⟨by omega, rfl, rfl⟩
        | (refine Or.inr (Or.inr ⟨by omega, hnf, rfl, ?_⟩); rw [ho2]; rfl)⟩⟩⟩)
      · skip
        refine s_bipush C dX10_toggle_52 (by decide) ?_
        exact s_ireturn C dX10_toggle_54 (⟨_, rfl, ⟨M8, ⟨o1, o2⟩, Or.inr ⟨ho1, ho3, z29, hf, Or.inr (Or.inl ⟨by omega, by rcases q46 with ⟨_, g⟩ | ⟨g, _⟩; exact g; omega, rfl, rfl⟩)⟩⟩⟩)
    · skip
      refine s_aload_n C dX10_toggle_37 rfl ?_
      refine s_iload_n C dX10_toggle_38 rfl ?_
      refine s_callV1 C dX10_toggle_39 cy_X9_drop cv_X9_drop lk_X10_117 (ct_X9_drop_11 E M8 (by rw [ew]; exact a0) (by rw [ew]; exact a1) z29 (by rw [ew]; exact a5) (by omega)) (by decide) (by decide) (by first | decide | (decide)) rfl (Nat.le_of_ble_eq_true rfl) (k_V (fun M39 q39 => ?_))
      subst q39
      refine s_goto (tgt := 68) C dX10_toggle_42 (by decide) ?_
      refine s_aload_n C dX10_toggle_68 rfl ?_
      refine s_iconst C dX10_toggle_69 ?_
      refine s_putz (k := 14) (j := 14) C dX10_toggle_70 fp_X10_131 (by decide) rfl rfl rfl (by decide) ?_
      refine s_aload_n C dX10_toggle_73 rfl ?_
      refine s_geti (k := 5) (j := 5) C dX10_toggle_74 fl_X10_135 (by decide) rfl (by decide) rfl (by first | (simp (disch := omega) only [mput_ne, mput_nk, mput_eq, mcopy_ne]; done) | (simp (disch := omega) only [mput_ne, mput_nk, mput_eq, mcopy_ne]; rfl) | rfl) (fun r74 => ?_)
      exact s_ireturn C dX10_toggle_77 (⟨_, rfl, ⟨M8, ⟨o1, o2⟩, Or.inr ⟨ho1, ho3, z29, hf, by
      first
        | exact Or.inl ⟨by omega, rfl, rfl⟩
        | (refine Or.inr (Or.inr ⟨by omega, hnf, rfl, ?_⟩); rw [ho2]; rfl)⟩⟩⟩)
  · skip
    refine s_bipush C dX10_toggle_16 (by decide) ?_
    exact s_ireturn C dX10_toggle_18 (⟨_, rfl, ⟨M8, ⟨o1, o2⟩, Or.inl ⟨by
      rcases o3 with ⟨_, g⟩ | ⟨h, g, _⟩
      · exact g
      · have := g.1; omega, rfl, rfl⟩⟩⟩)

set_option maxRecDepth 20000 in
set_option maxHeartbeats 4000000 in
theorem ct_X10_stop (E : Ev) (M : Mm) (hs : 0 ≤ M 1 1 ∧ M 1 1 ≤ 3000) (hw : tW M 3 60 16) : Ct E yX10_stop cX10_stop 1 (some .int) 4 [zr E 0] M (pI (fun z M' => tgl M M' 3 60 16 z)) := by
  refine Ct.of (own := RX10) (lv0 := [some (zr E 0)]) (by decide) rfl (Nat.le_of_ble_eq_true rfl) rfl (fun κ C => ?_)
  refine s_aload_n C dX10_stop_0 rfl ?_
  refine s_aload_n C dX10_stop_1 rfl ?_
  refine s_getr (k := 1) (b := 3) C dX10_stop_2 fl_X10_21 (by decide) rfl (by decide) rfl ?_
  refine s_callV1 C dX10_stop_5 cy_X10_toggle cv_X10_toggle lk_X10_102 (ct_X10_toggle_3 E M hs hw) (by decide) (by decide) (by first | decide | (decide)) rfl (Nat.le_of_ble_eq_true rfl) (k_I (fun z5 M5 q5 => ?_))
  exact s_ireturn C dX10_stop_8 (⟨_, rfl, q5⟩)

set_option maxRecDepth 20000 in
set_option maxHeartbeats 4000000 in
theorem ct_X10_ending (E : Ev) (M : Mm) (hs : 0 ≤ M 1 1 ∧ M 1 1 ≤ 3000) (hw : tW M 11 10 6) : Ct E yX10_ending cX10_ending 1 (some .int) 4 [zr E 0] M (pI (fun z M' => tgl M M' 11 10 6 z)) := by
  refine Ct.of (own := RX10) (lv0 := [some (zr E 0)]) (by decide) rfl (Nat.le_of_ble_eq_true rfl) rfl (fun κ C => ?_)
  refine s_aload_n C dX10_ending_0 rfl ?_
  refine s_aload_n C dX10_ending_1 rfl ?_
  refine s_getr (k := 3) (b := 11) C dX10_ending_2 fl_X10_28 (by decide) rfl (by decide) rfl ?_
  refine s_callV1 C dX10_ending_5 cy_X10_toggle cv_X10_toggle lk_X10_102 (ct_X10_toggle_11 E M hs hw) (by decide) (by decide) (by first | decide | (decide)) rfl (Nat.le_of_ble_eq_true rfl) (k_I (fun z5 M5 q5 => ?_))
  exact s_ireturn C dX10_ending_8 (⟨_, rfl, q5⟩)

def sgl (M M' : Mm) (kind z : Int) : Prop := ∃ M1, tTk M M1 ∧ ((¬ (tWd M 16 ∧ 0 ≤ kind ∧ kind ≤ 4) ∧ z = -2 ∧ M' = M1) ∨ (tWd M 16 ∧ (0 ≤ kind ∧ kind ≤ 4) ∧ tLow M M1 ∧ ∃ i, tFind M1 7 16 (M 1 1) i ∧ ((kind = 0 ∧ 0 ≤ i ∧ z = M1 7 5 - 1 ∧ M' = mput (tDrop M1 7 16 i) 0 14 1) ∨ (kind = 0 ∧ i < 0 ∧ z = M1 7 5 ∧ M' = mput M1 0 14 1) ∨ (kind ≠ 0 ∧ 0 ≤ i ∧ z = M1 7 5 ∧ M' = mput (mput M1 10 i kind) 0 14 1) ∨ (kind ≠ 0 ∧ i < 0 ∧ 30 ≤ M1 7 5 ∧ z = -3 ∧ M' = M1) ∨ (kind ≠ 0 ∧ i < 0 ∧ M1 7 5 < 30 ∧ z = M1 7 5 + 1 ∧ M' = mput (tAdd M1 7 16 (M 1 1) kind) 0 14 1))))

set_option maxRecDepth 20000 in
set_option maxHeartbeats 4000000 in
theorem ct_X9_drop_no (E : Ev) (M : Mm) (i : Int) (hi : i < 0) (hr : rg i) : Ct E yX9_drop cX9_drop 2 none 1 [zr E 7, zi i] M (pV (fun M' => M' = M)) := by
  refine Ct.of (own := RX9) (lv0 := [some (zr E 7), some (zi i)]) (by decide) rfl (Nat.le_of_ble_eq_true rfl) rfl (fun κ C => ?_)
  refine s_iload_n C dX9_drop_0 rfl ?_
  refine s_if_lt (tgt := 82) C dX9_drop_1 (by decide) (by omega) (fun c1 => ?_) (fun c1 => ?_)
  · skip
    exact s_return C dX9_drop_82 (⟨rfl, rfl⟩)
  · skip
    omega

theorem ct_drop7 (E : Ev) (M : Mm) (h0 : M 7 0 = 30) (h1 : M 7 1 = 16) (i : Int) (h5 : 0 ≤ M 7 5 ∧ M 7 5 ≤ 30) (hi : -1 ≤ i ∧ (0 ≤ i → i < M 7 5)) : Ct E yX9_drop cX9_drop 2 none 1 [zr E 7, zi i] M (pV (fun M' => (0 ≤ i ∧ M' = tDrop M 7 16 i) ∨ (i < 0 ∧ M' = M))) := by
  by_cases c : 0 ≤ i
  · exact (ct_X9_drop_7 E M h0 h1 i h5 ⟨c, hi.2 c⟩).mono (fun r M' h => ⟨h.1, Or.inl ⟨c, h.2⟩⟩)
  · exact (ct_X9_drop_no E M i (by omega) (by omega)).mono (fun r M' h => ⟨h.1, Or.inr ⟨by omega, h.2⟩⟩)

set_option maxRecDepth 20000 in
set_option maxHeartbeats 4000000 in
theorem ct_X10_sign (E : Ev) (M : Mm) (hs : 0 ≤ M 1 1 ∧ M 1 1 ≤ 3000) (hw : tW M 7 30 16) (kind : Int) (hk : rg kind) : Ct E yX10_sign cX10_sign 4 (some .int) 3 [zr E 0, zi kind] M (pI (fun z M' => sgl M M' kind z)) := by
  refine Ct.of (own := RX10) (lv0 := [some (zr E 0), some (zi kind), none, none]) (by decide) rfl (Nat.le_of_ble_eq_true rfl) rfl (fun κ C => ?_)
  obtain ⟨a0, a1, a5, aT⟩ := hw
  refine s_aload_n C dX10_sign_0 rfl ?_
  refine s_getr (k := 0) (b := 1) C dX10_sign_1 fl_X10_12 (by decide) rfl (by decide) rfl ?_
  refine s_bipush C dX10_sign_4 (by decide) ?_
  refine s_callV1 C dX10_sign_6 cy_X7_takeWord cv_X7_takeWord lk_X10_106 (ct_X7_takeWord E M 16 (by omega) hs) (by decide) (by decide) (by first | decide | (decide)) rfl (Nat.le_of_ble_eq_true rfl) (k_I (fun z6 M6 q6 => ?_))
  obtain ⟨o1, o2, o3⟩ := q6
  have ew : M6 7 = M 7 := o1 7 (by decide)
  have ew2 : M6 9 = M 9 := o1 9 (by decide)
  have ew5 : M6 7 5 = M 7 5 := by rw [ew]
  have hz8 : 0 ≤ z6 ∧ z6 ≤ 16 := by
    rcases o3 with ⟨h, _⟩ | ⟨h, g, _⟩
    · omega
    · have := g.2.1; omega
  refine s_istore_n (lv' := [_, _, _, _]) C dX10_sign_9 (by decide) rfl rfl ?_
  refine s_iload_n C dX10_sign_10 rfl ?_
  refine s_if_eq (tgt := 23) C dX10_sign_11 (by decide) (by omega) (fun c11 => ?_) (fun c11 => ?_)
  · skip
    refine s_bipush C dX10_sign_23 (by decide) ?_
    exact s_ireturn C dX10_sign_25 (⟨_, rfl, ⟨M6, ⟨o1, o2⟩, Or.inl ⟨fun q => by
      rcases o3 with ⟨_, g⟩ | ⟨h, g, _⟩
      · exact g q.1
      · have := g.1; have := q.2; omega, rfl, rfl⟩⟩⟩)
  · skip
    refine s_iload_n C dX10_sign_14 rfl ?_
    refine s_if_lt (tgt := 23) C dX10_sign_15 (by decide) (by omega) (fun c15 => ?_) (fun c15 => ?_)
    · skip
      refine s_bipush C dX10_sign_23 (by decide) ?_
      exact s_ireturn C dX10_sign_25 (⟨_, rfl, ⟨M6, ⟨o1, o2⟩, Or.inl ⟨fun q => by
      rcases o3 with ⟨_, g⟩ | ⟨h, g, _⟩
      · exact g q.1
      · have := g.1; have := q.2; omega, rfl, rfl⟩⟩⟩)
    · skip
      refine s_iload_n C dX10_sign_18 rfl ?_
      refine s_iconst C dX10_sign_19 ?_
      refine s_icmp_le (tgt := 26) C dX10_sign_20 (by decide) (by omega) (by omega) (fun c20 => ?_) (fun c20 => ?_)
      · skip
        have ho : tWd M 16 ∧ z6 = M 1 1 ∧ tLow M M6 := by
          rcases o3 with ⟨g, _⟩ | ⟨h, g, g2⟩
          · exact absurd g c11
          · exact ⟨g, h, fun p p1 p2 => g2 p p1 (by omega)⟩
        obtain ⟨ho1, ho2, ho3⟩ := ho
        clear o3
        have hkr : 0 ≤ kind ∧ kind ≤ 4 := by omega
        refine s_aload_n C dX10_sign_26 rfl ?_
        refine s_getr (k := 2) (b := 7) C dX10_sign_27 fl_X10_25 (by decide) rfl (by decide) rfl ?_
        refine s_aload_n C dX10_sign_30 rfl ?_
        refine s_getr (k := 0) (b := 1) C dX10_sign_31 fl_X10_12 (by decide) rfl (by decide) rfl ?_
        refine s_getr (k := 0) (b := 2) C dX10_sign_34 fl_X10_110 (by decide) rfl (by decide) rfl ?_
        refine s_iconst C dX10_sign_37 ?_
        refine s_iload_n C dX10_sign_38 rfl ?_
        refine s_callV3 C dX10_sign_39 cy_X9_find cv_X9_find lk_X10_113 (ct_X9_find_7 E 2 (by decide) M6 (by rw [ew]; exact a0) (by rw [ew]; exact a1) (by rw [ew]; exact a5) (by rw [ew, ew2]; exact aT) 0 z6 (by have : ln 2 = 3000 := rfl; omega) (by decide)) (by decide) (by decide) (by first | decide | (decide)) rfl (Nat.le_of_ble_eq_true rfl) (k_P (fun z39 q39 => ?_))
        have hf : tFind M6 7 16 z6 z39 := q39
        clear q39
        have hfr := tFind_rg hf
        rw [ho2] at hf
        refine s_istore_n (lv' := [_, _, _, _]) C dX10_sign_42 (by decide) rfl rfl ?_
        refine s_iload_n C dX10_sign_43 rfl ?_
        refine s_if_ne (tgt := 58) C dX10_sign_44 (by decide) (by omega) (fun c44 => ?_) (fun c44 => ?_)
        · skip
          refine s_iload_n C dX10_sign_58 rfl ?_
          refine s_if_lt (tgt := 75) C dX10_sign_59 (by decide) (by omega) (fun c59 => ?_) (fun c59 => ?_)
          · skip
            refine s_aload_n C dX10_sign_75 rfl ?_
            refine s_getr (k := 2) (b := 7) C dX10_sign_76 fl_X10_25 (by decide) rfl (by decide) rfl ?_
            refine s_callV0 C dX10_sign_79 cy_X9_isFull cv_X9_isFull lk_X10_123 (ct_X9_isFull_7 E M6 (by rw [ew]; exact a0) (by rw [ew]; exact a1)) (by decide) (by decide) (by first | decide | (decide)) rfl (Nat.le_of_ble_eq_true rfl) (k_P (fun z79 q79 => ?_))
            refine s_if_eq (tgt := 88) C dX10_sign_82 (by decide) (by rcases q79 with q | q <;> omega) (fun c82 => ?_) (fun c82 => ?_)
            · skip
              refine s_aload_n C dX10_sign_88 rfl ?_
              refine s_getr (k := 2) (b := 7) C dX10_sign_89 fl_X10_25 (by decide) rfl (by decide) rfl ?_
              refine s_aload_n C dX10_sign_92 rfl ?_
              refine s_getr (k := 0) (b := 1) C dX10_sign_93 fl_X10_12 (by decide) rfl (by decide) rfl ?_
              refine s_getr (k := 0) (b := 2) C dX10_sign_96 fl_X10_110 (by decide) rfl (by decide) rfl ?_
              refine s_iload_n C dX10_sign_99 rfl ?_
              refine s_iload_n C dX10_sign_100 rfl ?_
              have hnf : M6 7 5 < 30 := by
                rcases q79 with ⟨g, _⟩ | ⟨_, g⟩
                · omega
                · omega
              refine s_callV3 C dX10_sign_101 cy_X9_add cv_X9_add lk_X10_127 (ct_X9_add_7 E M6 (by rw [ew]; exact a0) (by rw [ew]; exact a1) 2 (by decide) z6 kind (by omega) (by omega) hk) (by decide) (by decide) (by first | decide | (decide)) rfl (Nat.le_of_ble_eq_true rfl) (k_V (fun M101 q101 => ?_))
              subst q101
              refine s_aload_n C dX10_sign_104 rfl ?_
              refine s_iconst C dX10_sign_105 ?_
              refine s_putz (k := 14) (j := 14) C dX10_sign_106 fp_X10_131 (by decide) rfl rfl rfl (by decide) ?_
              refine s_aload_n C dX10_sign_109 rfl ?_
              refine s_getr (k := 2) (b := 7) C dX10_sign_110 fl_X10_25 (by decide) rfl (by decide) rfl ?_
              refine s_geti (k := 5) (j := 5) C dX10_sign_113 fl_X10_135 (by decide) rfl (by decide) rfl (by first | (simp (disch := omega) only [mput_ne, mput_nk, mput_eq, mcopy_ne]; done) | (simp (disch := omega) only [mput_ne, mput_nk, mput_eq, mcopy_ne]; rfl) | rfl) (fun r113 => ?_)
              exact s_ireturn C dX10_sign_116 (⟨_, rfl, ⟨M6, ⟨o1, o2⟩, Or.inr ⟨ho1, hkr, ho3, z39, hf, by
      first
        | (rcases q52 with ⟨h1, h2⟩ | ⟨h1, h2⟩
           · exact Or.inl ⟨c44, h1, by rw [hv, if_pos h1], by rw [h2]⟩
           · exact Or.inr (Or.inl ⟨c44, h1, by rw [hv, if_neg (by omega)], by rw [h2]⟩))
        | exact Or.inr (Or.inr (Or.inl ⟨c44, by omega, rfl, rfl⟩))
        | (refine Or.inr (Or.inr (Or.inr (Or.inr ⟨c44, by omega, hnf, rfl, ?_⟩))); rw [ho2]; rfl)⟩⟩⟩)
            · skip
              refine s_bipush C dX10_sign_85 (by decide) ?_
              exact s_ireturn C dX10_sign_87 (⟨_, rfl, ⟨M6, ⟨o1, o2⟩, Or.inr ⟨ho1, hkr, ho3, z39, hf, Or.inr (Or.inr (Or.inr (Or.inl ⟨c44, by omega, by rcases q79 with ⟨_, g⟩ | ⟨g, _⟩; exact g; omega, rfl, rfl⟩)))⟩⟩⟩)
          · skip
            refine s_aload_n C dX10_sign_62 rfl ?_
            refine s_getr (k := 2) (b := 7) C dX10_sign_63 fl_X10_25 (by decide) rfl (by decide) rfl ?_
            refine s_getr (k := 4) (b := 10) C dX10_sign_66 fl_X10_120 (by decide) rfl (by decide) rfl ?_
            refine s_iload_n C dX10_sign_69 rfl ?_
            refine s_iload_n C dX10_sign_70 rfl ?_
            refine s_iastore (n := 30) C dX10_sign_71 (by decide) rfl rfl (by omega) (by omega) (by omega) (by omega) ?_
            refine s_goto (tgt := 104) C dX10_sign_72 (by decide) ?_
            refine s_aload_n C dX10_sign_104 rfl ?_
            refine s_iconst C dX10_sign_105 ?_
            refine s_putz (k := 14) (j := 14) C dX10_sign_106 fp_X10_131 (by decide) rfl rfl rfl (by decide) ?_
            refine s_aload_n C dX10_sign_109 rfl ?_
            refine s_getr (k := 2) (b := 7) C dX10_sign_110 fl_X10_25 (by decide) rfl (by decide) rfl ?_
            refine s_geti (k := 5) (j := 5) C dX10_sign_113 fl_X10_135 (by decide) rfl (by decide) rfl (by first | (simp (disch := omega) only [mput_ne, mput_nk, mput_eq, mcopy_ne]; done) | (simp (disch := omega) only [mput_ne, mput_nk, mput_eq, mcopy_ne]; rfl) | rfl) (fun r113 => ?_)
            exact s_ireturn C dX10_sign_116 (⟨_, rfl, ⟨M6, ⟨o1, o2⟩, Or.inr ⟨ho1, hkr, ho3, z39, hf, by
      first
        | (rcases q52 with ⟨h1, h2⟩ | ⟨h1, h2⟩
           · exact Or.inl ⟨c44, h1, by rw [hv, if_pos h1], by rw [h2]⟩
           · exact Or.inr (Or.inl ⟨c44, h1, by rw [hv, if_neg (by omega)], by rw [h2]⟩))
        | exact Or.inr (Or.inr (Or.inl ⟨c44, by omega, rfl, rfl⟩))
        | (refine Or.inr (Or.inr (Or.inr (Or.inr ⟨c44, by omega, hnf, rfl, ?_⟩))); rw [ho2]; rfl)⟩⟩⟩)
        · skip
          refine s_aload_n C dX10_sign_47 rfl ?_
          refine s_getr (k := 2) (b := 7) C dX10_sign_48 fl_X10_25 (by decide) rfl (by decide) rfl ?_
          refine s_iload_n C dX10_sign_51 rfl ?_
          refine s_callV1 C dX10_sign_52 cy_X9_drop cv_X9_drop lk_X10_117 (ct_drop7 E M6 (by rw [ew]; exact a0) (by rw [ew]; exact a1) z39 (by rw [ew]; exact a5) (by omega)) (by decide) (by decide) (by first | decide | (decide)) rfl (Nat.le_of_ble_eq_true rfl) (k_V (fun M52 q52 => ?_))
          have hv : M52 7 5 = if 0 ≤ z39 then M6 7 5 - 1 else M6 7 5 := by
            rcases q52 with ⟨h1, h2⟩ | ⟨h1, h2⟩
            · rw [if_pos h1, h2]; unfold tDrop; simp (disch := decide) only [mput_ne, mcopy_ne, mput_eq]
            · rw [if_neg (by omega), h2]
          refine s_goto (tgt := 104) C dX10_sign_55 (by decide) ?_
          refine s_aload_n C dX10_sign_104 rfl ?_
          refine s_iconst C dX10_sign_105 ?_
          refine s_putz (k := 14) (j := 14) C dX10_sign_106 fp_X10_131 (by decide) rfl rfl rfl (by decide) ?_
          refine s_aload_n C dX10_sign_109 rfl ?_
          refine s_getr (k := 2) (b := 7) C dX10_sign_110 fl_X10_25 (by decide) rfl (by decide) rfl ?_
          refine s_geti (k := 5) (j := 5) C dX10_sign_113 fl_X10_135 (by decide) rfl (by decide) rfl (by first | (simp (disch := omega) only [mput_ne, mput_nk, mput_eq, mcopy_ne]; done) | (simp (disch := omega) only [mput_ne, mput_nk, mput_eq, mcopy_ne]; rfl) | rfl) (fun r113 => ?_)
          exact s_ireturn C dX10_sign_116 (⟨_, rfl, ⟨M6, ⟨o1, o2⟩, Or.inr ⟨ho1, hkr, ho3, z39, hf, by
      first
        | (rcases q52 with ⟨h1, h2⟩ | ⟨h1, h2⟩
           · exact Or.inl ⟨c44, h1, by rw [hv, if_pos h1], by rw [h2]⟩
           · exact Or.inr (Or.inl ⟨c44, h1, by rw [hv, if_neg (by omega)], by rw [h2]⟩))
        | exact Or.inr (Or.inr (Or.inl ⟨c44, by omega, rfl, rfl⟩))
        | (refine Or.inr (Or.inr (Or.inr (Or.inr ⟨c44, by omega, hnf, rfl, ?_⟩))); rw [ho2]; rfl)⟩⟩⟩)
      · skip
        refine s_bipush C dX10_sign_23 (by decide) ?_
        exact s_ireturn C dX10_sign_25 (⟨_, rfl, ⟨M6, ⟨o1, o2⟩, Or.inl ⟨fun q => by
      rcases o3 with ⟨_, g⟩ | ⟨h, g, _⟩
      · exact g q.1
      · have := g.1; have := q.2; omega, rfl, rfl⟩⟩⟩)
