/-- memory behind the scan of the tape into the text d -/
def rScan (M : Mm) (d : Nat) : Mm := sFin (sIt d (sClear d M) (M 1 1).toNat) d (M 1 1)
theorem rScan_ne {M : Mm} {d a : Nat} (h : offT d a) : rScan M d a = M a := by
  unfold rScan sFin
  split
  · rw [sNote_ne h.1, sIt_ne h, sClear_ne h]
  · rw [sIt_ne h, sClear_ne h]
theorem rScan_7 {M : Mm} {d : Nat} (hd : d = 17 ∨ d = 24) (h0 : rScan M d 16 0 = 0) : sI d (rScan M d) := by
  unfold rScan sFin at *
  split at h0
  · next c => simp (disch := omega) only [sNote, mput_nk, mput_eq] at h0; omega
  · next c => rw [if_neg c]; exact sIt_I hd _ (sClear_I hd M) _ h0
def rAll (M : Mm) (e d : Nat) : Mm := mput (mput (plReset (mput (mput (mput (rScan M d) 1 1 0) 0 6 (d : Int)) 0 7 (e : Int)) (rScan M d d 7) (rScan M d d 7)) 55 2 0) 0 14 1

set_option maxRecDepth 20000 in
set_option maxHeartbeats 4000000 in
theorem ct_X10_read (E : Ev) (e d : Nat) (hed : (e = 17 ∧ d = 24) ∨ (e = 24 ∧ d = 17)) (M : Mm) (h06 : M 0 6 = (e : Int)) (h07 : M 0 7 = (d : Int)) (hs : 0 ≤ M 1 1 ∧ M 1 1 ≤ 3000) : Ct E yX10_read cX10_read 2 (some .int) 5 [zr E 0] M (pI (fun z M' => (rScan M d 16 0 ≠ 0 ∧ z = -1 ∧ M' = mput (rScan M d) 1 1 0) ∨ (rScan M d 16 0 = 0 ∧ z = rScan M d d 7 ∧ M' = rAll M e d))) := by
  refine Ct.of (own := RX10) (lv0 := [some (zr E 0), none]) (by decide) rfl (Nat.le_of_ble_eq_true rfl) rfl (fun κ C => ?_)
  have hd : d = 17 ∨ d = 24 := by omega
  have r0 : rScan M d 0 = M 0 := rScan_ne (by omega)
  refine s_aload_n C dX10_read_0 rfl ?_
  refine s_getr (k := 5) (b := 16) C dX10_read_1 fl_X10_38 (by decide) rfl (by decide) rfl ?_
  refine s_aload_n C dX10_read_4 rfl ?_
  refine s_getr (k := 0) (b := 1) C dX10_read_5 fl_X10_12 (by decide) rfl (by decide) rfl ?_
  refine s_aload_n C dX10_read_8 rfl ?_
  refine s_getd (k := 7) (j := 7) (b := d) C dX10_read_9 fl_X10_49 (by decide) rfl (by decide) rfl (h07) ?_
  refine s_callV2 C dX10_read_12 cy_X6_scan cv_X6_scan lk_X10_142 (ct_X6_scan E d hd M hs) (by decide) (by decide) (by first | decide | (decide)) rfl (Nat.le_of_ble_eq_true rfl) (k_V (fun M12 q12 => ?_))
  have q12b : M12 = rScan M d := q12
  clear q12
  subst q12b
  refine s_aload_n C dX10_read_15 rfl ?_
  refine s_getr (k := 0) (b := 1) C dX10_read_16 fl_X10_12 (by decide) rfl (by decide) rfl ?_
  refine s_iconst C dX10_read_19 ?_
  refine s_puti (k := 1) (j := 1) C dX10_read_20 fp_X10_94 (by decide) rfl rfl rfl (by omega) ?_
  refine s_aload_n C dX10_read_23 rfl ?_
  refine s_getr (k := 5) (b := 16) C dX10_read_24 fl_X10_38 (by decide) rfl (by decide) rfl ?_
  refine s_geti (k := 0) (j := 0) (z := rScan M d 16 0) C dX10_read_27 fl_X10_146 (by decide) rfl (by decide) rfl (by rw [mput_ne (by decide)]) (fun r27 => ?_)
  refine s_if_eq (tgt := 35) C dX10_read_30 (by decide) (by omega) (fun c30 => ?_) (fun c30 => ?_)
  · skip
    have hI := rScan_7 hd c30
    refine s_aload_n C dX10_read_35 rfl ?_
    refine s_getd (k := 6) (j := 6) (b := e) C dX10_read_36 fl_X10_45 (by decide) rfl (by decide) rfl (by rw [mput_ne (by decide), r0]; exact h06) ?_
    refine s_astore_n (lv' := [_, _]) C dX10_read_39 (by decide) rfl rfl ?_
    refine s_aload_n C dX10_read_40 rfl ?_
    refine s_aload_n C dX10_read_41 rfl ?_
    refine s_getd (k := 7) (j := 7) (b := d) C dX10_read_42 fl_X10_49 (by decide) rfl (by decide) rfl (by rw [mput_ne (by decide), r0]; exact h07) ?_
    refine s_putd (k := 6) (j := 6) C dX10_read_45 fp_X10_45 (by decide) rfl rfl rfl (by rcases hed with ⟨rfl, rfl⟩ | ⟨rfl, rfl⟩ <;> decide) ?_
    refine s_aload_n C dX10_read_48 rfl ?_
    refine s_aload_n C dX10_read_49 rfl ?_
    refine s_putd (k := 7) (j := 7) C dX10_read_50 fp_X10_49 (by decide) rfl rfl rfl (by rcases hed with ⟨rfl, rfl⟩ | ⟨rfl, rfl⟩ <;> decide) ?_
    refine s_aload_n C dX10_read_53 rfl ?_
    refine s_getr (k := 9) (b := 40) C dX10_read_54 fl_X10_62 (by decide) rfl (by decide) rfl ?_
    refine s_aload_n C dX10_read_57 rfl ?_
    refine s_getd (k := 6) (j := 6) (b := d) C dX10_read_58 fl_X10_45 (by decide) rfl (by decide) rfl (by rw [mput_nk (by decide), mput_eq]) ?_
    refine s_geti (k := 7) (j := 7) (z := rScan M d d 7) C dX10_read_61 fl_X10_149 (by rcases hed with ⟨rfl, rfl⟩ | ⟨rfl, rfl⟩ <;> decide) (by rcases hed with ⟨rfl, rfl⟩ | ⟨rfl, rfl⟩ <;> decide) (by decide) rfl (by rw [mput_ne (by omega), mput_ne (by omega), mput_ne (by omega)]) (fun r61 => ?_)
    refine s_callV1 C dX10_read_64 cy_X5_reset cv_X5_reset lk_X10_152 (ct_X5_reset E _ (rScan M d d 7) hI.1) (by decide) (by decide) (by first | decide | (decide)) rfl (Nat.le_of_ble_eq_true rfl) (k_V (fun M64 q64 => ?_))
    subst q64
    refine s_aload_n C dX10_read_67 rfl ?_
    refine s_getr (k := 12) (b := 55) C dX10_read_68 fl_X10_83 (by decide) rfl (by decide) rfl ?_
    refine s_iconst C dX10_read_71 ?_
    refine s_puti (k := 2) (j := 2) C dX10_read_72 fp_X10_155 (by decide) rfl rfl rfl (by omega) ?_
    refine s_aload_n C dX10_read_75 rfl ?_
    refine s_iconst C dX10_read_76 ?_
    refine s_putz (k := 14) (j := 14) C dX10_read_77 fp_X10_131 (by decide) rfl rfl rfl (by decide) ?_
    refine s_aload_n C dX10_read_80 rfl ?_
    refine s_getd (k := 6) (j := 6) (b := d) C dX10_read_81 fl_X10_45 (by decide) rfl (by decide) rfl (by rw [mput_nk (by decide), mput_ne (by decide), plReset_ne (by decide) (by decide), mput_nk (by decide), mput_eq]) ?_
    refine s_geti (k := 7) (j := 7) (z := rScan M d d 7) C dX10_read_84 fl_X10_149 (by rcases hed with ⟨rfl, rfl⟩ | ⟨rfl, rfl⟩ <;> decide) (by rcases hed with ⟨rfl, rfl⟩ | ⟨rfl, rfl⟩ <;> decide) (by decide) rfl (by rw [mput_ne (by omega), mput_ne (by omega), plReset_ne (by omega) (by omega), mput_ne (by omega), mput_ne (by omega), mput_ne (by omega)]) (fun r84 => ?_)
    exact s_ireturn C dX10_read_87 (⟨_, rfl, Or.inr ⟨c30, rfl, rfl⟩⟩)
  · skip
    refine s_iconst C dX10_read_33 ?_
    exact s_ireturn C dX10_read_34 (⟨_, rfl, Or.inl ⟨c30, rfl, rfl⟩⟩)
