/-- a head h of d goes against d's sign, if d is of this kind -/
abbrev agn (k h d : Int) : Prop := ((k = 1 ∨ k = 2) ∧ d < h) ∨ (k = 3 ∧ h ≠ d - 1) ∨ (k = 4 ∧ h < d)
/-- what it costs that d hangs on h: e is the text, by places -/
def hC (M : Mm) (e : Nat) (h d : Int) : Int := M 15 0 * (max (h - d) (-(h - d)) - 1) + M 15 1 * (4 - min 4 (M 34 (M 41 h * 24 + M 41 d))) + (if M (e + 6) h = M (e + 6) d then 0 else M 15 3) + (if agn (M 32 (M 41 d)) h d then M 15 2 else 0)

set_option maxRecDepth 20000 in
set_option maxHeartbeats 4000000 in
theorem ct_X10_isNoSentence (E : Ev) (e : Nat) (he : e = 17 ∨ e = 24) (M : Mm) (h06 : M 0 6 = (e : Int)) (i : Int) (hi : rg i) : Ct E yX10_isNoSentence cX10_isNoSentence 2 (some .boolean) 0 [zr E 0, zi i] M (pP M (fun z => Bz z (i < 0 ∨ M e 7 ≤ i))) := by
  refine Ct.of (own := RX10) (lv0 := [some (zr E 0), some (zi i)]) (by decide) rfl (Nat.le_of_ble_eq_true rfl) rfl (fun κ C => ?_)
  refine s_iload_n C dX10_isNoSentence_0 rfl ?_
  refine s_if_lt (tgt := 15) C dX10_isNoSentence_1 (by decide) (by omega) (fun c1 => ?_) (fun c1 => ?_)
  · skip
    refine s_iconst C dX10_isNoSentence_15 ?_
    refine s_goto (tgt := 20) C dX10_isNoSentence_16 (by decide) ?_
    exact s_zreturn C dX10_isNoSentence_20 (by decide) (⟨_, rfl, rfl, by first | exact Bz.t (by omega) | exact Bz.f (by omega)⟩)
  · skip
    refine s_iload_n C dX10_isNoSentence_4 rfl ?_
    refine s_aload_n C dX10_isNoSentence_5 rfl ?_
    refine s_getd (k := 6) (j := 6) (b := e) C dX10_isNoSentence_6 fl_X10_45 (by decide) rfl (by decide) rfl (h06) ?_
    refine s_geti (k := 7) (j := 7) C dX10_isNoSentence_9 fl_X10_149 (by rcases he with rfl | rfl <;> decide) (by rcases he with rfl | rfl <;> decide) (by decide) rfl (rfl) (fun r9 => ?_)
    refine s_icmp_lt (tgt := 19) C dX10_isNoSentence_12 (by decide) (by omega) (by omega) (fun c12 => ?_) (fun c12 => ?_)
    · skip
      refine s_iconst C dX10_isNoSentence_19 ?_
      exact s_zreturn C dX10_isNoSentence_20 (by decide) (⟨_, rfl, rfl, by first | exact Bz.t (by omega) | exact Bz.f (by omega)⟩)
    · skip
      refine s_iconst C dX10_isNoSentence_15 ?_
      refine s_goto (tgt := 20) C dX10_isNoSentence_16 (by decide) ?_
      exact s_zreturn C dX10_isNoSentence_20 (by decide) (⟨_, rfl, rfl, by first | exact Bz.t (by omega) | exact Bz.f (by omega)⟩)

set_option maxRecDepth 20000 in
set_option maxHeartbeats 4000000 in
theorem ct_X10_sharedKeys (E : Ev) (M : Mm) (i j : Int) (hi : 0 ≤ i ∧ i < 24) (hj : 0 ≤ j ∧ j < 24) (h1 : 0 ≤ M 41 i ∧ M 41 i < 24) (h2 : 0 ≤ M 41 j ∧ M 41 j < 24) : Ct E yX10_sharedKeys cX10_sharedKeys 3 (some .int) 0 [zr E 0, zi i, zi j] M (pP M (fun z => z = M 34 (M 41 i * 24 + M 41 j))) := by
  refine Ct.of (own := RX10) (lv0 := [some (zr E 0), some (zi i), some (zi j)]) (by decide) rfl (Nat.le_of_ble_eq_true rfl) rfl (fun κ C => ?_)
  refine s_aload_n C dX10_sharedKeys_0 rfl ?_
  refine s_getr (k := 8) (b := 31) C dX10_sharedKeys_1 fl_X10_55 (by decide) rfl (by decide) rfl ?_
  refine s_getr (k := 2) (b := 34) C dX10_sharedKeys_4 fl_X10_209 (by decide) rfl (by decide) rfl ?_
  refine s_aload_n C dX10_sharedKeys_7 rfl ?_
  refine s_getr (k := 9) (b := 40) C dX10_sharedKeys_8 fl_X10_62 (by decide) rfl (by decide) rfl ?_
  refine s_getr (k := 0) (b := 41) C dX10_sharedKeys_11 fl_X10_166 (by decide) rfl (by decide) rfl ?_
  refine s_iload_n C dX10_sharedKeys_14 rfl ?_
  refine s_iaload (n := 24) C dX10_sharedKeys_15 (by decide) rfl rfl (by omega) (by omega) (by omega) (rfl) (fun r15 => ?_)
  refine s_bipush C dX10_sharedKeys_16 (by decide) ?_
  refine s_imul C dX10_sharedKeys_18 ?_
  refine s_aload_n C dX10_sharedKeys_19 rfl ?_
  refine s_getr (k := 9) (b := 40) C dX10_sharedKeys_20 fl_X10_62 (by decide) rfl (by decide) rfl ?_
  refine s_getr (k := 0) (b := 41) C dX10_sharedKeys_23 fl_X10_166 (by decide) rfl (by decide) rfl ?_
  refine s_iload_n C dX10_sharedKeys_26 rfl ?_
  refine s_iaload (n := 24) C dX10_sharedKeys_27 (by decide) rfl rfl (by omega) (by omega) (by omega) (rfl) (fun r27 => ?_)
  refine s_iadd C dX10_sharedKeys_28 ?_
  refine s_iaload (n := 576) C dX10_sharedKeys_29 (by decide) rfl rfl (by omega) (by omega) (by omega) (rfl) (fun r29 => ?_)
  exact s_ireturn C dX10_sharedKeys_30 (⟨_, rfl, rfl, rfl⟩)

set_option maxRecDepth 20000 in
set_option maxHeartbeats 4000000 in
theorem ct_X10_kindAt (E : Ev) (M : Mm) (i : Int) (hi : 0 ≤ i ∧ i < 24) (h1 : 0 ≤ M 41 i ∧ M 41 i < 24) : Ct E yX10_kindAt cX10_kindAt 2 (some .int) 0 [zr E 0, zi i] M (pP M (fun z => z = M 32 (M 41 i))) := by
  refine Ct.of (own := RX10) (lv0 := [some (zr E 0), some (zi i)]) (by decide) rfl (Nat.le_of_ble_eq_true rfl) rfl (fun κ C => ?_)
  refine s_aload_n C dX10_kindAt_0 rfl ?_
  refine s_getr (k := 8) (b := 31) C dX10_kindAt_1 fl_X10_55 (by decide) rfl (by decide) rfl ?_
  refine s_getr (k := 0) (b := 32) C dX10_kindAt_4 fl_X10_175 (by decide) rfl (by decide) rfl ?_
  refine s_aload_n C dX10_kindAt_7 rfl ?_
  refine s_getr (k := 9) (b := 40) C dX10_kindAt_8 fl_X10_62 (by decide) rfl (by decide) rfl ?_
  refine s_getr (k := 0) (b := 41) C dX10_kindAt_11 fl_X10_166 (by decide) rfl (by decide) rfl ?_
  refine s_iload_n C dX10_kindAt_14 rfl ?_
  refine s_iaload (n := 24) C dX10_kindAt_15 (by decide) rfl rfl (by omega) (by omega) (by omega) (rfl) (fun r15 => ?_)
  refine s_iaload (n := 24) C dX10_kindAt_16 (by decide) rfl rfl (by omega) (by omega) (by omega) (rfl) (fun r16 => ?_)
  exact s_ireturn C dX10_kindAt_17 (⟨_, rfl, rfl, rfl⟩)

set_option maxRecDepth 20000 in
set_option maxHeartbeats 4000000 in
theorem ct_X10_isBound (E : Ev) (M : Mm) (k : Int) (hk : rg k) : Ct E yX10_isBound cX10_isBound 1 (some .boolean) 0 [zi k] M (pP M (fun z => Bz z (k = 1 ∨ k = 2 ∨ k = 3))) := by
  refine Ct.of (own := RX10) (lv0 := [some (zi k)]) (by decide) rfl (Nat.le_of_ble_eq_true rfl) rfl (fun κ C => ?_)
  refine s_iload_n C dX10_isBound_0 rfl ?_
  refine s_iconst C dX10_isBound_1 ?_
  refine s_icmp_eq (tgt := 15) C dX10_isBound_2 (by decide) (by omega) (by omega) (fun c2 => ?_) (fun c2 => ?_)
  · skip
    refine s_iconst C dX10_isBound_15 ?_
    refine s_goto (tgt := 20) C dX10_isBound_16 (by decide) ?_
    exact s_zreturn C dX10_isBound_20 (by decide) (⟨_, rfl, rfl, by first | exact Bz.t (by omega) | exact Bz.f (by omega)⟩)
  · skip
    refine s_iload_n C dX10_isBound_5 rfl ?_
    refine s_iconst C dX10_isBound_6 ?_
    refine s_icmp_eq (tgt := 15) C dX10_isBound_7 (by decide) (by omega) (by omega) (fun c7 => ?_) (fun c7 => ?_)
    · skip
      refine s_iconst C dX10_isBound_15 ?_
      refine s_goto (tgt := 20) C dX10_isBound_16 (by decide) ?_
      exact s_zreturn C dX10_isBound_20 (by decide) (⟨_, rfl, rfl, by first | exact Bz.t (by omega) | exact Bz.f (by omega)⟩)
    · skip
      refine s_iload_n C dX10_isBound_10 rfl ?_
      refine s_iconst C dX10_isBound_11 ?_
      refine s_icmp_ne (tgt := 19) C dX10_isBound_12 (by decide) (by omega) (by omega) (fun c12 => ?_) (fun c12 => ?_)
      · skip
        refine s_iconst C dX10_isBound_19 ?_
        exact s_zreturn C dX10_isBound_20 (by decide) (⟨_, rfl, rfl, by first | exact Bz.t (by omega) | exact Bz.f (by omega)⟩)
      · skip
        refine s_iconst C dX10_isBound_15 ?_
        refine s_goto (tgt := 20) C dX10_isBound_16 (by decide) ?_
        exact s_zreturn C dX10_isBound_20 (by decide) (⟨_, rfl, rfl, by first | exact Bz.t (by omega) | exact Bz.f (by omega)⟩)

set_option maxRecDepth 20000 in
set_option maxHeartbeats 4000000 in
theorem ct_X10_isNoPoint (E : Ev) (M : Mm) (k : Int) (hk : rg k) : Ct E yX10_isNoPoint cX10_isNoPoint 1 (some .boolean) 0 [zi k] M (pP M (fun z => Bz z (k < -100 ∨ 100 < k))) := by
  refine Ct.of (own := RX10) (lv0 := [some (zi k)]) (by decide) rfl (Nat.le_of_ble_eq_true rfl) rfl (fun κ C => ?_)
  refine s_iload_n C dX10_isNoPoint_0 rfl ?_
  refine s_bipush C dX10_isNoPoint_1 (by decide) ?_
  refine s_icmp_lt (tgt := 12) C dX10_isNoPoint_3 (by decide) (by omega) (by omega) (fun c3 => ?_) (fun c3 => ?_)
  · skip
    refine s_iconst C dX10_isNoPoint_12 ?_
    refine s_goto (tgt := 17) C dX10_isNoPoint_13 (by decide) ?_
    exact s_zreturn C dX10_isNoPoint_17 (by decide) (⟨_, rfl, rfl, by first | exact Bz.t (by omega) | exact Bz.f (by omega)⟩)
  · skip
    refine s_iload_n C dX10_isNoPoint_6 rfl ?_
    refine s_bipush C dX10_isNoPoint_7 (by decide) ?_
    refine s_icmp_le (tgt := 16) C dX10_isNoPoint_9 (by decide) (by omega) (by omega) (fun c9 => ?_) (fun c9 => ?_)
    · skip
      refine s_iconst C dX10_isNoPoint_16 ?_
      exact s_zreturn C dX10_isNoPoint_17 (by decide) (⟨_, rfl, rfl, by first | exact Bz.t (by omega) | exact Bz.f (by omega)⟩)
    · skip
      refine s_iconst C dX10_isNoPoint_12 ?_
      refine s_goto (tgt := 17) C dX10_isNoPoint_13 (by decide) ?_
      exact s_zreturn C dX10_isNoPoint_17 (by decide) (⟨_, rfl, rfl, by first | exact Bz.t (by omega) | exact Bz.f (by omega)⟩)

set_option maxRecDepth 20000 in
set_option maxHeartbeats 4000000 in
theorem ct_X10_isAgainstSign (E : Ev) (M : Mm) (h d : Int) (hh : 0 ≤ h ∧ h < 24) (hd : 0 ≤ d ∧ d < 24) (h1 : 0 ≤ M 41 d ∧ M 41 d < 24) (hk : rg (M 32 (M 41 d))) : Ct E yX10_isAgainstSign cX10_isAgainstSign 3 (some .boolean) 1 [zr E 0, zi h, zi d] M (pP M (fun z => Bz z (agn (M 32 (M 41 d)) h d))) := by
  refine Ct.of (own := RX10) (lv0 := [some (zr E 0), some (zi h), some (zi d)]) (by decide) rfl (Nat.le_of_ble_eq_true rfl) rfl (fun κ C => ?_)
  refine s_aload_n C dX10_isAgainstSign_0 rfl ?_
  refine s_iload_n C dX10_isAgainstSign_1 rfl ?_
  refine s_callV1 C dX10_isAgainstSign_2 cy_X10_kindAt cv_X10_kindAt lk_X10_239 (ct_X10_kindAt E M d hd h1) (by decide) (by decide) (by first | decide | (decide)) rfl (Nat.le_of_ble_eq_true rfl) (k_P (fun z2 q2 => ?_))
  subst q2
  refine s_tabc (v := 1) (tgt := 36) C dX10_isAgainstSign_5 (by omega) (by decide) rfl (by decide) (fun c5 => ?_) (fun n5_1 => ?_)
  · skip
    refine s_iload_n C dX10_isAgainstSign_36 rfl ?_
    refine s_iload_n C dX10_isAgainstSign_37 rfl ?_
    refine s_icmp_le (tgt := 45) C dX10_isAgainstSign_38 (by decide) (by omega) (by omega) (fun c38 => ?_) (fun c38 => ?_)
    · skip
      refine s_iconst C dX10_isAgainstSign_45 ?_
      exact s_zreturn C dX10_isAgainstSign_46 (by decide) (⟨_, rfl, rfl, by first | exact Bz.t (by omega) | exact Bz.f (by omega)⟩)
    · skip
      refine s_iconst C dX10_isAgainstSign_41 ?_
      refine s_goto (tgt := 46) C dX10_isAgainstSign_42 (by decide) ?_
      exact s_zreturn C dX10_isAgainstSign_46 (by decide) (⟨_, rfl, rfl, by first | exact Bz.t (by omega) | exact Bz.f (by omega)⟩)
  refine s_tabc (v := 2) (tgt := 47) C dX10_isAgainstSign_5 (by omega) (by decide) rfl (by decide) (fun c5 => ?_) (fun n5_2 => ?_)
  · skip
    refine s_iload_n C dX10_isAgainstSign_47 rfl ?_
    refine s_iload_n C dX10_isAgainstSign_48 rfl ?_
    refine s_icmp_le (tgt := 56) C dX10_isAgainstSign_49 (by decide) (by omega) (by omega) (fun c49 => ?_) (fun c49 => ?_)
    · skip
      refine s_iconst C dX10_isAgainstSign_56 ?_
      exact s_zreturn C dX10_isAgainstSign_57 (by decide) (⟨_, rfl, rfl, by first | exact Bz.t (by omega) | exact Bz.f (by omega)⟩)
    · skip
      refine s_iconst C dX10_isAgainstSign_52 ?_
      refine s_goto (tgt := 57) C dX10_isAgainstSign_53 (by decide) ?_
      exact s_zreturn C dX10_isAgainstSign_57 (by decide) (⟨_, rfl, rfl, by first | exact Bz.t (by omega) | exact Bz.f (by omega)⟩)
  refine s_tabc (v := 3) (tgt := 58) C dX10_isAgainstSign_5 (by omega) (by decide) rfl (by decide) (fun c5 => ?_) (fun n5_3 => ?_)
  · skip
    refine s_iload_n C dX10_isAgainstSign_58 rfl ?_
    refine s_iload_n C dX10_isAgainstSign_59 rfl ?_
    refine s_iconst C dX10_isAgainstSign_60 ?_
    refine s_isub C dX10_isAgainstSign_61 ?_
    refine s_icmp_eq (tgt := 69) C dX10_isAgainstSign_62 (by decide) (by omega) (by omega) (fun c62 => ?_) (fun c62 => ?_)
    · skip
      refine s_iconst C dX10_isAgainstSign_69 ?_
      exact s_zreturn C dX10_isAgainstSign_70 (by decide) (⟨_, rfl, rfl, by first | exact Bz.t (by omega) | exact Bz.f (by omega)⟩)
    · skip
      refine s_iconst C dX10_isAgainstSign_65 ?_
      refine s_goto (tgt := 70) C dX10_isAgainstSign_66 (by decide) ?_
      exact s_zreturn C dX10_isAgainstSign_70 (by decide) (⟨_, rfl, rfl, by first | exact Bz.t (by omega) | exact Bz.f (by omega)⟩)
  refine s_tabc (v := 4) (tgt := 71) C dX10_isAgainstSign_5 (by omega) (by decide) rfl (by decide) (fun c5 => ?_) (fun n5_4 => ?_)
  · skip
    refine s_iload_n C dX10_isAgainstSign_71 rfl ?_
    refine s_iload_n C dX10_isAgainstSign_72 rfl ?_
    refine s_icmp_ge (tgt := 80) C dX10_isAgainstSign_73 (by decide) (by omega) (by omega) (fun c73 => ?_) (fun c73 => ?_)
    · skip
      refine s_iconst C dX10_isAgainstSign_80 ?_
      exact s_zreturn C dX10_isAgainstSign_81 (by decide) (⟨_, rfl, rfl, by first | exact Bz.t (by omega) | exact Bz.f (by omega)⟩)
    · skip
      refine s_iconst C dX10_isAgainstSign_76 ?_
      refine s_goto (tgt := 81) C dX10_isAgainstSign_77 (by decide) ?_
      exact s_zreturn C dX10_isAgainstSign_81 (by decide) (⟨_, rfl, rfl, by first | exact Bz.t (by omega) | exact Bz.f (by omega)⟩)
  refine s_tabd (tgt := 82) C dX10_isAgainstSign_5 (by omega) (by omega) (by decide) ?_
  refine s_iconst C dX10_isAgainstSign_82 ?_
  exact s_zreturn C dX10_isAgainstSign_83 (by decide) (⟨_, rfl, rfl, by first | exact Bz.t (by omega) | exact Bz.f (by omega)⟩)

set_option maxRecDepth 20000 in
set_option maxHeartbeats 4000000 in
theorem ct_X10_hangCost (E : Ev) (e : Nat) (he : e = 17 ∨ e = 24) (M : Mm) (h06 : M 0 6 = (e : Int)) (h d : Int) (hh : 0 ≤ h ∧ h < 24) (hd : 0 ≤ d ∧ d < 24) (h1 : 0 ≤ M 41 h ∧ M 41 h < 24) (h2 : 0 ≤ M 41 d ∧ M 41 d < 24) (hk : rg (M 32 (M 41 d))) (hsk : rg (M 34 (M 41 h * 24 + M 41 d))) : Ct E yX10_hangCost cX10_hangCost 6 (some .int) 2 [zr E 0, zi h, zi d] M (pP M (fun z => z = hC M e h d)) := by
  refine Ct.of (own := RX10) (lv0 := [some (zr E 0), some (zi h), some (zi d), none, none, none]) (by decide) rfl (Nat.le_of_ble_eq_true rfl) rfl (fun κ C => ?_)
  obtain ⟨l1, l2, l3, l4, l5, l6⟩ := lnT he
  refine s_iload_n C dX10_hangCost_0 rfl ?_
  refine s_iload_n C dX10_hangCost_1 rfl ?_
  refine s_isub C dX10_hangCost_2 ?_
  refine s_abs C dX10_hangCost_3 lm_X10_256 js_abs ji_Math jc_abs (by decide) (Nat.le_of_ble_eq_true rfl) (by omega) ?_
  refine s_iconst C dX10_hangCost_6 ?_
  refine s_isub C dX10_hangCost_7 ?_
  refine s_istore_n (lv' := [_, _, _, _, _, _]) C dX10_hangCost_8 (by decide) rfl rfl ?_
  refine s_iconst C dX10_hangCost_9 ?_
  refine s_iconst C dX10_hangCost_10 ?_
  refine s_aload_n C dX10_hangCost_11 rfl ?_
  refine s_iload_n C dX10_hangCost_12 rfl ?_
  refine s_iload_n C dX10_hangCost_13 rfl ?_
  refine s_callV2 C dX10_hangCost_14 cy_X10_sharedKeys cv_X10_sharedKeys lk_X10_205 (ct_X10_sharedKeys E M h d hh hd h1 h2) (by decide) (by decide) (by first | decide | (decide)) rfl (Nat.le_of_ble_eq_true rfl) (k_P (fun z14 q14 => ?_))
  subst q14
  refine s_min C dX10_hangCost_17 lm_X10_261 js_min ji_Math jc_min (by decide) (Nat.le_of_ble_eq_true rfl) (by omega) (by omega) ?_
  refine s_isub C dX10_hangCost_20 ?_
  refine s_istore (lv' := [_, _, _, _, _, _]) C dX10_hangCost_21 (by decide) rfl rfl ?_
  refine s_aload_n C dX10_hangCost_23 rfl ?_
  refine s_getr (k := 4) (b := 15) C dX10_hangCost_24 fl_X10_31 (by decide) rfl (by decide) rfl ?_
  refine s_iconst C dX10_hangCost_27 ?_
  refine s_iaload (n := 4) C dX10_hangCost_28 (by decide) rfl rfl (by omega) (by omega) (by omega) (rfl) (fun r28 => ?_)
  refine s_iload_n C dX10_hangCost_29 rfl ?_
  refine s_imul C dX10_hangCost_30 ?_
  refine s_aload_n C dX10_hangCost_31 rfl ?_
  refine s_getr (k := 4) (b := 15) C dX10_hangCost_32 fl_X10_31 (by decide) rfl (by decide) rfl ?_
  refine s_iconst C dX10_hangCost_35 ?_
  refine s_iaload (n := 4) C dX10_hangCost_36 (by decide) rfl rfl (by omega) (by omega) (by omega) (rfl) (fun r36 => ?_)
  refine s_iload C dX10_hangCost_37 rfl ?_
  refine s_imul C dX10_hangCost_39 ?_
  refine s_iadd C dX10_hangCost_40 ?_
  refine s_istore (lv' := [_, _, _, _, _, _]) C dX10_hangCost_41 (by decide) rfl rfl ?_
  refine s_aload_n C dX10_hangCost_43 rfl ?_
  refine s_getd (k := 6) (j := 6) (b := e) C dX10_hangCost_44 fl_X10_45 (by decide) rfl (by decide) rfl (h06) ?_
  refine s_getr (k := 5) (b := e + 6) C dX10_hangCost_47 fl_X10_178 (by rcases he with rfl | rfl <;> decide) (by rcases he with rfl | rfl <;> decide) (by decide) (by rcases he with rfl | rfl <;> decide) ?_
  refine s_iload_n C dX10_hangCost_50 rfl ?_
  refine s_iaload C dX10_hangCost_51 (by rcases he with rfl | rfl <;> decide) (by rcases he with rfl | rfl <;> decide) rfl (by omega) (by omega) (by omega) (rfl) (fun r51 => ?_)
  refine s_aload_n C dX10_hangCost_52 rfl ?_
  refine s_getd (k := 6) (j := 6) (b := e) C dX10_hangCost_53 fl_X10_45 (by decide) rfl (by decide) rfl (h06) ?_
  refine s_getr (k := 5) (b := e + 6) C dX10_hangCost_56 fl_X10_178 (by rcases he with rfl | rfl <;> decide) (by rcases he with rfl | rfl <;> decide) (by decide) (by rcases he with rfl | rfl <;> decide) ?_
  refine s_iload_n C dX10_hangCost_59 rfl ?_
  refine s_iaload C dX10_hangCost_60 (by rcases he with rfl | rfl <;> decide) (by rcases he with rfl | rfl <;> decide) rfl (by omega) (by omega) (by omega) (rfl) (fun r60 => ?_)
  refine s_icmp_eq (tgt := 75) C dX10_hangCost_61 (by decide) (by omega) (by omega) (fun c61 => ?_) (fun c61 => ?_)
  · skip
    refine s_aload_n C dX10_hangCost_75 rfl ?_
    refine s_iload_n C dX10_hangCost_76 rfl ?_
    refine s_iload_n C dX10_hangCost_77 rfl ?_
    refine s_callV2 C dX10_hangCost_78 cy_X10_isAgainstSign cv_X10_isAgainstSign lk_X10_264 (ct_X10_isAgainstSign E M h d hh hd h2 hk) (by decide) (by decide) (by first | decide | (decide)) rfl (Nat.le_of_ble_eq_true rfl) (k_P (fun z78 q78 => ?_))
    refine s_if_eq (tgt := 95) C dX10_hangCost_81 (by decide) (by rcases q78 with q | q <;> omega) (fun c81 => ?_) (fun c81 => ?_)
    · skip
      refine s_iload C dX10_hangCost_95 rfl ?_
      exact s_ireturn C dX10_hangCost_97 (⟨_, rfl, rfl, by
      unfold hC
      have hag : (agn (M 32 (M 41 d)) h d ∧ z78 = 1) ∨ (¬ agn (M 32 (M 41 d)) h d ∧ z78 = 0) := by
        rcases q78 with ⟨g1, g2⟩ | ⟨g1, g2⟩
        · exact Or.inl ⟨g2, g1⟩
        · exact Or.inr ⟨g2, g1⟩
      rcases hag with ⟨g, g2⟩ | ⟨g, g2⟩
      · rw [if_pos g]
        first
          | (exfalso; omega)
          | (rw [if_pos c61]; omega)
          | (rw [if_neg c61])
      · rw [if_neg g]
        first
          | (exfalso; omega)
          | (rw [if_pos c61]; omega)
          | (rw [if_neg c61]; omega)⟩)
    · skip
      refine s_iload C dX10_hangCost_84 rfl ?_
      refine s_aload_n C dX10_hangCost_86 rfl ?_
      refine s_getr (k := 4) (b := 15) C dX10_hangCost_87 fl_X10_31 (by decide) rfl (by decide) rfl ?_
      refine s_iconst C dX10_hangCost_90 ?_
      refine s_iaload (n := 4) C dX10_hangCost_91 (by decide) rfl rfl (by omega) (by omega) (by omega) (rfl) (fun r91 => ?_)
      refine s_iadd C dX10_hangCost_92 ?_
      refine s_istore (lv' := [_, _, _, _, _, _]) C dX10_hangCost_93 (by decide) rfl rfl ?_
      refine s_iload C dX10_hangCost_95 rfl ?_
      exact s_ireturn C dX10_hangCost_97 (⟨_, rfl, rfl, by
      unfold hC
      have hag : (agn (M 32 (M 41 d)) h d ∧ z78 = 1) ∨ (¬ agn (M 32 (M 41 d)) h d ∧ z78 = 0) := by
        rcases q78 with ⟨g1, g2⟩ | ⟨g1, g2⟩
        · exact Or.inl ⟨g2, g1⟩
        · exact Or.inr ⟨g2, g1⟩
      rcases hag with ⟨g, g2⟩ | ⟨g, g2⟩
      · rw [if_pos g]
        first
          | (exfalso; omega)
          | (rw [if_pos c61]; omega)
          | (rw [if_neg c61])
      · rw [if_neg g]
        first
          | (exfalso; omega)
          | (rw [if_pos c61]; omega)
          | (rw [if_neg c61]; omega)⟩)
  · skip
    refine s_iload C dX10_hangCost_64 rfl ?_
    refine s_aload_n C dX10_hangCost_66 rfl ?_
    refine s_getr (k := 4) (b := 15) C dX10_hangCost_67 fl_X10_31 (by decide) rfl (by decide) rfl ?_
    refine s_iconst C dX10_hangCost_70 ?_
    refine s_iaload (n := 4) C dX10_hangCost_71 (by decide) rfl rfl (by omega) (by omega) (by omega) (rfl) (fun r71 => ?_)
    refine s_iadd C dX10_hangCost_72 ?_
    refine s_istore (lv' := [_, _, _, _, _, _]) C dX10_hangCost_73 (by decide) rfl rfl ?_
    refine s_aload_n C dX10_hangCost_75 rfl ?_
    refine s_iload_n C dX10_hangCost_76 rfl ?_
    refine s_iload_n C dX10_hangCost_77 rfl ?_
    refine s_callV2 C dX10_hangCost_78 cy_X10_isAgainstSign cv_X10_isAgainstSign lk_X10_264 (ct_X10_isAgainstSign E M h d hh hd h2 hk) (by decide) (by decide) (by first | decide | (decide)) rfl (Nat.le_of_ble_eq_true rfl) (k_P (fun z78 q78 => ?_))
    refine s_if_eq (tgt := 95) C dX10_hangCost_81 (by decide) (by rcases q78 with q | q <;> omega) (fun c81 => ?_) (fun c81 => ?_)
    · skip
      refine s_iload C dX10_hangCost_95 rfl ?_
      exact s_ireturn C dX10_hangCost_97 (⟨_, rfl, rfl, by
      unfold hC
      have hag : (agn (M 32 (M 41 d)) h d ∧ z78 = 1) ∨ (¬ agn (M 32 (M 41 d)) h d ∧ z78 = 0) := by
        rcases q78 with ⟨g1, g2⟩ | ⟨g1, g2⟩
        · exact Or.inl ⟨g2, g1⟩
        · exact Or.inr ⟨g2, g1⟩
      rcases hag with ⟨g, g2⟩ | ⟨g, g2⟩
      · rw [if_pos g]
        first
          | (exfalso; omega)
          | (rw [if_pos c61]; omega)
          | (rw [if_neg c61])
      · rw [if_neg g]
        first
          | (exfalso; omega)
          | (rw [if_pos c61]; omega)
          | (rw [if_neg c61]; omega)⟩)
    · skip
      refine s_iload C dX10_hangCost_84 rfl ?_
      refine s_aload_n C dX10_hangCost_86 rfl ?_
      refine s_getr (k := 4) (b := 15) C dX10_hangCost_87 fl_X10_31 (by decide) rfl (by decide) rfl ?_
      refine s_iconst C dX10_hangCost_90 ?_
      refine s_iaload (n := 4) C dX10_hangCost_91 (by decide) rfl rfl (by omega) (by omega) (by omega) (rfl) (fun r91 => ?_)
      refine s_iadd C dX10_hangCost_92 ?_
      refine s_istore (lv' := [_, _, _, _, _, _]) C dX10_hangCost_93 (by decide) rfl rfl ?_
      refine s_iload C dX10_hangCost_95 rfl ?_
      exact s_ireturn C dX10_hangCost_97 (⟨_, rfl, rfl, by
      unfold hC
      have hag : (agn (M 32 (M 41 d)) h d ∧ z78 = 1) ∨ (¬ agn (M 32 (M 41 d)) h d ∧ z78 = 0) := by
        rcases q78 with ⟨g1, g2⟩ | ⟨g1, g2⟩
        · exact Or.inl ⟨g2, g1⟩
        · exact Or.inr ⟨g2, g1⟩
      rcases hag with ⟨g, g2⟩ | ⟨g, g2⟩
      · rw [if_pos g]
        first
          | (exfalso; omega)
          | (rw [if_pos c61]; omega)
          | (rw [if_neg c61])
      · rw [if_neg g]
        first
          | (exfalso; omega)
          | (rw [if_pos c61]; omega)
          | (rw [if_neg c61]; omega)⟩)

set_option maxRecDepth 20000 in
set_option maxHeartbeats 4000000 in
theorem ct_X10_fault (E : Ev) (M : Mm) (w : Int) (hw : rg w) : Ct E yX10_fault cX10_fault 2 (some .int) 0 [zr E 0, zi w] M (pP M (fun z => z = if w = 0 then M 16 0 else if w = 1 then M 16 1 else -1)) := by
  refine Ct.of (own := RX10) (lv0 := [some (zr E 0), some (zi w)]) (by decide) rfl (Nat.le_of_ble_eq_true rfl) rfl (fun κ C => ?_)
  refine s_iload_n C dX10_fault_0 rfl ?_
  refine s_if_ne (tgt := 12) C dX10_fault_1 (by decide) (by omega) (fun c1 => ?_) (fun c1 => ?_)
  · skip
    refine s_iload_n C dX10_fault_12 rfl ?_
    refine s_iconst C dX10_fault_13 ?_
    refine s_icmp_ne (tgt := 27) C dX10_fault_14 (by decide) (by omega) (by omega) (fun c14 => ?_) (fun c14 => ?_)
    · skip
      refine s_iconst C dX10_fault_27 ?_
      exact s_ireturn C dX10_fault_28 (⟨_, rfl, rfl, by rw [if_neg c1]; first | rw [if_pos c14] | rw [if_neg c14]⟩)
    · skip
      refine s_aload_n C dX10_fault_17 rfl ?_
      refine s_getr (k := 5) (b := 16) C dX10_fault_18 fl_X10_38 (by decide) rfl (by decide) rfl ?_
      refine s_geti (k := 1) (j := 1) C dX10_fault_21 fl_X10_156 (by decide) rfl (by decide) rfl (rfl) (fun r21 => ?_)
      refine s_goto (tgt := 28) C dX10_fault_24 (by decide) ?_
      exact s_ireturn C dX10_fault_28 (⟨_, rfl, rfl, by rw [if_neg c1]; first | rw [if_pos c14] | rw [if_neg c14]⟩)
  · skip
    refine s_aload_n C dX10_fault_4 rfl ?_
    refine s_getr (k := 5) (b := 16) C dX10_fault_5 fl_X10_38 (by decide) rfl (by decide) rfl ?_
    refine s_geti (k := 0) (j := 0) C dX10_fault_8 fl_X10_146 (by decide) rfl (by decide) rfl (rfl) (fun r8 => ?_)
    exact s_ireturn C dX10_fault_11 (⟨_, rfl, rfl, by rw [if_pos c1]⟩)

set_option maxRecDepth 20000 in
set_option maxHeartbeats 4000000 in
theorem ct_X10_ordered (E : Ev) (M : Mm) (i : Int) (hi : rg i) (h7 : M 58 7 ≤ 10) : Ct E yX10_ordered cX10_ordered 2 (some .int) 0 [zr E 0, zi i] M (pP M (fun z => z = if 0 ≤ i ∧ i < M 58 7 then M 65 i else -1)) := by
  refine Ct.of (own := RX10) (lv0 := [some (zr E 0), some (zi i)]) (by decide) rfl (Nat.le_of_ble_eq_true rfl) rfl (fun κ C => ?_)
  refine s_iload_n C dX10_ordered_0 rfl ?_
  refine s_if_lt (tgt := 15) C dX10_ordered_1 (by decide) (by omega) (fun c1 => ?_) (fun c1 => ?_)
  · skip
    refine s_iconst C dX10_ordered_15 ?_
    refine s_goto (tgt := 28) C dX10_ordered_16 (by decide) ?_
    exact s_ireturn C dX10_ordered_28 (⟨_, rfl, rfl, by first | (rw [if_pos (by omega)]; done) | (rw [if_neg (by omega)]; done)⟩)
  · skip
    refine s_iload_n C dX10_ordered_4 rfl ?_
    refine s_aload_n C dX10_ordered_5 rfl ?_
    refine s_getr (k := 13) (b := 58) C dX10_ordered_6 fl_X10_90 (by decide) rfl (by decide) rfl ?_
    refine s_geti (k := 7) (j := 7) C dX10_ordered_9 fl_X10_292 (by decide) rfl (by decide) rfl (rfl) (fun r9 => ?_)
    refine s_icmp_lt (tgt := 19) C dX10_ordered_12 (by decide) (by omega) (by omega) (fun c12 => ?_) (fun c12 => ?_)
    · skip
      refine s_aload_n C dX10_ordered_19 rfl ?_
      refine s_getr (k := 13) (b := 58) C dX10_ordered_20 fl_X10_90 (by decide) rfl (by decide) rfl ?_
      refine s_getr (k := 6) (b := 65) C dX10_ordered_23 fl_X10_295 (by decide) rfl (by decide) rfl ?_
      refine s_iload_n C dX10_ordered_26 rfl ?_
      refine s_iaload (n := 10) C dX10_ordered_27 (by decide) rfl rfl (by omega) (by omega) (by omega) (rfl) (fun r27 => ?_)
      exact s_ireturn C dX10_ordered_28 (⟨_, rfl, rfl, by first | (rw [if_pos (by omega)]; done) | (rw [if_neg (by omega)]; done)⟩)
    · skip
      refine s_iconst C dX10_ordered_15 ?_
      refine s_goto (tgt := 28) C dX10_ordered_16 (by decide) ?_
      exact s_ireturn C dX10_ordered_28 (⟨_, rfl, rfl, by first | (rw [if_pos (by omega)]; done) | (rw [if_neg (by omega)]; done)⟩)

set_option maxRecDepth 20000 in
set_option maxHeartbeats 4000000 in
theorem ct_X10_end (E : Ev) (M : Mm) (n : Int) (hn : rg n) : Ct E yX10_end cX10_end 2 (some .int) 0 [zr E 0, zi n] M (pI (fun z M' => ((n < 0 ∨ M 1 1 < n) ∧ z = -1 ∧ M' = M) ∨ (0 ≤ n ∧ n ≤ M 1 1 ∧ z = n ∧ M' = mput M 1 1 n))) := by
  refine Ct.of (own := RX10) (lv0 := [some (zr E 0), some (zi n)]) (by decide) rfl (Nat.le_of_ble_eq_true rfl) rfl (fun κ C => ?_)
  refine s_iload_n C dX10_end_0 rfl ?_
  refine s_if_lt (tgt := 15) C dX10_end_1 (by decide) (by omega) (fun c1 => ?_) (fun c1 => ?_)
  · skip
    refine s_iconst C dX10_end_15 ?_
    exact s_ireturn C dX10_end_16 (⟨_, rfl, Or.inl ⟨by omega, rfl, rfl⟩⟩)
  · skip
    refine s_iload_n C dX10_end_4 rfl ?_
    refine s_aload_n C dX10_end_5 rfl ?_
    refine s_getr (k := 0) (b := 1) C dX10_end_6 fl_X10_12 (by decide) rfl (by decide) rfl ?_
    refine s_geti (k := 1) (j := 1) C dX10_end_9 fl_X10_94 (by decide) rfl (by decide) rfl (rfl) (fun r9 => ?_)
    refine s_icmp_le (tgt := 17) C dX10_end_12 (by decide) (by omega) (by omega) (fun c12 => ?_) (fun c12 => ?_)
    · skip
      refine s_aload_n C dX10_end_17 rfl ?_
      refine s_getr (k := 0) (b := 1) C dX10_end_18 fl_X10_12 (by decide) rfl (by decide) rfl ?_
      refine s_iload_n C dX10_end_21 rfl ?_
      refine s_puti (k := 1) (j := 1) C dX10_end_22 fp_X10_94 (by decide) rfl rfl rfl (by omega) ?_
      refine s_iload_n C dX10_end_25 rfl ?_
      exact s_ireturn C dX10_end_26 (⟨_, rfl, Or.inr ⟨by omega, by omega, rfl, rfl⟩⟩)
    · skip
      refine s_iconst C dX10_end_15 ?_
      exact s_ireturn C dX10_end_16 (⟨_, rfl, Or.inl ⟨by omega, rfl, rfl⟩⟩)

set_option maxRecDepth 20000 in
set_option maxHeartbeats 4000000 in
theorem ct_X10_weight (E : Ev) (M : Mm) (i v : Int) (hi : rg i) (hv : rg v) : Ct E yX10_weight cX10_weight 4 (some .int) 0 [zr E 0, zi i, zi v] M (pI (fun z M' => ((i < 0 ∨ 3 < i ∨ v < 0 ∨ 50 < v) ∧ z = -2 ∧ M' = M) ∨ ((0 ≤ i ∧ i ≤ 3 ∧ 0 ≤ v ∧ v ≤ 50) ∧ z = M 15 i ∧ M' = mput (mput M 15 i v) 0 15 1))) := by
  refine Ct.of (own := RX10) (lv0 := [some (zr E 0), some (zi i), some (zi v), none]) (by decide) rfl (Nat.le_of_ble_eq_true rfl) rfl (fun κ C => ?_)
  refine s_iload_n C dX10_weight_0 rfl ?_
  refine s_if_lt (tgt := 19) C dX10_weight_1 (by decide) (by omega) (fun c1 => ?_) (fun c1 => ?_)
  · skip
    refine s_bipush C dX10_weight_19 (by decide) ?_
    exact s_ireturn C dX10_weight_21 (⟨_, rfl, Or.inl ⟨by omega, rfl, rfl⟩⟩)
  · skip
    refine s_iload_n C dX10_weight_4 rfl ?_
    refine s_iconst C dX10_weight_5 ?_
    refine s_icmp_ge (tgt := 19) C dX10_weight_6 (by decide) (by omega) (by omega) (fun c6 => ?_) (fun c6 => ?_)
    · skip
      refine s_bipush C dX10_weight_19 (by decide) ?_
      exact s_ireturn C dX10_weight_21 (⟨_, rfl, Or.inl ⟨by omega, rfl, rfl⟩⟩)
    · skip
      refine s_iload_n C dX10_weight_9 rfl ?_
      refine s_if_lt (tgt := 19) C dX10_weight_10 (by decide) (by omega) (fun c10 => ?_) (fun c10 => ?_)
      · skip
        refine s_bipush C dX10_weight_19 (by decide) ?_
        exact s_ireturn C dX10_weight_21 (⟨_, rfl, Or.inl ⟨by omega, rfl, rfl⟩⟩)
      · skip
        refine s_iload_n C dX10_weight_13 rfl ?_
        refine s_bipush C dX10_weight_14 (by decide) ?_
        refine s_icmp_le (tgt := 22) C dX10_weight_16 (by decide) (by omega) (by omega) (fun c16 => ?_) (fun c16 => ?_)
        · skip
          refine s_aload_n C dX10_weight_22 rfl ?_
          refine s_getr (k := 4) (b := 15) C dX10_weight_23 fl_X10_31 (by decide) rfl (by decide) rfl ?_
          refine s_iload_n C dX10_weight_26 rfl ?_
          refine s_iaload (n := 4) C dX10_weight_27 (by decide) rfl rfl (by omega) (by omega) (by omega) (rfl) (fun r27 => ?_)
          refine s_istore_n (lv' := [_, _, _, _]) C dX10_weight_28 (by decide) rfl rfl ?_
          refine s_aload_n C dX10_weight_29 rfl ?_
          refine s_getr (k := 4) (b := 15) C dX10_weight_30 fl_X10_31 (by decide) rfl (by decide) rfl ?_
          refine s_iload_n C dX10_weight_33 rfl ?_
          refine s_iload_n C dX10_weight_34 rfl ?_
          refine s_iastore (n := 4) C dX10_weight_35 (by decide) rfl rfl (by omega) (by omega) (by omega) (by omega) ?_
          refine s_aload_n C dX10_weight_36 rfl ?_
          refine s_iconst C dX10_weight_37 ?_
          refine s_putz (k := 15) (j := 15) C dX10_weight_38 fp_X10_136 (by decide) rfl rfl rfl (by decide) ?_
          refine s_iload_n C dX10_weight_41 rfl ?_
          exact s_ireturn C dX10_weight_42 (⟨_, rfl, Or.inr ⟨by omega, rfl, rfl⟩⟩)
        · skip
          refine s_bipush C dX10_weight_19 (by decide) ?_
          exact s_ireturn C dX10_weight_21 (⟨_, rfl, Or.inl ⟨by omega, rfl, rfl⟩⟩)

set_option maxRecDepth 20000 in
set_option maxHeartbeats 4000000 in
theorem ct_X10_feed (E : Ev) (M : Mm) (a b c d f : Int) (hs : 0 ≤ M 1 1 ∧ M 1 1 ≤ 3000) : Ct E yX10_feed cX10_feed 6 (some .int) 1 [zr E 0, zi a, zi b, zi c, zi d, zi f] M (pI (fun z M' => (2980 < M 1 1 ∧ z = -3 ∧ M' = M) ∨ (M 1 1 ≤ 2980 ∧ z = M 1 1 + 20 ∧ M' = mapp (mapp (mapp (mapp (mapp M a 4) b 4) c 4) d 4) f 4))) := by
  refine Ct.of (own := RX10) (lv0 := [some (zr E 0), some (zi a), some (zi b), some (zi c), some (zi d), some (zi f)]) (by decide) rfl (Nat.le_of_ble_eq_true rfl) rfl (fun κ C => ?_)
  refine s_aload_n C dX10_feed_0 rfl ?_
  refine s_getr (k := 0) (b := 1) C dX10_feed_1 fl_X10_12 (by decide) rfl (by decide) rfl ?_
  refine s_geti (k := 1) (j := 1) C dX10_feed_4 fl_X10_94 (by decide) rfl (by decide) rfl (rfl) (fun r4 => ?_)
  refine s_bipush C dX10_feed_7 (by decide) ?_
  refine s_iadd C dX10_feed_9 ?_
  refine s_sipush C dX10_feed_10 (by decide) ?_
  refine s_icmp_le (tgt := 19) C dX10_feed_13 (by decide) (by omega) (by omega) (fun c13 => ?_) (fun c13 => ?_)
  · skip
    refine s_aload_n C dX10_feed_19 rfl ?_
    refine s_getr (k := 0) (b := 1) C dX10_feed_20 fl_X10_12 (by decide) rfl (by decide) rfl ?_
    refine s_iload_n C dX10_feed_23 rfl ?_
    refine s_callV1 C dX10_feed_24 cy_X7_append cv_X7_append lk_X10_98 (ct_X7_append E _ a (by first | omega | (simp only [mapp_11]; omega))) (by decide) (by decide) (by first | decide | (decide)) rfl (Nat.le_of_ble_eq_true rfl) (k_V (fun M24 q24 => ?_))
    subst q24
    refine s_aload_n C dX10_feed_27 rfl ?_
    refine s_getr (k := 0) (b := 1) C dX10_feed_28 fl_X10_12 (by decide) rfl (by decide) rfl ?_
    refine s_iload_n C dX10_feed_31 rfl ?_
    refine s_callV1 C dX10_feed_32 cy_X7_append cv_X7_append lk_X10_98 (ct_X7_append E _ b (by first | omega | (simp only [mapp_11]; omega))) (by decide) (by decide) (by first | decide | (decide)) rfl (Nat.le_of_ble_eq_true rfl) (k_V (fun M32 q32 => ?_))
    subst q32
    refine s_aload_n C dX10_feed_35 rfl ?_
    refine s_getr (k := 0) (b := 1) C dX10_feed_36 fl_X10_12 (by decide) rfl (by decide) rfl ?_
    refine s_iload_n C dX10_feed_39 rfl ?_
    refine s_callV1 C dX10_feed_40 cy_X7_append cv_X7_append lk_X10_98 (ct_X7_append E _ c (by first | omega | (simp only [mapp_11]; omega))) (by decide) (by decide) (by first | decide | (decide)) rfl (Nat.le_of_ble_eq_true rfl) (k_V (fun M40 q40 => ?_))
    subst q40
    refine s_aload_n C dX10_feed_43 rfl ?_
    refine s_getr (k := 0) (b := 1) C dX10_feed_44 fl_X10_12 (by decide) rfl (by decide) rfl ?_
    refine s_iload C dX10_feed_47 rfl ?_
    refine s_callV1 C dX10_feed_49 cy_X7_append cv_X7_append lk_X10_98 (ct_X7_append E _ d (by first | omega | (simp only [mapp_11]; omega))) (by decide) (by decide) (by first | decide | (decide)) rfl (Nat.le_of_ble_eq_true rfl) (k_V (fun M49 q49 => ?_))
    subst q49
    refine s_aload_n C dX10_feed_52 rfl ?_
    refine s_getr (k := 0) (b := 1) C dX10_feed_53 fl_X10_12 (by decide) rfl (by decide) rfl ?_
    refine s_iload C dX10_feed_56 rfl ?_
    refine s_callV1 C dX10_feed_58 cy_X7_append cv_X7_append lk_X10_98 (ct_X7_append E _ f (by first | omega | (simp only [mapp_11]; omega))) (by decide) (by decide) (by first | decide | (decide)) rfl (Nat.le_of_ble_eq_true rfl) (k_V (fun M58 q58 => ?_))
    subst q58
    refine s_aload_n C dX10_feed_61 rfl ?_
    refine s_getr (k := 0) (b := 1) C dX10_feed_62 fl_X10_12 (by decide) rfl (by decide) rfl ?_
    refine s_geti (k := 1) (j := 1) (z := M 1 1 + 20) C dX10_feed_65 fl_X10_94 (by decide) rfl (by decide) rfl (by simp only [mapp_11]; omega) (fun r65 => ?_)
    exact s_ireturn C dX10_feed_68 (⟨_, rfl, Or.inr ⟨by omega, rfl, rfl⟩⟩)
  · skip
    refine s_bipush C dX10_feed_16 (by decide) ?_
    exact s_ireturn C dX10_feed_18 (⟨_, rfl, Or.inl ⟨by omega, rfl, rfl⟩⟩)
