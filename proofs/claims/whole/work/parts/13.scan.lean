/-! the scanner's steps, as changes of memory: t is the text that is written (17 or 24) -/
def sNote (M : Mm) (k p : Int) : Mm := mput (mput M 16 0 k) 16 1 p
def sSent (t : Nat) (M : Mm) (p : Int) : Mm :=
  if 24 ≤ M t 7 then sNote M 4 p
  else mput (mput (mput (mput (mput (mput (mput (mput M 16 6 (if M 16 5 = 0 then M 16 6 else M 16 6 + 1)) 16 5 0) 16 4 0) 16 3 1) (t + 4) (M t 7) (M t 6)) (t + 5) (M t 7) 0) (t + 6) (M t 7) (if M 16 5 = 0 then M 16 6 else M 16 6 + 1)) t 7 (M t 7 + 1)
def sWord1 (t : Nat) (M : Mm) (p : Int) : Mm := if M 16 3 = 0 then sSent t M p else if 40 ≤ M (t + 5) (M t 7 - 1) then sNote M 3 p else M
def sWord2 (t : Nat) (M : Mm) (p : Int) : Mm := mput (mput (mput (mput (mput M 16 2 1) (t + 2) (M t 6) p) (t + 3) (M t 6) 1) t 6 (M t 6 + 1)) (t + 5) (M t 7 - 1) (M (t + 5) (M t 7 - 1) + 1)
def sWord (t : Nat) (M : Mm) (p : Int) : Mm := if sWord1 t M p 16 0 = 0 then sWord2 t (sWord1 t M p) p else sWord1 t M p
def sLetter (t : Nat) (M : Mm) (p : Int) : Mm := if M 16 2 = 0 then sWord t M p else if 16 ≤ M (t + 3) (M t 6 - 1) then sNote M 2 p else mput M (t + 3) (M t 6 - 1) (M (t + 3) (M t 6 - 1) + 1)
def sLine (t : Nat) (M : Mm) : Mm := if M 16 3 = 0 ∧ 0 < M t 7 then mput (mput M 16 5 (if M 16 5 = 0 ∧ M 16 4 = 0 then 0 else 1)) 16 4 1 else M
def sEnd (M : Mm) (p : Int) : Mm := mput (if M 16 3 = 0 then sNote M 5 p else M) 16 3 0
def sMark (t : Nat) (M : Mm) (p b : Int) : Mm := if b = 32 then M else if b = 10 then sLine t M else if b = 44 ∨ b = 58 ∨ b = 59 then mput M 16 4 0 else if b = 46 ∨ b = 33 ∨ b = 63 then sEnd M p else sNote M 1 p
def sByte (t : Nat) (M : Mm) (p b : Int) : Mm := if ofW b then sLetter t (mput M (t + 1) p b) p else sMark t (mput (mput M (t + 1) p b) 16 2 0) p b
def sClear (t : Nat) (M : Mm) : Mm := mput (mput (mput (mput (mput (mput (mput (mput (mput M 16 0 0) 16 1 (-1)) 16 2 0) 16 3 0) 16 4 0) 16 5 0) 16 6 0) t 6 0) t 7 0
def sIt (t : Nat) (M : Mm) : Nat → Mm
  | 0 => M
  | k + 1 => if sIt t M k 16 0 = 0 then sByte t (sIt t M k) k (low (M 2 k)) else sIt t M k
def sFin (M : Mm) (t : Nat) (n : Int) : Mm := if M 16 0 = 0 ∧ (M 16 3 ≠ 0 ∨ M t 7 = 0) then sNote M 6 n else M
/-- what the scanner keeps while it goes on without a fault -/
def sI (t : Nat) (M : Mm) : Prop := (0 ≤ M t 7 ∧ M t 7 ≤ 24) ∧ (0 ≤ M t 6 ∧ M t 6 ≤ 40 * M t 7) ∧ (0 ≤ M 16 6 ∧ M 16 6 ≤ 24) ∧
  (M 16 3 ≠ 0 → 1 ≤ M t 7 ∧ 0 ≤ M (t + 5) (M t 7 - 1) ∧ M (t + 5) (M t 7 - 1) ≤ 40 ∧ M t 6 ≤ 40 * (M t 7 - 1) + M (t + 5) (M t 7 - 1)) ∧
  (M 16 2 ≠ 0 → M 16 3 ≠ 0 ∧ 1 ≤ M t 6 ∧ 1 ≤ M (t + 3) (M t 6 - 1) ∧ M (t + 3) (M t 6 - 1) ≤ 16) ∧ (M 16 6 ≤ M t 7)
theorem sIt_2 {t : Nat} (ht : t = 17 ∨ t = 24) (M : Mm) : True := trivial

theorem lnT {t : Nat} (ht : t = 17 ∨ t = 24) : ln (t + 1) = 3000 ∧ ln (t + 2) = 960 ∧ ln (t + 3) = 960 ∧ ln (t + 4) = 24 ∧ ln (t + 5) = 24 ∧ ln (t + 6) = 24 := by
  rcases ht with rfl | rfl <;> decide

set_option maxRecDepth 20000 in
set_option maxHeartbeats 4000000 in
theorem ct_X6_note (E : Ev) (M : Mm) (k p : Int) (hk : rg k) (hp : rg p) : Ct E yX6_note cX6_note 3 none 0 [zr E 16, zi k, zi p] M (pV (fun M' => M' = sNote M k p)) := by
  refine Ct.of (own := RX6) (lv0 := [some (zr E 16), some (zi k), some (zi p)]) (by decide) rfl (Nat.le_of_ble_eq_true rfl) rfl (fun κ C => ?_)
  refine s_aload_n C dX6_note_0 rfl ?_
  refine s_iload_n C dX6_note_1 rfl ?_
  refine s_puti (k := 0) (j := 0) C dX6_note_2 fp_X6_24 (by decide) rfl rfl rfl (by omega) ?_
  refine s_aload_n C dX6_note_5 rfl ?_
  refine s_iload_n C dX6_note_6 rfl ?_
  refine s_puti (k := 1) (j := 1) C dX6_note_7 fp_X6_9 (by decide) rfl rfl rfl (by omega) ?_
  exact s_return C dX6_note_10 (⟨rfl, rfl⟩)

set_option maxRecDepth 20000 in
set_option maxHeartbeats 4000000 in
theorem ct_X6_clear (E : Ev) (t : Nat) (ht : t = 17 ∨ t = 24) (M : Mm)  : Ct E yX6_clear cX6_clear 2 none 0 [zr E 16, zr E t] M (pV (fun M' => M' = sClear t M)) := by
  refine Ct.of (own := RX6) (lv0 := [some (zr E 16), some (zr E t)]) (by decide) rfl (Nat.le_of_ble_eq_true rfl) rfl (fun κ C => ?_)
  refine s_aload_n C dX6_clear_0 rfl ?_
  refine s_iconst C dX6_clear_1 ?_
  refine s_puti (k := 0) (j := 0) C dX6_clear_2 fp_X6_24 (by decide) rfl rfl rfl (by omega) ?_
  refine s_aload_n C dX6_clear_5 rfl ?_
  refine s_iconst C dX6_clear_6 ?_
  refine s_puti (k := 1) (j := 1) C dX6_clear_7 fp_X6_9 (by decide) rfl rfl rfl (by omega) ?_
  refine s_aload_n C dX6_clear_10 rfl ?_
  refine s_iconst C dX6_clear_11 ?_
  refine s_putz (k := 2) (j := 2) C dX6_clear_12 fp_X6_48 (by decide) rfl rfl rfl (by decide) ?_
  refine s_aload_n C dX6_clear_15 rfl ?_
  refine s_iconst C dX6_clear_16 ?_
  refine s_putz (k := 3) (j := 3) C dX6_clear_17 fp_X6_56 (by decide) rfl rfl rfl (by decide) ?_
  refine s_aload_n C dX6_clear_20 rfl ?_
  refine s_iconst C dX6_clear_21 ?_
  refine s_putz (k := 4) (j := 4) C dX6_clear_22 fp_X6_66 (by decide) rfl rfl rfl (by decide) ?_
  refine s_aload_n C dX6_clear_25 rfl ?_
  refine s_iconst C dX6_clear_26 ?_
  refine s_putz (k := 5) (j := 5) C dX6_clear_27 fp_X6_69 (by decide) rfl rfl rfl (by decide) ?_
  refine s_aload_n C dX6_clear_30 rfl ?_
  refine s_iconst C dX6_clear_31 ?_
  refine s_puti (k := 6) (j := 6) C dX6_clear_32 fp_X6_72 (by decide) rfl rfl rfl (by omega) ?_
  refine s_aload_n C dX6_clear_35 rfl ?_
  refine s_iconst C dX6_clear_36 ?_
  refine s_puti (k := 6) (j := 6) C dX6_clear_37 fp_X6_75 (by rcases ht with rfl | rfl <;> decide) (by rcases ht with rfl | rfl <;> decide) rfl rfl (by omega) ?_
  refine s_aload_n C dX6_clear_40 rfl ?_
  refine s_iconst C dX6_clear_41 ?_
  refine s_puti (k := 7) (j := 7) C dX6_clear_42 fp_X6_59 (by rcases ht with rfl | rfl <;> decide) (by rcases ht with rfl | rfl <;> decide) rfl rfl (by omega) ?_
  exact s_return C dX6_clear_45 (⟨rfl, rfl⟩)

set_option maxRecDepth 20000 in
set_option maxHeartbeats 4000000 in
theorem ct_X6_startSentence (E : Ev) (t : Nat) (ht : t = 17 ∨ t = 24) (M : Mm) (p : Int) (hp : rg p) (hI : sI t M) : Ct E yX6_startSentence cX6_startSentence 3 none 1 [zr E 16, zr E t, zi p] M (pV (fun M' => M' = sSent t M p)) := by
  refine Ct.of (own := RX6) (lv0 := [some (zr E 16), some (zr E t), some (zi p)]) (by decide) rfl (Nat.le_of_ble_eq_true rfl) rfl (fun κ C => ?_)
  obtain ⟨l1, l2, l3, l4, l5, l6⟩ := lnT ht
  obtain ⟨⟨i1, i2⟩, ⟨i3, i4⟩, ⟨i5, i6⟩, i7, i8⟩ := hI
  have L33 : ∀ (M1 : Mm) (hM1 : M1 = mput M 16 6 (if M 16 5 = 0 then M 16 6 else M 16 6 + 1)) (hlt : M t 7 < 24), Gm E κ (pV (fun M' => M' = sSent t M p)) 3 33 [some (zr E 16), some (zr E t), some (zi p)] [] M1 := by
    intro M1  hM1 hlt
    subst hM1
    refine s_aload_n C dX6_startSentence_33 rfl ?_
    refine s_iconst C dX6_startSentence_34 ?_
    refine s_putz (k := 5) (j := 5) C dX6_startSentence_35 fp_X6_69 (by decide) rfl rfl rfl (by decide) ?_
    refine s_aload_n C dX6_startSentence_38 rfl ?_
    refine s_iconst C dX6_startSentence_39 ?_
    refine s_putz (k := 4) (j := 4) C dX6_startSentence_40 fp_X6_66 (by decide) rfl rfl rfl (by decide) ?_
    refine s_aload_n C dX6_startSentence_43 rfl ?_
    refine s_iconst C dX6_startSentence_44 ?_
    refine s_putz (k := 3) (j := 3) C dX6_startSentence_45 fp_X6_56 (by decide) rfl rfl rfl (by decide) ?_
    refine s_aload_n C dX6_startSentence_48 rfl ?_
    refine s_getr (k := 3) (b := t + 4) C dX6_startSentence_49 fl_X6_93 (by rcases ht with rfl | rfl <;> decide) (by rcases ht with rfl | rfl <;> decide) (by decide) (by rcases ht with rfl | rfl <;> decide) ?_
    refine s_aload_n C dX6_startSentence_52 rfl ?_
    refine s_geti (k := 7) (j := 7) (z := M t 7) C dX6_startSentence_53 fl_X6_59 (by rcases ht with rfl | rfl <;> decide) (by rcases ht with rfl | rfl <;> decide) (by decide) rfl (by first | (simp (disch := omega) only [mput_ne, mput_nk, mput_eq, mcopy_ne]; done) | (simp (disch := omega) only [mput_ne, mput_nk, mput_eq, mcopy_ne]; rfl) | rfl) (fun r53 => ?_)
    refine s_aload_n C dX6_startSentence_56 rfl ?_
    refine s_geti (k := 6) (j := 6) (z := M t 6) C dX6_startSentence_57 fl_X6_75 (by rcases ht with rfl | rfl <;> decide) (by rcases ht with rfl | rfl <;> decide) (by decide) rfl (by first | (simp (disch := omega) only [mput_ne, mput_nk, mput_eq, mcopy_ne]; done) | (simp (disch := omega) only [mput_ne, mput_nk, mput_eq, mcopy_ne]; rfl) | rfl) (fun r57 => ?_)
    refine s_iastore C dX6_startSentence_60 (by rcases ht with rfl | rfl <;> decide) (by rcases ht with rfl | rfl <;> decide) rfl (by first | omega | (simp (disch := omega) only [mput_ne, mput_nk, mput_eq]; omega)) (by first | omega | (simp (disch := omega) only [mput_ne, mput_nk, mput_eq]; omega)) (by first | omega | (simp (disch := omega) only [mput_ne, mput_nk, mput_eq]; omega)) (by first | omega | (simp (disch := omega) only [mput_ne, mput_nk, mput_eq]; omega)) ?_
    refine s_aload_n C dX6_startSentence_61 rfl ?_
    refine s_getr (k := 4) (b := t + 5) C dX6_startSentence_62 fl_X6_87 (by rcases ht with rfl | rfl <;> decide) (by rcases ht with rfl | rfl <;> decide) (by decide) (by rcases ht with rfl | rfl <;> decide) ?_
    refine s_aload_n C dX6_startSentence_65 rfl ?_
    refine s_geti (k := 7) (j := 7) (z := M t 7) C dX6_startSentence_66 fl_X6_59 (by rcases ht with rfl | rfl <;> decide) (by rcases ht with rfl | rfl <;> decide) (by decide) rfl (by first | (simp (disch := omega) only [mput_ne, mput_nk, mput_eq, mcopy_ne]; done) | (simp (disch := omega) only [mput_ne, mput_nk, mput_eq, mcopy_ne]; rfl) | rfl) (fun r66 => ?_)
    refine s_iconst C dX6_startSentence_69 ?_
    refine s_iastore C dX6_startSentence_70 (by rcases ht with rfl | rfl <;> decide) (by rcases ht with rfl | rfl <;> decide) rfl (by first | omega | (simp (disch := omega) only [mput_ne, mput_nk, mput_eq]; omega)) (by first | omega | (simp (disch := omega) only [mput_ne, mput_nk, mput_eq]; omega)) (by first | omega | (simp (disch := omega) only [mput_ne, mput_nk, mput_eq]; omega)) (by first | omega | (simp (disch := omega) only [mput_ne, mput_nk, mput_eq]; omega)) ?_
    refine s_aload_n C dX6_startSentence_71 rfl ?_
    refine s_getr (k := 5) (b := t + 6) C dX6_startSentence_72 fl_X6_96 (by rcases ht with rfl | rfl <;> decide) (by rcases ht with rfl | rfl <;> decide) (by decide) (by rcases ht with rfl | rfl <;> decide) ?_
    refine s_aload_n C dX6_startSentence_75 rfl ?_
    refine s_geti (k := 7) (j := 7) (z := M t 7) C dX6_startSentence_76 fl_X6_59 (by rcases ht with rfl | rfl <;> decide) (by rcases ht with rfl | rfl <;> decide) (by decide) rfl (by first | (simp (disch := omega) only [mput_ne, mput_nk, mput_eq, mcopy_ne]; done) | (simp (disch := omega) only [mput_ne, mput_nk, mput_eq, mcopy_ne]; rfl) | rfl) (fun r76 => ?_)
    refine s_aload_n C dX6_startSentence_79 rfl ?_
    refine s_geti (k := 6) (j := 6) (z := (if M 16 5 = 0 then M 16 6 else M 16 6 + 1)) C dX6_startSentence_80 fl_X6_72 (by decide) rfl (by decide) rfl (by first | (simp (disch := omega) only [mput_ne, mput_nk, mput_eq, mcopy_ne]; done) | (simp (disch := omega) only [mput_ne, mput_nk, mput_eq, mcopy_ne]; rfl) | rfl) (fun r80 => ?_)
    refine s_iastore C dX6_startSentence_83 (by rcases ht with rfl | rfl <;> decide) (by rcases ht with rfl | rfl <;> decide) rfl (by first | omega | (simp (disch := omega) only [mput_ne, mput_nk, mput_eq]; omega)) (by first | omega | (simp (disch := omega) only [mput_ne, mput_nk, mput_eq]; omega)) (by first | omega | (simp (disch := omega) only [mput_ne, mput_nk, mput_eq]; omega)) (by first | omega | (simp (disch := omega) only [mput_ne, mput_nk, mput_eq]; omega)) ?_
    refine s_aload_n C dX6_startSentence_84 rfl ?_
    refine s_dup C dX6_startSentence_85 rfl ?_
    refine s_geti (k := 7) (j := 7) (z := M t 7) C dX6_startSentence_86 fl_X6_59 (by rcases ht with rfl | rfl <;> decide) (by rcases ht with rfl | rfl <;> decide) (by decide) rfl (by first | (simp (disch := omega) only [mput_ne, mput_nk, mput_eq, mcopy_ne]; done) | (simp (disch := omega) only [mput_ne, mput_nk, mput_eq, mcopy_ne]; rfl) | rfl) (fun r86 => ?_)
    refine s_iconst C dX6_startSentence_89 ?_
    refine s_iadd C dX6_startSentence_90 ?_
    refine s_puti (k := 7) (j := 7) C dX6_startSentence_91 fp_X6_59 (by rcases ht with rfl | rfl <;> decide) (by rcases ht with rfl | rfl <;> decide) rfl rfl (by first | omega | (simp (disch := omega) only [mput_ne, mput_nk, mput_eq]; omega)) ?_
    exact s_return C dX6_startSentence_94 (⟨rfl, by unfold sSent; rw [if_neg (by omega)]⟩)
  refine s_aload_n C dX6_startSentence_0 rfl ?_
  refine s_geti (k := 7) (j := 7) C dX6_startSentence_1 fl_X6_59 (by rcases ht with rfl | rfl <;> decide) (by rcases ht with rfl | rfl <;> decide) (by decide) rfl (rfl) (fun r1 => ?_)
  refine s_bipush C dX6_startSentence_4 (by decide) ?_
  refine s_icmp_lt (tgt := 16) C dX6_startSentence_6 (by decide) (by first | omega | (simp (disch := omega) only [mput_ne, mput_nk, mput_eq]; omega)) (by first | omega | (simp (disch := omega) only [mput_ne, mput_nk, mput_eq]; omega)) (fun c6 => ?_) (fun c6 => ?_)
  · skip
    refine s_aload_n C dX6_startSentence_16 rfl ?_
    refine s_getz (k := 5) (j := 5) C dX6_startSentence_17 fl_X6_69 (by decide) rfl (by decide) rfl (rfl) (fun r17 => ?_)
    refine s_if_eq (tgt := 33) C dX6_startSentence_20 (by decide) (by rcases r17 with h | h <;> omega) (fun c20 => ?_) (fun c20 => ?_)
    · skip
      exact L33 _  (by rw [if_pos c20]; exact (mput_same M 16 6).symm) (by first | assumption | omega)
    · skip
      refine s_aload_n C dX6_startSentence_23 rfl ?_
      refine s_dup C dX6_startSentence_24 rfl ?_
      refine s_geti (k := 6) (j := 6) C dX6_startSentence_25 fl_X6_72 (by decide) rfl (by decide) rfl (rfl) (fun r25 => ?_)
      refine s_iconst C dX6_startSentence_28 ?_
      refine s_iadd C dX6_startSentence_29 ?_
      refine s_puti (k := 6) (j := 6) C dX6_startSentence_30 fp_X6_72 (by decide) rfl rfl rfl (by first | omega | (simp (disch := omega) only [mput_ne, mput_nk, mput_eq]; omega)) ?_
      exact L33 _  (by rw [if_neg c20]) (by first | assumption | omega)
  · skip
    refine s_aload_n C dX6_startSentence_9 rfl ?_
    refine s_iconst C dX6_startSentence_10 ?_
    refine s_iload_n C dX6_startSentence_11 rfl ?_
    refine s_callV2 C dX6_startSentence_12 cy_X6_note cv_X6_note lk_X6_62 (ct_X6_note E M 4 p (by decide) hp) (by decide) (by decide) (by first | decide | (decide)) rfl (Nat.le_of_ble_eq_true rfl) (k_V (fun M12 q12 => ?_))
    subst q12
    exact s_return C dX6_startSentence_15 (⟨rfl, by unfold sSent; rw [if_pos (by omega)]⟩)
