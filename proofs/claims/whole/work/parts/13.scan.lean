/-! the scanner's steps, as changes of memory: t is the text that is written (17 or 24) -/
def sNote (M : Mm) (k p : Int) : Mm := mput (mput M 16 0 k) 16 1 p
def sSent (t : Nat) (M : Mm) (p : Int) : Mm :=
  if 24 ≤ M t 7 then sNote M 4 p
  else mput (mput (mput (mput (mput (mput (mput (mput M 16 6 (if M 16 5 = 0 then M 16 6 else M 16 6 + 1)) 16 5 0) 16 4 0) 16 3 1) (t + 4) (M t 7) (M t 6)) (t + 5) (M t 7) 0) (t + 6) (M t 7) (if M 16 5 = 0 then M 16 6 else M 16 6 + 1)) t 7 (M t 7 + 1)
def sWord1 (t : Nat) (M : Mm) (p : Int) : Mm := if M 16 3 = 0 then sSent t M p else if 40 ≤ M (t + 5) (M t 7 - 1) then sNote M 3 p else M
def sWord2 (t : Nat) (M : Mm) (p : Int) : Mm := mput (mput (mput (mput (mput M 16 2 1) (t + 2) (M t 6) p) (t + 3) (M t 6) 1) t 6 (M t 6 + 1)) (t + 5) (M t 7 - 1) (M (t + 5) (M t 7 - 1) + 1)
def sWord (t : Nat) (M : Mm) (p : Int) : Mm := if sWord1 t M p 16 0 = 0 then sWord2 t (sWord1 t M p) p else sWord1 t M p
def sLetter (t : Nat) (M : Mm) (p : Int) : Mm := if M 16 2 = 0 then sWord t M p else if 16 ≤ M (t + 3) (M t 6 - 1) then sNote M 2 p else mput M (t + 3) (M t 6 - 1) (M (t + 3) (M t 6 - 1) + 1)
def sLine (t : Nat) (M : Mm) : Mm := if M 16 3 = 0 ∧ 0 < M t 7 then mput (mput M 16 5 (if M 16 5 = 0 ∧ M 16 4 = 0 then 0 else 1)) 16 4 1 else M
def sEnd (M : Mm) (p : Int) : Mm := mput (if M 16 3 = 0 then sNote M 5 p else M) 16 3 0
def sMark (t : Nat) (M : Mm) (p b : Int) : Mm := if b = 32 then M else if b = 10 then sLine t M else if b = 44 ∨ b = 58 ∨ b = 59 then mput M 16 4 0 else if b = 46 ∨ b = 33 ∨ b = 63 then sEnd M p else sNote M 1 p
def sByte (t : Nat) (M : Mm) (p b : Int) : Mm := if ofW b then sLetter t (mput M (t + 1) p b) p else sMark t (mput (mput M (t + 1) p b) 16 2 0) p b
def sClear (t : Nat) (M : Mm) : Mm := mput (mput (mput (mput (mput (mput (mput (mput (mput M 16 0 0) 16 1 (-1)) 16 2 0) 16 3 0) 16 4 0) 16 5 0) 16 6 0) t 6 0) t 7 0
def sIt (t : Nat) (M : Mm) : Nat → Mm
  | 0 => M
  | k + 1 => if sIt t M k 16 0 = 0 then sByte t (sIt t M k) k (low (M 2 k)) else sIt t M k
def sFin (M : Mm) (t : Nat) (n : Int) : Mm := if M 16 0 = 0 ∧ (M 16 3 ≠ 0 ∨ M t 7 = 0) then sNote M 6 n else M
/-- what the scanner keeps while it goes on without a fault -/
def sI (t : Nat) (M : Mm) : Prop := (0 ≤ M t 7 ∧ M t 7 ≤ 24) ∧ (0 ≤ M t 6 ∧ M t 6 ≤ 40 * M t 7) ∧ (0 ≤ M 16 6 ∧ M 16 6 ≤ 24) ∧
  (M 16 3 ≠ 0 → 1 ≤ M t 7 ∧ 0 ≤ M (t + 5) (M t 7 - 1) ∧ M (t + 5) (M t 7 - 1) ≤ 40 ∧ M t 6 ≤ 40 * (M t 7 - 1) + M (t + 5) (M t 7 - 1)) ∧
  (M 16 2 ≠ 0 → M 16 3 ≠ 0 ∧ 1 ≤ M t 6 ∧ 1 ≤ M (t + 3) (M t 6 - 1) ∧ M (t + 3) (M t 6 - 1) ≤ 16) ∧ (M 16 6 ≤ M t 7)
theorem sIt_2 {t : Nat} (ht : t = 17 ∨ t = 24) (M : Mm) : True := trivial

theorem lnT {t : Nat} (ht : t = 17 ∨ t = 24) : ln (t + 1) = 3000 ∧ ln (t + 2) = 960 ∧ ln (t + 3) = 960 ∧ ln (t + 4) = 24 ∧ ln (t + 5) = 24 ∧ ln (t + 6) = 24 := by
  rcases ht with rfl | rfl <;> decide

set_option maxRecDepth 20000 in
set_option maxHeartbeats 4000000 in
theorem ct_X6_note (E : Ev) (M : Mm) (k p : Int) (hk : rg k) (hp : rg p) : Ct E yX6_note cX6_note 3 none 0 [zr E 16, zi k, zi p] M (pV (fun M' => M' = sNote M k p)) := by
  refine Ct.of (own := RX6) (lv0 := [some (zr E 16), some (zi k), some (zi p)]) (by decide) rfl (Nat.le_of_ble_eq_true rfl) rfl (fun κ C => ?_)
  refine s_aload_n C dX6_note_0 rfl ?_
  refine s_iload_n C dX6_note_1 rfl ?_
  refine s_puti (k := 0) (j := 0) C dX6_note_2 fp_X6_24 (by decide) rfl rfl rfl (by omega) ?_
  refine s_aload_n C dX6_note_5 rfl ?_
  refine s_iload_n C dX6_note_6 rfl ?_
  refine s_puti (k := 1) (j := 1) C dX6_note_7 fp_X6_9 (by decide) rfl rfl rfl (by omega) ?_
  exact s_return C dX6_note_10 (⟨rfl, rfl⟩)

set_option maxRecDepth 20000 in
set_option maxHeartbeats 4000000 in
theorem ct_X6_clear (E : Ev) (t : Nat) (ht : t = 17 ∨ t = 24) (M : Mm)  : Ct E yX6_clear cX6_clear 2 none 0 [zr E 16, zr E t] M (pV (fun M' => M' = sClear t M)) := by
  refine Ct.of (own := RX6) (lv0 := [some (zr E 16), some (zr E t)]) (by decide) rfl (Nat.le_of_ble_eq_true rfl) rfl (fun κ C => ?_)
  refine s_aload_n C dX6_clear_0 rfl ?_
  refine s_iconst C dX6_clear_1 ?_
  refine s_puti (k := 0) (j := 0) C dX6_clear_2 fp_X6_24 (by decide) rfl rfl rfl (by omega) ?_
  refine s_aload_n C dX6_clear_5 rfl ?_
  refine s_iconst C dX6_clear_6 ?_
  refine s_puti (k := 1) (j := 1) C dX6_clear_7 fp_X6_9 (by decide) rfl rfl rfl (by omega) ?_
  refine s_aload_n C dX6_clear_10 rfl ?_
  refine s_iconst C dX6_clear_11 ?_
  refine s_putz (k := 2) (j := 2) C dX6_clear_12 fp_X6_48 (by decide) rfl rfl rfl (by decide) ?_
  refine s_aload_n C dX6_clear_15 rfl ?_
  refine s_iconst C dX6_clear_16 ?_
  refine s_putz (k := 3) (j := 3) C dX6_clear_17 fp_X6_56 (by decide) rfl rfl rfl (by decide) ?_
  refine s_aload_n C dX6_clear_20 rfl ?_
  refine s_iconst C dX6_clear_21 ?_
  refine s_putz (k := 4) (j := 4) C dX6_clear_22 fp_X6_66 (by decide) rfl rfl rfl (by decide) ?_
  refine s_aload_n C dX6_clear_25 rfl ?_
  refine s_iconst C dX6_clear_26 ?_
  refine s_putz (k := 5) (j := 5) C dX6_clear_27 fp_X6_69 (by decide) rfl rfl rfl (by decide) ?_
  refine s_aload_n C dX6_clear_30 rfl ?_
  refine s_iconst C dX6_clear_31 ?_
  refine s_puti (k := 6) (j := 6) C dX6_clear_32 fp_X6_72 (by decide) rfl rfl rfl (by omega) ?_
  refine s_aload_n C dX6_clear_35 rfl ?_
  refine s_iconst C dX6_clear_36 ?_
  refine s_puti (k := 6) (j := 6) C dX6_clear_37 fp_X6_75 (by rcases ht with rfl | rfl <;> decide) (by rcases ht with rfl | rfl <;> decide) rfl rfl (by omega) ?_
  refine s_aload_n C dX6_clear_40 rfl ?_
  refine s_iconst C dX6_clear_41 ?_
  refine s_puti (k := 7) (j := 7) C dX6_clear_42 fp_X6_59 (by rcases ht with rfl | rfl <;> decide) (by rcases ht with rfl | rfl <;> decide) rfl rfl (by omega) ?_
  exact s_return C dX6_clear_45 (⟨rfl, rfl⟩)

set_option maxRecDepth 20000 in
set_option maxHeartbeats 4000000 in
theorem ct_X6_startSentence (E : Ev) (t : Nat) (ht : t = 17 ∨ t = 24) (M : Mm) (p : Int) (hp : rg p) (hI : sI t M) : Ct E yX6_startSentence cX6_startSentence 3 none 1 [zr E 16, zr E t, zi p] M (pV (fun M' => M' = sSent t M p)) := by
  refine Ct.of (own := RX6) (lv0 := [some (zr E 16), some (zr E t), some (zi p)]) (by decide) rfl (Nat.le_of_ble_eq_true rfl) rfl (fun κ C => ?_)
  obtain ⟨l1, l2, l3, l4, l5, l6⟩ := lnT ht
  obtain ⟨⟨i1, i2⟩, ⟨i3, i4⟩, ⟨i5, i6⟩, i7, i8⟩ := hI
  have L33 : ∀ (M1 : Mm) (hM1 : M1 = mput M 16 6 (if M 16 5 = 0 then M 16 6 else M 16 6 + 1)) (hlt : M t 7 < 24), Gm E κ (pV (fun M' => M' = sSent t M p)) 3 33 [some (zr E 16), some (zr E t), some (zi p)] [] M1 := by
    intro M1  hM1 hlt
    subst hM1
    refine s_aload_n C dX6_startSentence_33 rfl ?_
    refine s_iconst C dX6_startSentence_34 ?_
    refine s_putz (k := 5) (j := 5) C dX6_startSentence_35 fp_X6_69 (by decide) rfl rfl rfl (by decide) ?_
    refine s_aload_n C dX6_startSentence_38 rfl ?_
    refine s_iconst C dX6_startSentence_39 ?_
    refine s_putz (k := 4) (j := 4) C dX6_startSentence_40 fp_X6_66 (by decide) rfl rfl rfl (by decide) ?_
    refine s_aload_n C dX6_startSentence_43 rfl ?_
    refine s_iconst C dX6_startSentence_44 ?_
    refine s_putz (k := 3) (j := 3) C dX6_startSentence_45 fp_X6_56 (by decide) rfl rfl rfl (by decide) ?_
    refine s_aload_n C dX6_startSentence_48 rfl ?_
    refine s_getr (k := 3) (b := t + 4) C dX6_startSentence_49 fl_X6_93 (by rcases ht with rfl | rfl <;> decide) (by rcases ht with rfl | rfl <;> decide) (by decide) (by rcases ht with rfl | rfl <;> decide) ?_
    refine s_aload_n C dX6_startSentence_52 rfl ?_
    refine s_geti (k := 7) (j := 7) (z := M t 7) C dX6_startSentence_53 fl_X6_59 (by rcases ht with rfl | rfl <;> decide) (by rcases ht with rfl | rfl <;> decide) (by decide) rfl (by first | (simp (disch := omega) only [mput_ne, mput_nk, mput_eq, mcopy_ne]; done) | (simp (disch := omega) only [mput_ne, mput_nk, mput_eq, mcopy_ne]; rfl) | rfl) (fun r53 => ?_)
    refine s_aload_n C dX6_startSentence_56 rfl ?_
    refine s_geti (k := 6) (j := 6) (z := M t 6) C dX6_startSentence_57 fl_X6_75 (by rcases ht with rfl | rfl <;> decide) (by rcases ht with rfl | rfl <;> decide) (by decide) rfl (by first | (simp (disch := omega) only [mput_ne, mput_nk, mput_eq, mcopy_ne]; done) | (simp (disch := omega) only [mput_ne, mput_nk, mput_eq, mcopy_ne]; rfl) | rfl) (fun r57 => ?_)
    refine s_iastore C dX6_startSentence_60 (by rcases ht with rfl | rfl <;> decide) (by rcases ht with rfl | rfl <;> decide) rfl (by first | omega | (simp (disch := omega) only [mput_ne, mput_nk, mput_eq]; omega)) (by first | omega | (simp (disch := omega) only [mput_ne, mput_nk, mput_eq]; omega)) (by first | omega | (simp (disch := omega) only [mput_ne, mput_nk, mput_eq]; omega)) (by first | omega | (simp (disch := omega) only [mput_ne, mput_nk, mput_eq]; omega)) ?_
    refine s_aload_n C dX6_startSentence_61 rfl ?_
    refine s_getr (k := 4) (b := t + 5) C dX6_startSentence_62 fl_X6_87 (by rcases ht with rfl | rfl <;> decide) (by rcases ht with rfl | rfl <;> decide) (by decide) (by rcases ht with rfl | rfl <;> decide) ?_
    refine s_aload_n C dX6_startSentence_65 rfl ?_
    refine s_geti (k := 7) (j := 7) (z := M t 7) C dX6_startSentence_66 fl_X6_59 (by rcases ht with rfl | rfl <;> decide) (by rcases ht with rfl | rfl <;> decide) (by decide) rfl (by first | (simp (disch := omega) only [mput_ne, mput_nk, mput_eq, mcopy_ne]; done) | (simp (disch := omega) only [mput_ne, mput_nk, mput_eq, mcopy_ne]; rfl) | rfl) (fun r66 => ?_)
    refine s_iconst C dX6_startSentence_69 ?_
    refine s_iastore C dX6_startSentence_70 (by rcases ht with rfl | rfl <;> decide) (by rcases ht with rfl | rfl <;> decide) rfl (by first | omega | (simp (disch := omega) only [mput_ne, mput_nk, mput_eq]; omega)) (by first | omega | (simp (disch := omega) only [mput_ne, mput_nk, mput_eq]; omega)) (by first | omega | (simp (disch := omega) only [mput_ne, mput_nk, mput_eq]; omega)) (by first | omega | (simp (disch := omega) only [mput_ne, mput_nk, mput_eq]; omega)) ?_
    refine s_aload_n C dX6_startSentence_71 rfl ?_
    refine s_getr (k := 5) (b := t + 6) C dX6_startSentence_72 fl_X6_96 (by rcases ht with rfl | rfl <;> decide) (by rcases ht with rfl | rfl <;> decide) (by decide) (by rcases ht with rfl | rfl <;> decide) ?_
    refine s_aload_n C dX6_startSentence_75 rfl ?_
    refine s_geti (k := 7) (j := 7) (z := M t 7) C dX6_startSentence_76 fl_X6_59 (by rcases ht with rfl | rfl <;> decide) (by rcases ht with rfl | rfl <;> decide) (by decide) rfl (by first | (simp (disch := omega) only [mput_ne, mput_nk, mput_eq, mcopy_ne]; done) | (simp (disch := omega) only [mput_ne, mput_nk, mput_eq, mcopy_ne]; rfl) | rfl) (fun r76 => ?_)
    refine s_aload_n C dX6_startSentence_79 rfl ?_
    refine s_geti (k := 6) (j := 6) (z := (if M 16 5 = 0 then M 16 6 else M 16 6 + 1)) C dX6_startSentence_80 fl_X6_72 (by decide) rfl (by decide) rfl (by first | (simp (disch := omega) only [mput_ne, mput_nk, mput_eq, mcopy_ne]; done) | (simp (disch := omega) only [mput_ne, mput_nk, mput_eq, mcopy_ne]; rfl) | rfl) (fun r80 => ?_)
    refine s_iastore C dX6_startSentence_83 (by rcases ht with rfl | rfl <;> decide) (by rcases ht with rfl | rfl <;> decide) rfl (by first | omega | (simp (disch := omega) only [mput_ne, mput_nk, mput_eq]; omega)) (by first | omega | (simp (disch := omega) only [mput_ne, mput_nk, mput_eq]; omega)) (by first | omega | (simp (disch := omega) only [mput_ne, mput_nk, mput_eq]; omega)) (by first | omega | (simp (disch := omega) only [mput_ne, mput_nk, mput_eq]; omega)) ?_
    refine s_aload_n C dX6_startSentence_84 rfl ?_
    refine s_dup C dX6_startSentence_85 rfl ?_
    refine s_geti (k := 7) (j := 7) (z := M t 7) C dX6_startSentence_86 fl_X6_59 (by rcases ht with rfl | rfl <;> decide) (by rcases ht with rfl | rfl <;> decide) (by decide) rfl (by first | (simp (disch := omega) only [mput_ne, mput_nk, mput_eq, mcopy_ne]; done) | (simp (disch := omega) only [mput_ne, mput_nk, mput_eq, mcopy_ne]; rfl) | rfl) (fun r86 => ?_)
    refine s_iconst C dX6_startSentence_89 ?_
    refine s_iadd C dX6_startSentence_90 ?_
    refine s_puti (k := 7) (j := 7) C dX6_startSentence_91 fp_X6_59 (by rcases ht with rfl | rfl <;> decide) (by rcases ht with rfl | rfl <;> decide) rfl rfl (by first | omega | (simp (disch := omega) only [mput_ne, mput_nk, mput_eq]; omega)) ?_
    exact s_return C dX6_startSentence_94 (⟨rfl, by unfold sSent; rw [if_neg (by omega)]⟩)
  refine s_aload_n C dX6_startSentence_0 rfl ?_
  refine s_geti (k := 7) (j := 7) C dX6_startSentence_1 fl_X6_59 (by rcases ht with rfl | rfl <;> decide) (by rcases ht with rfl | rfl <;> decide) (by decide) rfl (rfl) (fun r1 => ?_)
  refine s_bipush C dX6_startSentence_4 (by decide) ?_
  refine s_icmp_lt (tgt := 16) C dX6_startSentence_6 (by decide) (by first | omega | (simp (disch := omega) only [mput_ne, mput_nk, mput_eq]; omega)) (by first | omega | (simp (disch := omega) only [mput_ne, mput_nk, mput_eq]; omega)) (fun c6 => ?_) (fun c6 => ?_)
  · skip
    refine s_aload_n C dX6_startSentence_16 rfl ?_
    refine s_getz (k := 5) (j := 5) C dX6_startSentence_17 fl_X6_69 (by decide) rfl (by decide) rfl (rfl) (fun r17 => ?_)
    refine s_if_eq (tgt := 33) C dX6_startSentence_20 (by decide) (by rcases r17 with h | h <;> omega) (fun c20 => ?_) (fun c20 => ?_)
    · skip
      exact L33 _  (by rw [if_pos c20]; exact (mput_same M 16 6).symm) (by first | assumption | omega)
    · skip
      refine s_aload_n C dX6_startSentence_23 rfl ?_
      refine s_dup C dX6_startSentence_24 rfl ?_
      refine s_geti (k := 6) (j := 6) C dX6_startSentence_25 fl_X6_72 (by decide) rfl (by decide) rfl (rfl) (fun r25 => ?_)
      refine s_iconst C dX6_startSentence_28 ?_
      refine s_iadd C dX6_startSentence_29 ?_
      refine s_puti (k := 6) (j := 6) C dX6_startSentence_30 fp_X6_72 (by decide) rfl rfl rfl (by first | omega | (simp (disch := omega) only [mput_ne, mput_nk, mput_eq]; omega)) ?_
      exact L33 _  (by rw [if_neg c20]) (by first | assumption | omega)
  · skip
    refine s_aload_n C dX6_startSentence_9 rfl ?_
    refine s_iconst C dX6_startSentence_10 ?_
    refine s_iload_n C dX6_startSentence_11 rfl ?_
    refine s_callV2 C dX6_startSentence_12 cy_X6_note cv_X6_note lk_X6_62 (ct_X6_note E M 4 p (by decide) hp) (by decide) (by decide) (by first | decide | (decide)) rfl (Nat.le_of_ble_eq_true rfl) (k_V (fun M12 q12 => ?_))
    subst q12
    exact s_return C dX6_startSentence_15 (⟨rfl, by unfold sSent; rw [if_pos (by omega)]⟩)

theorem sSent_keep {t : Nat} (ht : t = 17 ∨ t = 24) {M : Mm} {p : Int} (hI : sI t M) (h3 : M 16 3 = 0) (h2 : M 16 2 = 0) (h0 : sSent t M p 16 0 = 0) : M 16 0 = 0 ∧ M t 7 < 24 ∧ sSent t M p t 7 = M t 7 + 1 ∧ sSent t M p t 6 = M t 6 ∧ sSent t M p (t + 5) (M t 7) = 0 ∧ sSent t M p 16 6 ≤ M t 7 + 1 ∧ 0 ≤ sSent t M p 16 6 ∧ sSent t M p 16 3 = 1 := by
  obtain ⟨⟨i1, i2⟩, ⟨i3, i4⟩, ⟨i5, i6⟩, i7, i8, i9⟩ := hI
  unfold sSent at *
  by_cases c : 24 ≤ M t 7
  · rw [if_pos c] at h0
    simp (disch := omega) only [sNote, mput_ne, mput_nk, mput_eq] at h0
    omega
  · rw [if_neg c] at h0 ⊢
    simp (disch := omega) only [mput_ne, mput_nk, mput_eq] at h0 ⊢
    refine ⟨h0, by omega, trivial, trivial, trivial, ?_, ?_, trivial⟩
    · split <;> omega
    · split <;> omega

set_option maxRecDepth 20000 in
set_option maxHeartbeats 4000000 in
theorem ct_X6_startWord (E : Ev) (t : Nat) (ht : t = 17 ∨ t = 24) (M : Mm) (p : Int) (hp : rg p) (hI : sI t M) (h2 : M 16 2 = 0) : Ct E yX6_startWord cX6_startWord 3 none 2 [zr E 16, zr E t, zi p] M (pV (fun M' => M' = sWord t M p)) := by
  refine Ct.of (own := RX6) (lv0 := [some (zr E 16), some (zr E t), some (zi p)]) (by decide) rfl (Nat.le_of_ble_eq_true rfl) rfl (fun κ C => ?_)
  obtain ⟨l1, l2, l3, l4, l5, l6⟩ := lnT ht
  obtain ⟨⟨i1, i2⟩, ⟨i3, i4⟩, ⟨i5, i6⟩, i7, i8, i9⟩ := id hI
  have L38 : ∀ (M1 : Mm) (hM1 : M1 = sWord1 t M p) (hb : M1 16 0 = 0 → (0 ≤ M1 t 6 ∧ M1 t 6 < 960) ∧ (1 ≤ M1 t 7 ∧ M1 t 7 ≤ 24) ∧ (0 ≤ M1 (t + 5) (M1 t 7 - 1) ∧ M1 (t + 5) (M1 t 7 - 1) < 40)), Gm E κ (pV (fun M' => M' = sWord t M p)) 3 38 [some (zr E 16), some (zr E t), some (zi p)] [] M1 := by
    intro M1  hM1 hb
    refine s_aload_n C dX6_startWord_38 rfl ?_
    refine s_geti (k := 0) (j := 0) C dX6_startWord_39 fl_X6_24 (by decide) rfl (by decide) rfl (rfl) (fun r39 => ?_)
    skip
    refine s_if_ne (tgt := 95) C dX6_startWord_42 (by decide) (by first | omega | (simp (disch := omega) only [mput_ne, mput_nk, mput_eq]; omega)) (fun c42 => ?_) (fun c42 => ?_)
    · skip
      exact s_return C dX6_startWord_95 (⟨rfl, by first | (rw [hM1]; unfold sWord; rw [if_neg (by rw [← hM1]; exact c42)]; done) | (unfold sWord; rw [← hM1, if_pos c42]; rfl)⟩)
    · skip
      obtain ⟨b1, b2, b3⟩ := hb c42
      refine s_aload_n C dX6_startWord_45 rfl ?_
      refine s_iconst C dX6_startWord_46 ?_
      refine s_putz (k := 2) (j := 2) C dX6_startWord_47 fp_X6_48 (by decide) rfl rfl rfl (by decide) ?_
      refine s_aload_n C dX6_startWord_50 rfl ?_
      refine s_getr (k := 1) (b := t + 2) C dX6_startWord_51 fl_X6_90 (by rcases ht with rfl | rfl <;> decide) (by rcases ht with rfl | rfl <;> decide) (by decide) (by rcases ht with rfl | rfl <;> decide) ?_
      refine s_aload_n C dX6_startWord_54 rfl ?_
      refine s_geti (k := 6) (j := 6) C dX6_startWord_55 fl_X6_75 (by rcases ht with rfl | rfl <;> decide) (by rcases ht with rfl | rfl <;> decide) (by decide) rfl (by first | (simp (disch := omega) only [mput_ne, mput_nk, mput_eq, mcopy_ne]; done) | (simp (disch := omega) only [mput_ne, mput_nk, mput_eq, mcopy_ne]; rfl) | rfl) (fun r55 => ?_)
      refine s_iload_n C dX6_startWord_58 rfl ?_
      refine s_iastore C dX6_startWord_59 (by rcases ht with rfl | rfl <;> decide) (by rcases ht with rfl | rfl <;> decide) rfl (by first | omega | (simp (disch := omega) only [mput_ne, mput_nk, mput_eq]; omega)) (by first | omega | (simp (disch := omega) only [mput_ne, mput_nk, mput_eq]; omega)) (by first | omega | (simp (disch := omega) only [mput_ne, mput_nk, mput_eq]; omega)) (by first | omega | (simp (disch := omega) only [mput_ne, mput_nk, mput_eq]; omega)) ?_
      refine s_aload_n C dX6_startWord_60 rfl ?_
      refine s_getr (k := 2) (b := t + 3) C dX6_startWord_61 fl_X6_81 (by rcases ht with rfl | rfl <;> decide) (by rcases ht with rfl | rfl <;> decide) (by decide) (by rcases ht with rfl | rfl <;> decide) ?_
      refine s_aload_n C dX6_startWord_64 rfl ?_
      refine s_geti (k := 6) (j := 6) C dX6_startWord_65 fl_X6_75 (by rcases ht with rfl | rfl <;> decide) (by rcases ht with rfl | rfl <;> decide) (by decide) rfl (by first | (simp (disch := omega) only [mput_ne, mput_nk, mput_eq, mcopy_ne]; done) | (simp (disch := omega) only [mput_ne, mput_nk, mput_eq, mcopy_ne]; rfl) | rfl) (fun r65 => ?_)
      refine s_iconst C dX6_startWord_68 ?_
      refine s_iastore C dX6_startWord_69 (by rcases ht with rfl | rfl <;> decide) (by rcases ht with rfl | rfl <;> decide) rfl (by first | omega | (simp (disch := omega) only [mput_ne, mput_nk, mput_eq]; omega)) (by first | omega | (simp (disch := omega) only [mput_ne, mput_nk, mput_eq]; omega)) (by first | omega | (simp (disch := omega) only [mput_ne, mput_nk, mput_eq]; omega)) (by first | omega | (simp (disch := omega) only [mput_ne, mput_nk, mput_eq]; omega)) ?_
      refine s_aload_n C dX6_startWord_70 rfl ?_
      refine s_dup C dX6_startWord_71 rfl ?_
      refine s_geti (k := 6) (j := 6) C dX6_startWord_72 fl_X6_75 (by rcases ht with rfl | rfl <;> decide) (by rcases ht with rfl | rfl <;> decide) (by decide) rfl (by first | (simp (disch := omega) only [mput_ne, mput_nk, mput_eq, mcopy_ne]; done) | (simp (disch := omega) only [mput_ne, mput_nk, mput_eq, mcopy_ne]; rfl) | rfl) (fun r72 => ?_)
      refine s_iconst C dX6_startWord_75 ?_
      refine s_iadd C dX6_startWord_76 ?_
      refine s_puti (k := 6) (j := 6) C dX6_startWord_77 fp_X6_75 (by rcases ht with rfl | rfl <;> decide) (by rcases ht with rfl | rfl <;> decide) rfl rfl (by first | omega | (simp (disch := omega) only [mput_ne, mput_nk, mput_eq]; omega)) ?_
      refine s_aload_n C dX6_startWord_80 rfl ?_
      refine s_getr (k := 4) (b := t + 5) C dX6_startWord_81 fl_X6_87 (by rcases ht with rfl | rfl <;> decide) (by rcases ht with rfl | rfl <;> decide) (by decide) (by rcases ht with rfl | rfl <;> decide) ?_
      refine s_aload_n C dX6_startWord_84 rfl ?_
      refine s_geti (k := 7) (j := 7) C dX6_startWord_85 fl_X6_59 (by rcases ht with rfl | rfl <;> decide) (by rcases ht with rfl | rfl <;> decide) (by decide) rfl (by first | (simp (disch := omega) only [mput_ne, mput_nk, mput_eq, mcopy_ne]; done) | (simp (disch := omega) only [mput_ne, mput_nk, mput_eq, mcopy_ne]; rfl) | rfl) (fun r85 => ?_)
      refine s_iconst C dX6_startWord_88 ?_
      refine s_isub C dX6_startWord_89 ?_
      refine s_dup2 C dX6_startWord_90 rfl rfl ?_
      refine s_iaload C dX6_startWord_91 (by rcases ht with rfl | rfl <;> decide) (by rcases ht with rfl | rfl <;> decide) rfl (by first | omega | (simp (disch := omega) only [mput_ne, mput_nk, mput_eq]; omega)) (by first | omega | (simp (disch := omega) only [mput_ne, mput_nk, mput_eq]; omega)) (by first | omega | (simp (disch := omega) only [mput_ne, mput_nk, mput_eq]; omega)) (by first | (simp (disch := omega) only [mput_ne, mput_nk, mput_eq, mcopy_ne]; done) | (simp (disch := omega) only [mput_ne, mput_nk, mput_eq, mcopy_ne]; rfl) | rfl) (fun r91 => ?_)
      refine s_iconst C dX6_startWord_92 ?_
      refine s_iadd C dX6_startWord_93 ?_
      refine s_iastore C dX6_startWord_94 (by rcases ht with rfl | rfl <;> decide) (by rcases ht with rfl | rfl <;> decide) rfl (by first | omega | (simp (disch := omega) only [mput_ne, mput_nk, mput_eq]; omega)) (by first | omega | (simp (disch := omega) only [mput_ne, mput_nk, mput_eq]; omega)) (by first | omega | (simp (disch := omega) only [mput_ne, mput_nk, mput_eq]; omega)) (by first | omega | (simp (disch := omega) only [mput_ne, mput_nk, mput_eq]; omega)) ?_
      exact s_return C dX6_startWord_95 (⟨rfl, by first | (rw [hM1]; unfold sWord; rw [if_neg (by rw [← hM1]; exact c42)]; done) | (unfold sWord; rw [← hM1, if_pos c42]; rfl)⟩)
  refine s_aload_n C dX6_startWord_0 rfl ?_
  refine s_getz (k := 3) (j := 3) C dX6_startWord_1 fl_X6_56 (by decide) rfl (by decide) rfl (rfl) (fun r1 => ?_)
  refine s_if_ne (tgt := 16) C dX6_startWord_4 (by decide) (by omega) (fun c4 => ?_) (fun c4 => ?_)
  · skip
    have j7 := i7 c4
    refine s_aload_n C dX6_startWord_16 rfl ?_
    refine s_getr (k := 4) (b := t + 5) C dX6_startWord_17 fl_X6_87 (by rcases ht with rfl | rfl <;> decide) (by rcases ht with rfl | rfl <;> decide) (by decide) (by rcases ht with rfl | rfl <;> decide) ?_
    refine s_aload_n C dX6_startWord_20 rfl ?_
    refine s_geti (k := 7) (j := 7) C dX6_startWord_21 fl_X6_59 (by rcases ht with rfl | rfl <;> decide) (by rcases ht with rfl | rfl <;> decide) (by decide) rfl (rfl) (fun r21 => ?_)
    refine s_iconst C dX6_startWord_24 ?_
    refine s_isub C dX6_startWord_25 ?_
    refine s_iaload C dX6_startWord_26 (by rcases ht with rfl | rfl <;> decide) (by rcases ht with rfl | rfl <;> decide) rfl (by first | omega | (simp (disch := omega) only [mput_ne, mput_nk, mput_eq]; omega)) (by first | omega | (simp (disch := omega) only [mput_ne, mput_nk, mput_eq]; omega)) (by first | omega | (simp (disch := omega) only [mput_ne, mput_nk, mput_eq]; omega)) (rfl) (fun r26 => ?_)
    refine s_bipush C dX6_startWord_27 (by decide) ?_
    refine s_icmp_lt (tgt := 38) C dX6_startWord_29 (by decide) (by first | omega | (simp (disch := omega) only [mput_ne, mput_nk, mput_eq]; omega)) (by first | omega | (simp (disch := omega) only [mput_ne, mput_nk, mput_eq]; omega)) (fun c29 => ?_) (fun c29 => ?_)
    · skip
      exact L38 _  (by unfold sWord1; rw [if_neg c4, if_neg (by omega)]) (fun h => by omega)
    · skip
      refine s_aload_n C dX6_startWord_32 rfl ?_
      refine s_iconst C dX6_startWord_33 ?_
      refine s_iload_n C dX6_startWord_34 rfl ?_
      refine s_callV2 C dX6_startWord_35 cy_X6_note cv_X6_note lk_X6_62 (ct_X6_note E M 3 p (by decide) hp) (by decide) (by decide) (by first | decide | (decide)) rfl (Nat.le_of_ble_eq_true rfl) (k_V (fun M35 q35 => ?_))
      exact L38 _  (by rw [q35]; unfold sWord1; rw [if_neg c4, if_pos (by omega)]) (fun h => by rw [q35] at h; simp (disch := omega) only [sNote, mput_ne, mput_nk, mput_eq] at h; omega)
  · skip
    refine s_aload_n C dX6_startWord_7 rfl ?_
    refine s_aload_n C dX6_startWord_8 rfl ?_
    refine s_iload_n C dX6_startWord_9 rfl ?_
    refine s_callV2 C dX6_startWord_10 cy_X6_startSentence cv_X6_startSentence lk_X6_84 (ct_X6_startSentence E t ht M p hp hI) (by decide) (by decide) (by first | decide | (decide)) rfl (Nat.le_of_ble_eq_true rfl) (k_V (fun M10 q10 => ?_))
    refine s_goto (tgt := 38) C dX6_startWord_13 (by decide) ?_
    exact L38 _  (by rw [q10]; unfold sWord1; rw [if_pos c4]) (fun h => by
          rw [q10] at h ⊢
          obtain ⟨g0, g1, g2, g3, g4, g5, g6, g7⟩ := sSent_keep ht hI c4 h2 h
          rw [g2, g3, show M t 7 + 1 - 1 = M t 7 by omega, g4]
          omega)

set_option maxRecDepth 20000 in
set_option maxHeartbeats 4000000 in
theorem ct_X6_takeLetter (E : Ev) (t : Nat) (ht : t = 17 ∨ t = 24) (M : Mm) (p : Int) (hp : rg p) (hI : sI t M) : Ct E yX6_takeLetter cX6_takeLetter 3 none 3 [zr E 16, zr E t, zi p] M (pV (fun M' => M' = sLetter t M p)) := by
  refine Ct.of (own := RX6) (lv0 := [some (zr E 16), some (zr E t), some (zi p)]) (by decide) rfl (Nat.le_of_ble_eq_true rfl) rfl (fun κ C => ?_)
  obtain ⟨l1, l2, l3, l4, l5, l6⟩ := lnT ht
  obtain ⟨⟨i1, i2⟩, ⟨i3, i4⟩, ⟨i5, i6⟩, i7, i8, i9⟩ := id hI
  refine s_aload_n C dX6_takeLetter_0 rfl ?_
  refine s_getz (k := 2) (j := 2) C dX6_takeLetter_1 fl_X6_48 (by decide) rfl (by decide) rfl (rfl) (fun r1 => ?_)
  refine s_if_ne (tgt := 16) C dX6_takeLetter_4 (by decide) (by first | omega | (simp (disch := omega) only [mput_ne, mput_nk, mput_eq]; omega)) (fun c4 => ?_) (fun c4 => ?_)
  · skip
    have j8 := i8 c4
    refine s_aload_n C dX6_takeLetter_16 rfl ?_
    refine s_getr (k := 2) (b := t + 3) C dX6_takeLetter_17 fl_X6_81 (by rcases ht with rfl | rfl <;> decide) (by rcases ht with rfl | rfl <;> decide) (by decide) (by rcases ht with rfl | rfl <;> decide) ?_
    refine s_aload_n C dX6_takeLetter_20 rfl ?_
    refine s_geti (k := 6) (j := 6) C dX6_takeLetter_21 fl_X6_75 (by rcases ht with rfl | rfl <;> decide) (by rcases ht with rfl | rfl <;> decide) (by decide) rfl (rfl) (fun r21 => ?_)
    refine s_iconst C dX6_takeLetter_24 ?_
    refine s_isub C dX6_takeLetter_25 ?_
    refine s_iaload C dX6_takeLetter_26 (by rcases ht with rfl | rfl <;> decide) (by rcases ht with rfl | rfl <;> decide) rfl (by first | omega | (simp (disch := omega) only [mput_ne, mput_nk, mput_eq]; omega)) (by first | omega | (simp (disch := omega) only [mput_ne, mput_nk, mput_eq]; omega)) (by first | omega | (simp (disch := omega) only [mput_ne, mput_nk, mput_eq]; omega)) (rfl) (fun r26 => ?_)
    refine s_bipush C dX6_takeLetter_27 (by decide) ?_
    refine s_icmp_lt (tgt := 41) C dX6_takeLetter_29 (by decide) (by first | omega | (simp (disch := omega) only [mput_ne, mput_nk, mput_eq]; omega)) (by first | omega | (simp (disch := omega) only [mput_ne, mput_nk, mput_eq]; omega)) (fun c29 => ?_) (fun c29 => ?_)
    · skip
      refine s_aload_n C dX6_takeLetter_41 rfl ?_
      refine s_getr (k := 2) (b := t + 3) C dX6_takeLetter_42 fl_X6_81 (by rcases ht with rfl | rfl <;> decide) (by rcases ht with rfl | rfl <;> decide) (by decide) (by rcases ht with rfl | rfl <;> decide) ?_
      refine s_aload_n C dX6_takeLetter_45 rfl ?_
      refine s_geti (k := 6) (j := 6) C dX6_takeLetter_46 fl_X6_75 (by rcases ht with rfl | rfl <;> decide) (by rcases ht with rfl | rfl <;> decide) (by decide) rfl (rfl) (fun r46 => ?_)
      refine s_iconst C dX6_takeLetter_49 ?_
      refine s_isub C dX6_takeLetter_50 ?_
      refine s_dup2 C dX6_takeLetter_51 rfl rfl ?_
      refine s_iaload C dX6_takeLetter_52 (by rcases ht with rfl | rfl <;> decide) (by rcases ht with rfl | rfl <;> decide) rfl (by first | omega | (simp (disch := omega) only [mput_ne, mput_nk, mput_eq]; omega)) (by first | omega | (simp (disch := omega) only [mput_ne, mput_nk, mput_eq]; omega)) (by first | omega | (simp (disch := omega) only [mput_ne, mput_nk, mput_eq]; omega)) (rfl) (fun r52 => ?_)
      refine s_iconst C dX6_takeLetter_53 ?_
      refine s_iadd C dX6_takeLetter_54 ?_
      refine s_iastore C dX6_takeLetter_55 (by rcases ht with rfl | rfl <;> decide) (by rcases ht with rfl | rfl <;> decide) rfl (by first | omega | (simp (disch := omega) only [mput_ne, mput_nk, mput_eq]; omega)) (by first | omega | (simp (disch := omega) only [mput_ne, mput_nk, mput_eq]; omega)) (by first | omega | (simp (disch := omega) only [mput_ne, mput_nk, mput_eq]; omega)) (by first | omega | (simp (disch := omega) only [mput_ne, mput_nk, mput_eq]; omega)) ?_
      exact s_return C dX6_takeLetter_56 (⟨rfl, by unfold sLetter; first | (rw [if_pos c4]; done) | (rw [if_neg c4, if_pos (by omega)]; done) | (rw [if_neg c4, if_neg (by omega)])⟩)
    · skip
      refine s_aload_n C dX6_takeLetter_32 rfl ?_
      refine s_iconst C dX6_takeLetter_33 ?_
      refine s_iload_n C dX6_takeLetter_34 rfl ?_
      refine s_callV2 C dX6_takeLetter_35 cy_X6_note cv_X6_note lk_X6_62 (ct_X6_note E M 2 p (by decide) hp) (by decide) (by decide) (by first | decide | (decide)) rfl (Nat.le_of_ble_eq_true rfl) (k_V (fun M35 q35 => ?_))
      subst q35
      refine s_goto (tgt := 56) C dX6_takeLetter_38 (by decide) ?_
      exact s_return C dX6_takeLetter_56 (⟨rfl, by unfold sLetter; first | (rw [if_pos c4]; done) | (rw [if_neg c4, if_pos (by omega)]; done) | (rw [if_neg c4, if_neg (by omega)])⟩)
  · skip
    refine s_aload_n C dX6_takeLetter_7 rfl ?_
    refine s_aload_n C dX6_takeLetter_8 rfl ?_
    refine s_iload_n C dX6_takeLetter_9 rfl ?_
    refine s_callV2 C dX6_takeLetter_10 cy_X6_startWord cv_X6_startWord lk_X6_78 (ct_X6_startWord E t ht M p hp hI c4) (by decide) (by decide) (by first | decide | (decide)) rfl (Nat.le_of_ble_eq_true rfl) (k_V (fun M10 q10 => ?_))
    subst q10
    refine s_goto (tgt := 56) C dX6_takeLetter_13 (by decide) ?_
    exact s_return C dX6_takeLetter_56 (⟨rfl, by unfold sLetter; first | (rw [if_pos c4]; done) | (rw [if_neg c4, if_pos (by omega)]; done) | (rw [if_neg c4, if_neg (by omega)])⟩)

set_option maxRecDepth 20000 in
set_option maxHeartbeats 4000000 in
theorem ct_X6_takeLineEnd (E : Ev) (t : Nat) (ht : t = 17 ∨ t = 24) (M : Mm)  : Ct E yX6_takeLineEnd cX6_takeLineEnd 2 none 0 [zr E 16, zr E t] M (pV (fun M' => M' = sLine t M)) := by
  refine Ct.of (own := RX6) (lv0 := [some (zr E 16), some (zr E t)]) (by decide) rfl (Nat.le_of_ble_eq_true rfl) rfl (fun κ C => ?_)
  have L34 : ∀ (z : Int) (hz : z = if M 16 5 = 0 ∧ M 16 4 = 0 then 0 else 1) (h3 : M 16 3 = 0 ∧ 0 < M t 7), Gm E κ (pV (fun M' => M' = sLine t M)) 2 34 [some (zr E 16), some (zr E t)] [zi z, zr E 16] M := by
    intro z  hz h3
    skip
    refine s_putz (k := 5) (j := 5) C dX6_takeLineEnd_34 fp_X6_69 (by decide) rfl rfl rfl (by rw [hz]; split <;> omega) ?_
    refine s_aload_n C dX6_takeLineEnd_37 rfl ?_
    refine s_iconst C dX6_takeLineEnd_38 ?_
    refine s_putz (k := 4) (j := 4) C dX6_takeLineEnd_39 fp_X6_66 (by decide) rfl rfl rfl (by decide) ?_
    exact s_return C dX6_takeLineEnd_42 (⟨rfl, by unfold sLine; first | (rw [if_pos (by omega), ← hz]; done) | rw [if_neg (by omega)]⟩)
  refine s_aload_n C dX6_takeLineEnd_0 rfl ?_
  refine s_getz (k := 3) (j := 3) C dX6_takeLineEnd_1 fl_X6_56 (by decide) rfl (by decide) rfl (rfl) (fun r1 => ?_)
  refine s_if_ne (tgt := 42) C dX6_takeLineEnd_4 (by decide) (by omega) (fun c4 => ?_) (fun c4 => ?_)
  · skip
    exact s_return C dX6_takeLineEnd_42 (⟨rfl, by unfold sLine; first | (rw [if_pos (by omega), ← hz]; done) | rw [if_neg (by omega)]⟩)
  · skip
    refine s_aload_n C dX6_takeLineEnd_7 rfl ?_
    refine s_geti (k := 7) (j := 7) C dX6_takeLineEnd_8 fl_X6_59 (by rcases ht with rfl | rfl <;> decide) (by rcases ht with rfl | rfl <;> decide) (by decide) rfl (rfl) (fun r8 => ?_)
    refine s_if_le (tgt := 42) C dX6_takeLineEnd_11 (by decide) (by omega) (fun c11 => ?_) (fun c11 => ?_)
    · skip
      exact s_return C dX6_takeLineEnd_42 (⟨rfl, by unfold sLine; first | (rw [if_pos (by omega), ← hz]; done) | rw [if_neg (by omega)]⟩)
    · skip
      refine s_aload_n C dX6_takeLineEnd_14 rfl ?_
      refine s_aload_n C dX6_takeLineEnd_15 rfl ?_
      refine s_getz (k := 5) (j := 5) C dX6_takeLineEnd_16 fl_X6_69 (by decide) rfl (by decide) rfl (rfl) (fun r16 => ?_)
      refine s_if_ne (tgt := 29) C dX6_takeLineEnd_19 (by decide) (by omega) (fun c19 => ?_) (fun c19 => ?_)
      · skip
        refine s_iconst C dX6_takeLineEnd_29 ?_
        refine s_goto (tgt := 34) C dX6_takeLineEnd_30 (by decide) ?_
        exact L34 _  (by rw [if_neg (by omega)]) (by first | assumption | omega)
      · skip
        refine s_aload_n C dX6_takeLineEnd_22 rfl ?_
        refine s_getz (k := 4) (j := 4) C dX6_takeLineEnd_23 fl_X6_66 (by decide) rfl (by decide) rfl (rfl) (fun r23 => ?_)
        refine s_if_eq (tgt := 33) C dX6_takeLineEnd_26 (by decide) (by omega) (fun c26 => ?_) (fun c26 => ?_)
        · skip
          refine s_iconst C dX6_takeLineEnd_33 ?_
          exact L34 _  (by rw [if_pos (by omega)]) (by first | assumption | omega)
        · skip
          refine s_iconst C dX6_takeLineEnd_29 ?_
          refine s_goto (tgt := 34) C dX6_takeLineEnd_30 (by decide) ?_
          exact L34 _  (by rw [if_neg (by omega)]) (by first | assumption | omega)

set_option maxRecDepth 20000 in
set_option maxHeartbeats 4000000 in
theorem ct_X6_takeSentenceEnd (E : Ev) (M : Mm) (p : Int) (hp : rg p) : Ct E yX6_takeSentenceEnd cX6_takeSentenceEnd 2 none 1 [zr E 16, zi p] M (pV (fun M' => M' = sEnd M p)) := by
  refine Ct.of (own := RX6) (lv0 := [some (zr E 16), some (zi p)]) (by decide) rfl (Nat.le_of_ble_eq_true rfl) rfl (fun κ C => ?_)
  have L13 : ∀ (M1 : Mm) (hM1 : M1 = if M 16 3 = 0 then sNote M 5 p else M), Gm E κ (pV (fun M' => M' = sEnd M p)) 2 13 [some (zr E 16), some (zi p)] [] M1 := by
    intro M1  hM1
    refine s_aload_n C dX6_takeSentenceEnd_13 rfl ?_
    refine s_iconst C dX6_takeSentenceEnd_14 ?_
    refine s_putz (k := 3) (j := 3) C dX6_takeSentenceEnd_15 fp_X6_56 (by decide) rfl rfl rfl (by decide) ?_
    exact s_return C dX6_takeSentenceEnd_18 (⟨rfl, by rw [hM1]; rfl⟩)
  refine s_aload_n C dX6_takeSentenceEnd_0 rfl ?_
  refine s_getz (k := 3) (j := 3) C dX6_takeSentenceEnd_1 fl_X6_56 (by decide) rfl (by decide) rfl (rfl) (fun r1 => ?_)
  refine s_if_ne (tgt := 13) C dX6_takeSentenceEnd_4 (by decide) (by omega) (fun c4 => ?_) (fun c4 => ?_)
  · skip
    exact L13 _  (by rw [if_neg c4])
  · skip
    refine s_aload_n C dX6_takeSentenceEnd_7 rfl ?_
    refine s_iconst C dX6_takeSentenceEnd_8 ?_
    refine s_iload_n C dX6_takeSentenceEnd_9 rfl ?_
    refine s_callV2 C dX6_takeSentenceEnd_10 cy_X6_note cv_X6_note lk_X6_62 (ct_X6_note E M 5 p (by decide) hp) (by decide) (by decide) (by first | decide | (decide)) rfl (Nat.le_of_ble_eq_true rfl) (k_V (fun M10 q10 => ?_))
    exact L13 _  (by rw [if_pos c4]; exact q10)

set_option maxRecDepth 20000 in
set_option maxHeartbeats 4000000 in
theorem ct_X6_takeMark (E : Ev) (t : Nat) (ht : t = 17 ∨ t = 24) (M : Mm) (p b : Int) (hp : rg p) (hb : rg b) : Ct E yX6_takeMark cX6_takeMark 4 none 2 [zr E 16, zr E t, zi p, zi b] M (pV (fun M' => M' = sMark t M p b)) := by
  refine Ct.of (own := RX6) (lv0 := [some (zr E 16), some (zr E t), some (zi p), some (zi b)]) (by decide) rfl (Nat.le_of_ble_eq_true rfl) rfl (fun κ C => ?_)
  refine s_iload_n C dX6_takeMark_0 rfl ?_
  refine s_lookc (v := 10) (tgt := 79) C dX6_takeMark_1 (by decide) (by omega) rfl (by decide) (fun c1 => ?_) (fun n1_10 => ?_)
  · skip
    refine s_aload_n C dX6_takeMark_79 rfl ?_
    refine s_aload_n C dX6_takeMark_80 rfl ?_
    refine s_callV1 C dX6_takeMark_81 cy_X6_takeLineEnd cv_X6_takeLineEnd lk_X6_98 (ct_X6_takeLineEnd E t ht M) (by decide) (by decide) (by first | decide | (decide)) rfl (Nat.le_of_ble_eq_true rfl) (k_V (fun M81 q81 => ?_))
    refine s_goto (tgt := 109) C dX6_takeMark_84 (by decide) ?_
    exact s_return C dX6_takeMark_109 (⟨rfl, by unfold sMark; first | (rw [if_pos (by omega)]; done) | (rw [if_neg (by omega), if_pos (by omega)]; first | exact q81 | done) | (rw [if_neg (by omega), if_neg (by omega), if_pos (by omega)]; done) | (rw [if_neg (by omega), if_neg (by omega), if_neg (by omega), if_pos (by omega)]; exact q97) | (rw [if_neg (by omega), if_neg (by omega), if_neg (by omega), if_neg (by omega)]; exact q106)⟩)
  refine s_lookc (v := 32) (tgt := 76) C dX6_takeMark_1 (by decide) (by omega) rfl (by decide) (fun c1 => ?_) (fun n1_32 => ?_)
  · skip
    refine s_goto (tgt := 109) C dX6_takeMark_76 (by decide) ?_
    exact s_return C dX6_takeMark_109 (⟨rfl, by unfold sMark; first | (rw [if_pos (by omega)]; done) | (rw [if_neg (by omega), if_pos (by omega)]; first | exact q81 | done) | (rw [if_neg (by omega), if_neg (by omega), if_pos (by omega)]; done) | (rw [if_neg (by omega), if_neg (by omega), if_neg (by omega), if_pos (by omega)]; exact q97) | (rw [if_neg (by omega), if_neg (by omega), if_neg (by omega), if_neg (by omega)]; exact q106)⟩)
  refine s_lookc (v := 33) (tgt := 95) C dX6_takeMark_1 (by decide) (by omega) rfl (by decide) (fun c1 => ?_) (fun n1_33 => ?_)
  · skip
    refine s_aload_n C dX6_takeMark_95 rfl ?_
    refine s_iload_n C dX6_takeMark_96 rfl ?_
    refine s_callV1 C dX6_takeMark_97 cy_X6_takeSentenceEnd cv_X6_takeSentenceEnd lk_X6_101 (ct_X6_takeSentenceEnd E M p hp) (by decide) (by decide) (by first | decide | (decide)) rfl (Nat.le_of_ble_eq_true rfl) (k_V (fun M97 q97 => ?_))
    refine s_goto (tgt := 109) C dX6_takeMark_100 (by decide) ?_
    exact s_return C dX6_takeMark_109 (⟨rfl, by unfold sMark; first | (rw [if_pos (by omega)]; done) | (rw [if_neg (by omega), if_pos (by omega)]; first | exact q81 | done) | (rw [if_neg (by omega), if_neg (by omega), if_pos (by omega)]; done) | (rw [if_neg (by omega), if_neg (by omega), if_neg (by omega), if_pos (by omega)]; exact q97) | (rw [if_neg (by omega), if_neg (by omega), if_neg (by omega), if_neg (by omega)]; exact q106)⟩)
  refine s_lookc (v := 44) (tgt := 87) C dX6_takeMark_1 (by decide) (by omega) rfl (by decide) (fun c1 => ?_) (fun n1_44 => ?_)
  · skip
    refine s_aload_n C dX6_takeMark_87 rfl ?_
    refine s_iconst C dX6_takeMark_88 ?_
    refine s_putz (k := 4) (j := 4) C dX6_takeMark_89 fp_X6_66 (by decide) rfl rfl rfl (by decide) ?_
    refine s_goto (tgt := 109) C dX6_takeMark_92 (by decide) ?_
    exact s_return C dX6_takeMark_109 (⟨rfl, by unfold sMark; first | (rw [if_pos (by omega)]; done) | (rw [if_neg (by omega), if_pos (by omega)]; first | exact q81 | done) | (rw [if_neg (by omega), if_neg (by omega), if_pos (by omega)]; done) | (rw [if_neg (by omega), if_neg (by omega), if_neg (by omega), if_pos (by omega)]; exact q97) | (rw [if_neg (by omega), if_neg (by omega), if_neg (by omega), if_neg (by omega)]; exact q106)⟩)
  refine s_lookc (v := 46) (tgt := 95) C dX6_takeMark_1 (by decide) (by omega) rfl (by decide) (fun c1 => ?_) (fun n1_46 => ?_)
  · skip
    refine s_aload_n C dX6_takeMark_95 rfl ?_
    refine s_iload_n C dX6_takeMark_96 rfl ?_
    refine s_callV1 C dX6_takeMark_97 cy_X6_takeSentenceEnd cv_X6_takeSentenceEnd lk_X6_101 (ct_X6_takeSentenceEnd E M p hp) (by decide) (by decide) (by first | decide | (decide)) rfl (Nat.le_of_ble_eq_true rfl) (k_V (fun M97 q97 => ?_))
    refine s_goto (tgt := 109) C dX6_takeMark_100 (by decide) ?_
    exact s_return C dX6_takeMark_109 (⟨rfl, by unfold sMark; first | (rw [if_pos (by omega)]; done) | (rw [if_neg (by omega), if_pos (by omega)]; first | exact q81 | done) | (rw [if_neg (by omega), if_neg (by omega), if_pos (by omega)]; done) | (rw [if_neg (by omega), if_neg (by omega), if_neg (by omega), if_pos (by omega)]; exact q97) | (rw [if_neg (by omega), if_neg (by omega), if_neg (by omega), if_neg (by omega)]; exact q106)⟩)
  refine s_lookc (v := 58) (tgt := 87) C dX6_takeMark_1 (by decide) (by omega) rfl (by decide) (fun c1 => ?_) (fun n1_58 => ?_)
  · skip
    refine s_aload_n C dX6_takeMark_87 rfl ?_
    refine s_iconst C dX6_takeMark_88 ?_
    refine s_putz (k := 4) (j := 4) C dX6_takeMark_89 fp_X6_66 (by decide) rfl rfl rfl (by decide) ?_
    refine s_goto (tgt := 109) C dX6_takeMark_92 (by decide) ?_
    exact s_return C dX6_takeMark_109 (⟨rfl, by unfold sMark; first | (rw [if_pos (by omega)]; done) | (rw [if_neg (by omega), if_pos (by omega)]; first | exact q81 | done) | (rw [if_neg (by omega), if_neg (by omega), if_pos (by omega)]; done) | (rw [if_neg (by omega), if_neg (by omega), if_neg (by omega), if_pos (by omega)]; exact q97) | (rw [if_neg (by omega), if_neg (by omega), if_neg (by omega), if_neg (by omega)]; exact q106)⟩)
  refine s_lookc (v := 59) (tgt := 87) C dX6_takeMark_1 (by decide) (by omega) rfl (by decide) (fun c1 => ?_) (fun n1_59 => ?_)
  · skip
    refine s_aload_n C dX6_takeMark_87 rfl ?_
    refine s_iconst C dX6_takeMark_88 ?_
    refine s_putz (k := 4) (j := 4) C dX6_takeMark_89 fp_X6_66 (by decide) rfl rfl rfl (by decide) ?_
    refine s_goto (tgt := 109) C dX6_takeMark_92 (by decide) ?_
    exact s_return C dX6_takeMark_109 (⟨rfl, by unfold sMark; first | (rw [if_pos (by omega)]; done) | (rw [if_neg (by omega), if_pos (by omega)]; first | exact q81 | done) | (rw [if_neg (by omega), if_neg (by omega), if_pos (by omega)]; done) | (rw [if_neg (by omega), if_neg (by omega), if_neg (by omega), if_pos (by omega)]; exact q97) | (rw [if_neg (by omega), if_neg (by omega), if_neg (by omega), if_neg (by omega)]; exact q106)⟩)
  refine s_lookc (v := 63) (tgt := 95) C dX6_takeMark_1 (by decide) (by omega) rfl (by decide) (fun c1 => ?_) (fun n1_63 => ?_)
  · skip
    refine s_aload_n C dX6_takeMark_95 rfl ?_
    refine s_iload_n C dX6_takeMark_96 rfl ?_
    refine s_callV1 C dX6_takeMark_97 cy_X6_takeSentenceEnd cv_X6_takeSentenceEnd lk_X6_101 (ct_X6_takeSentenceEnd E M p hp) (by decide) (by decide) (by first | decide | (decide)) rfl (Nat.le_of_ble_eq_true rfl) (k_V (fun M97 q97 => ?_))
    refine s_goto (tgt := 109) C dX6_takeMark_100 (by decide) ?_
    exact s_return C dX6_takeMark_109 (⟨rfl, by unfold sMark; first | (rw [if_pos (by omega)]; done) | (rw [if_neg (by omega), if_pos (by omega)]; first | exact q81 | done) | (rw [if_neg (by omega), if_neg (by omega), if_pos (by omega)]; done) | (rw [if_neg (by omega), if_neg (by omega), if_neg (by omega), if_pos (by omega)]; exact q97) | (rw [if_neg (by omega), if_neg (by omega), if_neg (by omega), if_neg (by omega)]; exact q106)⟩)
  refine s_lookd (tgt := 103) C dX6_takeMark_1 (by decide) (by omega) (by simp only [Op.lookupswitch.offset]; repeat (first | rfl | rw [if_neg (by omega)])) (by decide) ?_
  refine s_aload_n C dX6_takeMark_103 rfl ?_
  refine s_iconst C dX6_takeMark_104 ?_
  refine s_iload_n C dX6_takeMark_105 rfl ?_
  refine s_callV2 C dX6_takeMark_106 cy_X6_note cv_X6_note lk_X6_62 (ct_X6_note E M 1 p (by decide) hp) (by decide) (by decide) (by first | decide | (decide)) rfl (Nat.le_of_ble_eq_true rfl) (k_V (fun M106 q106 => ?_))
  exact s_return C dX6_takeMark_109 (⟨rfl, by unfold sMark; first | (rw [if_pos (by omega)]; done) | (rw [if_neg (by omega), if_pos (by omega)]; first | exact q81 | done) | (rw [if_neg (by omega), if_neg (by omega), if_pos (by omega)]; done) | (rw [if_neg (by omega), if_neg (by omega), if_neg (by omega), if_pos (by omega)]; exact q97) | (rw [if_neg (by omega), if_neg (by omega), if_neg (by omega), if_neg (by omega)]; exact q106)⟩)

abbrev offT (t a : Nat) : Prop := a ≠ 16 ∧ a ≠ t ∧ a ≠ t + 1 ∧ a ≠ t + 2 ∧ a ≠ t + 3 ∧ a ≠ t + 4 ∧ a ≠ t + 5 ∧ a ≠ t + 6
theorem sNote_ne {M : Mm} {k p : Int} {a : Nat} (h : a ≠ 16) : sNote M k p a = M a := by unfold sNote; rw [mput_ne h, mput_ne h]
theorem sSent_ne {t a : Nat} {M : Mm} {p : Int} (h : offT t a) : sSent t M p a = M a := by
  unfold sSent
  split
  · exact sNote_ne h.1
  · simp (disch := omega) only [mput_ne]
theorem sWord_ne {t a : Nat} {M : Mm} {p : Int} (h : offT t a) : sWord t M p a = M a := by
  have h1 : sWord1 t M p a = M a := by
    unfold sWord1
    split
    · exact sSent_ne h
    · split
      · exact sNote_ne h.1
      · rfl
  unfold sWord
  split
  · unfold sWord2
    simp (disch := omega) only [mput_ne]
    exact h1
  · exact h1
theorem sLetter_ne {t a : Nat} {M : Mm} {p : Int} (h : offT t a) : sLetter t M p a = M a := by
  unfold sLetter
  split
  · exact sWord_ne h
  · split
    · exact sNote_ne h.1
    · rw [mput_ne (by omega)]
theorem sMark_ne {t a : Nat} {M : Mm} {p b : Int} (h : offT t a) : sMark t M p b a = M a := by
  unfold sMark
  split
  · rfl
  split
  · unfold sLine; split
    · simp (disch := omega) only [mput_ne]
    · rfl
  split
  · rw [mput_ne h.1]
  split
  · unfold sEnd; rw [mput_ne h.1]; split
    · exact sNote_ne h.1
    · rfl
  · exact sNote_ne h.1
theorem sByte_ne {t a : Nat} {M : Mm} {p b : Int} (h : offT t a) : sByte t M p b a = M a := by
  unfold sByte
  split
  · rw [sLetter_ne h, mput_ne (by omega)]
  · rw [sMark_ne h, mput_ne h.1, mput_ne (by omega)]
theorem sIt_ne {t a : Nat} {M : Mm} (h : offT t a) : ∀ k, sIt t M k a = M a := by
  intro k
  induction k with
  | zero => rfl
  | succ k ih =>
    rw [sIt]
    split
    · rw [sByte_ne h, ih]
    · exact ih
theorem sIt_stay {t : Nat} {M : Mm} {k : Nat} (h : sIt t M k 16 0 ≠ 0) : ∀ j, sIt t M (k + j) = sIt t M k := by
  intro j
  induction j with
  | zero => rfl
  | succ j ih =>
    show sIt t M (k + j + 1) = _
    rw [sIt, if_neg (by rw [ih]; exact h), ih]
theorem sWord2_I {t : Nat} (ht : t = 17 ∨ t = 24) {M : Mm} {p : Int} (b1 : 0 ≤ M t 6 ∧ M t 6 < 960) (b2 : 1 ≤ M t 7 ∧ M t 7 ≤ 24) (b3 : 0 ≤ M (t + 5) (M t 7 - 1) ∧ M (t + 5) (M t 7 - 1) < 40) (b4 : M t 6 ≤ 40 * (M t 7 - 1) + M (t + 5) (M t 7 - 1)) (b5 : 0 ≤ M 16 6 ∧ M 16 6 ≤ M t 7) (b6 : M 16 3 ≠ 0) : sI t (sWord2 t M p) := by
  unfold sI sWord2
  simp (disch := omega) only [mput_ne, mput_nk, mput_eq, Int.add_sub_cancel]
  refine ⟨by omega, by omega, by omega, fun _ => by omega, fun _ => ⟨b6, by omega, by omega, by omega⟩, by omega⟩
theorem sWord_I {t : Nat} (ht : t = 17 ∨ t = 24) {M : Mm} {p : Int} (hI : sI t M) (h2 : M 16 2 = 0) (h0 : sWord t M p 16 0 = 0) : sI t (sWord t M p) := by
  have h1 : sWord1 t M p 16 0 = 0 := by
    unfold sWord at h0
    split at h0
    · assumption
    · exact h0
  unfold sWord
  rw [if_pos h1]
  obtain ⟨⟨i1, i2⟩, ⟨i3, i4⟩, ⟨i5, i6⟩, i7, i8, i9⟩ := id hI
  by_cases c : M 16 3 = 0
  · have e : sWord1 t M p = sSent t M p := by unfold sWord1; rw [if_pos c]
    rw [e] at h1 ⊢
    obtain ⟨g0, g1, g2, g3, g4, g5, g6, g7⟩ := sSent_keep ht hI c h2 h1
    have e2 : sSent t M p t 7 - 1 = M t 7 := by omega
    refine sWord2_I ht ?_ ?_ ?_ ?_ ?_ ?_
    · omega
    · omega
    · rw [e2, g4]; omega
    · rw [e2, g4]; omega
    · omega
    · omega
  · have j7 := i7 c
    by_cases c2 : 40 ≤ M (t + 5) (M t 7 - 1)
    · have e : sWord1 t M p = sNote M 3 p := by unfold sWord1; rw [if_neg c, if_pos c2]
      rw [e] at h1
      simp (disch := omega) only [sNote, mput_ne, mput_nk, mput_eq] at h1
      omega
    · have e : sWord1 t M p = M := by unfold sWord1; rw [if_neg c, if_neg c2]
      rw [e]
      exact sWord2_I ht (by omega) (by omega) (by omega) (by omega) (by omega) c
theorem sLetter_I {t : Nat} (ht : t = 17 ∨ t = 24) {M : Mm} {p : Int} (hI : sI t M) (h0 : sLetter t M p 16 0 = 0) : sI t (sLetter t M p) := by
  unfold sLetter at h0 ⊢
  by_cases c : M 16 2 = 0
  · rw [if_pos c] at h0 ⊢
    exact sWord_I ht hI c h0
  · rw [if_neg c] at h0 ⊢
    by_cases c2 : 16 ≤ M (t + 3) (M t 6 - 1)
    · rw [if_pos c2] at h0
      simp (disch := omega) only [sNote, mput_ne, mput_nk, mput_eq] at h0
      omega
    · rw [if_neg c2]
      obtain ⟨⟨i1, i2⟩, ⟨i3, i4⟩, ⟨i5, i6⟩, i7, i8, i9⟩ := hI
      have j8 := i8 c
      unfold sI
      simp (disch := omega) only [mput_ne, mput_nk, mput_eq]
      exact ⟨by omega, by omega, by omega, i7, fun _ => ⟨j8.1, by omega, by omega, by omega⟩, i9⟩
theorem sMark_I {t : Nat} (ht : t = 17 ∨ t = 24) {M : Mm} {p b : Int} (hI : sI t M) (h2 : M 16 2 = 0) (h0 : sMark t M p b 16 0 = 0) : sI t (sMark t M p b) := by
  obtain ⟨⟨i1, i2⟩, ⟨i3, i4⟩, ⟨i5, i6⟩, i7, i8, i9⟩ := id hI
  unfold sMark at h0 ⊢
  by_cases c1 : b = 32
  · rw [if_pos c1]; exact hI
  rw [if_neg c1] at h0 ⊢
  by_cases c2 : b = 10
  · rw [if_pos c2]
    unfold sLine
    split
    · unfold sI
      simp (disch := omega) only [mput_ne, mput_nk, mput_eq]
      exact ⟨by omega, by omega, by omega, i7, i8, i9⟩
    · exact hI
  rw [if_neg c2] at h0 ⊢
  by_cases c3 : b = 44 ∨ b = 58 ∨ b = 59
  · rw [if_pos c3]
    unfold sI
    simp (disch := omega) only [mput_ne, mput_nk, mput_eq]
    exact ⟨by omega, by omega, by omega, i7, i8, i9⟩
  rw [if_neg c3] at h0 ⊢
  by_cases c4 : b = 46 ∨ b = 33 ∨ b = 63
  · rw [if_pos c4] at h0 ⊢
    unfold sEnd at h0 ⊢
    by_cases c5 : M 16 3 = 0
    · rw [if_pos c5] at h0
      simp (disch := omega) only [sNote, mput_ne, mput_nk, mput_eq] at h0
      omega
    · rw [if_neg c5]
      unfold sI
      simp (disch := omega) only [mput_ne, mput_nk, mput_eq]
      exact ⟨by omega, by omega, by omega, fun h => absurd rfl h, fun h => absurd h2 h, i9⟩
  · rw [if_neg c4] at h0
    simp (disch := omega) only [sNote, mput_ne, mput_nk, mput_eq] at h0
    omega
theorem sI_off {t : Nat} (ht : t = 17 ∨ t = 24) {M : Mm} {p b : Int} (hI : sI t M) : sI t (mput M (t + 1) p b) := by
  unfold sI at *
  simp (disch := omega) only [mput_ne, mput_nk, mput_eq]
  exact hI
theorem sI_w0 {t : Nat} (ht : t = 17 ∨ t = 24) {M : Mm} (hI : sI t M) : sI t (mput M 16 2 0) := by
  unfold sI at *
  simp (disch := omega) only [mput_ne, mput_nk, mput_eq]
  obtain ⟨i1, i3, i5, i7, i8, i9⟩ := hI
  exact ⟨i1, i3, i5, i7, fun h => absurd rfl h, i9⟩
theorem sByte_I {t : Nat} (ht : t = 17 ∨ t = 24) {M : Mm} {p b : Int} (hI : sI t M) (h0 : sByte t M p b 16 0 = 0) : sI t (sByte t M p b) := by
  unfold sByte at h0 ⊢
  split
  · next c => rw [if_pos c] at h0; exact sLetter_I ht (sI_off ht hI) h0
  · next c => rw [if_neg c] at h0; exact sMark_I ht (sI_w0 ht (sI_off ht hI)) mput_eq h0
theorem sClear_I {t : Nat} (ht : t = 17 ∨ t = 24) (M : Mm) : sI t (sClear t M) := by
  unfold sI sClear
  simp (disch := omega) only [mput_ne, mput_nk, mput_eq]
  exact ⟨by omega, by omega, by omega, fun h => absurd rfl h, fun h => absurd rfl h, by omega⟩
theorem sClear_ne {t a : Nat} {M : Mm} (h : offT t a) : sClear t M a = M a := by
  unfold sClear; simp (disch := omega) only [mput_ne]
theorem sIt_I {t : Nat} (ht : t = 17 ∨ t = 24) (M : Mm) (h0 : sI t M) : ∀ k, sIt t M k 16 0 = 0 → sI t (sIt t M k) := by
  intro k
  induction k with
  | zero => intro _; exact h0
  | succ k ih =>
    intro h
    rw [sIt] at h ⊢
    split
    · next c => rw [if_pos c] at h; exact sByte_I ht (ih c) h
    · next c => rw [if_neg c] at h; exact absurd h c

set_option maxRecDepth 20000 in
set_option maxHeartbeats 4000000 in
theorem ct_X6_scan (E : Ev) (t : Nat) (ht : t = 17 ∨ t = 24) (M : Mm) (hs : 0 ≤ M 1 1 ∧ M 1 1 ≤ 3000) : Ct E yX6_scan cX6_scan 5 none 4 [zr E 16, zr E 1, zr E t] M (pV (fun M' => M' = sFin (sIt t (sClear t M) (M 1 1).toNat) t (M 1 1))) := by
  refine Ct.of (own := RX6) (lv0 := [some (zr E 16), some (zr E 1), some (zr E t), none, none]) (by decide) rfl (Nat.le_of_ble_eq_true rfl) rfl (fun κ C => ?_)
  obtain ⟨l1, l2, l3, l4, l5, l6⟩ := lnT ht
  have L77 : ∀ (p : Int) (u4 : Option Value), Gm E κ (pV (fun M' => M' = sFin (sIt t (sClear t M) (M 1 1).toNat) t (M 1 1))) 5 77 [some (zr E 16), some (zr E 1), some (zr E t), some (zi p), u4] [] (sIt t (sClear t M) (M 1 1).toNat) := by
    intro p u4 
    have e1 : sIt t (sClear t M) (M 1 1).toNat 1 = M 1 := by rw [sIt_ne (by omega), sClear_ne (by omega)]
    refine s_aload_n C dX6_scan_77 rfl ?_
    refine s_geti (k := 0) (j := 0) C dX6_scan_78 fl_X6_24 (by decide) rfl (by decide) rfl (rfl) (fun r78 => ?_)
    refine s_if_ne (tgt := 108) C dX6_scan_81 (by decide) (by omega) (fun c81 => ?_) (fun c81 => ?_)
    · skip
      exact s_return C dX6_scan_108 (⟨rfl, by unfold sFin; first | (rw [if_pos ⟨by omega, by omega⟩]; done) | (rw [if_neg (fun q => by omega)]; done)⟩)
    · skip
      refine s_aload_n C dX6_scan_84 rfl ?_
      refine s_getz (k := 3) (j := 3) C dX6_scan_85 fl_X6_56 (by decide) rfl (by decide) rfl (rfl) (fun r85 => ?_)
      refine s_if_ne (tgt := 98) C dX6_scan_88 (by decide) (by omega) (fun c88 => ?_) (fun c88 => ?_)
      · skip
        refine s_aload_n C dX6_scan_98 rfl ?_
        refine s_bipush C dX6_scan_99 (by decide) ?_
        refine s_aload_n C dX6_scan_101 rfl ?_
        refine s_geti (k := 1) (j := 1) (z := M 1 1) C dX6_scan_102 fl_X6_19 (by decide) rfl (by decide) rfl (by rw [e1]) (fun r102 => ?_)
        refine s_callV2 C dX6_scan_105 cy_X6_note cv_X6_note lk_X6_62 (ct_X6_note E _ 6 (M 1 1) (by decide) (by omega)) (by decide) (by decide) (by first | decide | (decide)) rfl (Nat.le_of_ble_eq_true rfl) (k_V (fun M105 q105 => ?_))
        subst q105
        exact s_return C dX6_scan_108 (⟨rfl, by unfold sFin; first | (rw [if_pos ⟨by omega, by omega⟩]; done) | (rw [if_neg (fun q => by omega)]; done)⟩)
      · skip
        refine s_aload_n C dX6_scan_91 rfl ?_
        refine s_geti (k := 7) (j := 7) C dX6_scan_92 fl_X6_59 (by rcases ht with rfl | rfl <;> decide) (by rcases ht with rfl | rfl <;> decide) (by decide) rfl (rfl) (fun r92 => ?_)
        refine s_if_ne (tgt := 108) C dX6_scan_95 (by decide) (by omega) (fun c95 => ?_) (fun c95 => ?_)
        · skip
          exact s_return C dX6_scan_108 (⟨rfl, by unfold sFin; first | (rw [if_pos ⟨by omega, by omega⟩]; done) | (rw [if_neg (fun q => by omega)]; done)⟩)
        · skip
          refine s_aload_n C dX6_scan_98 rfl ?_
          refine s_bipush C dX6_scan_99 (by decide) ?_
          refine s_aload_n C dX6_scan_101 rfl ?_
          refine s_geti (k := 1) (j := 1) (z := M 1 1) C dX6_scan_102 fl_X6_19 (by decide) rfl (by decide) rfl (by rw [e1]) (fun r102 => ?_)
          refine s_callV2 C dX6_scan_105 cy_X6_note cv_X6_note lk_X6_62 (ct_X6_note E _ 6 (M 1 1) (by decide) (by omega)) (by decide) (by decide) (by first | decide | (decide)) rfl (Nat.le_of_ble_eq_true rfl) (k_V (fun M105 q105 => ?_))
          subst q105
          exact s_return C dX6_scan_108 (⟨rfl, by unfold sFin; first | (rw [if_pos ⟨by omega, by omega⟩]; done) | (rw [if_neg (fun q => by omega)]; done)⟩)
  have L7 : ∀ (n9 : Nat) (k : Nat) (p : Int) (u4 : Option Value) (hp : p = (k : Int)) (hk : (k : Int) ≤ M 1 1) (hm : (M 1 1 - p).toNat < n9), Gm E κ (pV (fun M' => M' = sFin (sIt t (sClear t M) (M 1 1).toNat) t (M 1 1))) 5 7 [some (zr E 16), some (zr E 1), some (zr E t), some (zi p), u4] [] (sIt t (sClear t M) k) := by
    intro n9
    induction n9 with
    | zero => intro k p u4 hp hk hm; exact absurd hm (Nat.not_lt_zero _)
    | succ n9 ih7 =>
      intro k p u4 hp hk hm
      have e1 : (sIt t (sClear t M) k) 1 = M 1 := by rw [sIt_ne (by omega), sClear_ne (by omega)]
      have e2 : (sIt t (sClear t M) k) 2 = M 2 := by rw [sIt_ne (by omega), sClear_ne (by omega)]
      have e2c : sClear t M 2 = M 2 := sClear_ne (by omega)
      have L71 : ∀ (M1 : Mm) (u4 : Option Value) (hM1 : M1 = sIt t (sClear t M) (k + 1)) (hlt : (k : Int) < M 1 1), Gm E κ (pV (fun M' => M' = sFin (sIt t (sClear t M) (M 1 1).toNat) t (M 1 1))) 5 71 [some (zr E 16), some (zr E 1), some (zr E t), some (zi p), u4] [] M1 := by
        intro M1 u4 hM1 hlt
        refine s_iinc (lv' := [_, _, _, _, _]) C dX6_scan_71 rfl (by decide) rfl rfl rfl ?_
        refine s_goto (tgt := 7) C dX6_scan_74 (by decide) ?_
        subst hM1
        exact ih7 (k + 1) _ _ (by omega) (by omega) (by omega)
      refine s_iload_n C dX6_scan_7 rfl ?_
      refine s_aload_n C dX6_scan_8 rfl ?_
      refine s_geti (k := 1) (j := 1) (z := M 1 1) C dX6_scan_9 fl_X6_19 (by decide) rfl (by decide) rfl (by rw [e1]) (fun r9 => ?_)
      refine s_icmp_ge (tgt := 77) C dX6_scan_12 (by decide) (by omega) (by omega) (fun c12 => ?_) (fun c12 => ?_)
      · skip
        rw [show k = (M 1 1).toNat by omega]
        exact L77 _ _
      · skip
        refine s_aload_n C dX6_scan_15 rfl ?_
        refine s_geti (k := 0) (j := 0) C dX6_scan_16 fl_X6_24 (by decide) rfl (by decide) rfl (rfl) (fun r16 => ?_)
        refine s_if_ne (tgt := 77) C dX6_scan_19 (by decide) (by omega) (fun c19 => ?_) (fun c19 => ?_)
        · skip
          have e : sIt t (sClear t M) (M 1 1).toNat = sIt t (sClear t M) k := by
            rw [show (M 1 1).toNat = k + ((M 1 1).toNat - k) by omega]
            exact sIt_stay c19 _
          rw [← e]
          exact L77 _ _
        · skip
          have hI := sIt_I ht _ (sClear_I ht M) k c19
          refine s_aload_n C dX6_scan_22 rfl ?_
          refine s_getr (k := 0) (b := 2) C dX6_scan_23 fl_X6_27 (by decide) rfl (by decide) rfl ?_
          refine s_iload_n C dX6_scan_26 rfl ?_
          refine s_iaload (n := 3000) (z := M 2 p) C dX6_scan_27 (by decide) rfl rfl (by omega) (by omega) (by omega) (by rw [e2]) (fun r27 => ?_)
          refine s_callS1 C dX6_scan_28 cy_X10_smallLetter cs_X10_smallLetter lk_X6_31 (ct_X10_smallLetter E _ (M 2 p) (by omega)) (by decide) (Nat.le_of_ble_eq_true rfl) (k_P (fun z28 q28 => ?_))
          subst q28
          refine s_istore (lv' := [_, _, _, _, _]) C dX6_scan_31 (by decide) rfl rfl ?_
          refine s_aload_n C dX6_scan_33 rfl ?_
          refine s_getr (k := 0) (b := t + 1) C dX6_scan_34 fl_X6_35 (by rcases ht with rfl | rfl <;> decide) (by rcases ht with rfl | rfl <;> decide) (by decide) (by rcases ht with rfl | rfl <;> decide) ?_
          refine s_iload_n C dX6_scan_37 rfl ?_
          refine s_iload C dX6_scan_38 rfl ?_
          refine s_iastore C dX6_scan_40 (by rcases ht with rfl | rfl <;> decide) (by rcases ht with rfl | rfl <;> decide) rfl (by omega) (by omega) (by omega) (rg_low (by omega)) ?_
          refine s_iload C dX6_scan_41 rfl ?_
          refine s_callS1 C dX6_scan_43 cy_X10_isOfWords cs_X10_isOfWords lk_X6_40 (ct_X10_isOfWords E _ (low (M 2 p)) (rg_low (by omega))) (by decide) (Nat.le_of_ble_eq_true rfl) (k_P (fun z43 q43 => ?_))
          refine s_if_eq (tgt := 58) C dX6_scan_46 (by decide) (by rcases q43 with q | q <;> omega) (fun c46 => ?_) (fun c46 => ?_)
          · skip
            refine s_aload_n C dX6_scan_58 rfl ?_
            refine s_iconst C dX6_scan_59 ?_
            refine s_putz (k := 2) (j := 2) C dX6_scan_60 fp_X6_48 (by decide) rfl rfl rfl (by decide) ?_
            refine s_aload_n C dX6_scan_63 rfl ?_
            refine s_aload_n C dX6_scan_64 rfl ?_
            refine s_iload_n C dX6_scan_65 rfl ?_
            refine s_iload C dX6_scan_66 rfl ?_
            refine s_callV3 C dX6_scan_68 cy_X6_takeMark cv_X6_takeMark lk_X6_52 (ct_X6_takeMark E t ht _ p (low (M 2 p)) (by omega) (rg_low (by omega))) (by decide) (by decide) (by first | decide | (decide)) rfl (Nat.le_of_ble_eq_true rfl) (k_V (fun M68 q68 => ?_))
            exact L71 _ _ (by rw [q68, sIt, if_pos c19, hp, e2c]; unfold sByte; rw [if_neg (by rcases q43 with ⟨g, _⟩ | ⟨_, g⟩; omega; rw [← hp]; exact g)]) (by first | assumption | omega)
          · skip
            refine s_aload_n C dX6_scan_49 rfl ?_
            refine s_aload_n C dX6_scan_50 rfl ?_
            refine s_iload_n C dX6_scan_51 rfl ?_
            refine s_callV2 C dX6_scan_52 cy_X6_takeLetter cv_X6_takeLetter lk_X6_44 (ct_X6_takeLetter E t ht _ p (by omega) (sI_off ht hI)) (by decide) (by decide) (by first | decide | (decide)) rfl (Nat.le_of_ble_eq_true rfl) (k_V (fun M52 q52 => ?_))
            refine s_goto (tgt := 71) C dX6_scan_55 (by decide) ?_
            exact L71 _ _ (by rw [q52, sIt, if_pos c19, hp, e2c]; unfold sByte; rw [if_pos (by rcases q43 with ⟨_, g⟩ | ⟨g, _⟩; rw [← hp]; exact g; omega)]) (by first | assumption | omega)
  refine s_aload_n C dX6_scan_0 rfl ?_
  refine s_aload_n C dX6_scan_1 rfl ?_
  refine s_callV1 C dX6_scan_2 cy_X6_clear cv_X6_clear lk_X6_15 (ct_X6_clear E t ht M) (by decide) (by decide) (by first | decide | (decide)) rfl (Nat.le_of_ble_eq_true rfl) (k_V (fun M2 q2 => ?_))
  subst q2
  refine s_iconst C dX6_scan_5 ?_
  refine s_istore_n (lv' := [_, _, _, _, _]) C dX6_scan_6 (by decide) rfl rfl ?_
  exact L7 _ 0 0 _ rfl (by omega) (Nat.lt_succ_self _)
