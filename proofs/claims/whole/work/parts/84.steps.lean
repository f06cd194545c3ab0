/-! STEPS of the class's scanner, cell by cell -/
theorem mput_ev (M : Mm) (i a : Nat) (k x b : Int) : mput M i k x a b = if a = i then (if b = k then x else M i b) else M a b := by
  unfold mput
  by_cases h : a = i
  · rw [if_pos h, if_pos h]
  · rw [if_neg h, if_neg h]
def Fst (t : Nat) (S S' : Mm) (p b pa : Int) : Prop := (S' 16 0 = 0 ∧ S' 16 1 = S 16 1 ∧ S' 16 2 = 1 ∧ S' 16 3 = 1 ∧ S' 16 4 = 0 ∧ S' 16 5 = 0 ∧ S' 16 6 = pa) ∧ (S' t 6 = S t 6 + 1 ∧ S' t 7 = S t 7 + 1) ∧ (∀ q, S' (t + 1) q = if q = p then b else S (t + 1) q) ∧ (∀ q, S' (t + 2) q = if q = S t 6 then p else S (t + 2) q) ∧ (∀ q, S' (t + 3) q = if q = S t 6 then 1 else S (t + 3) q) ∧ (∀ q, S' (t + 4) q = if q = S t 7 then S t 6 else S (t + 4) q) ∧ (∀ q, S' (t + 5) q = if q = S t 7 then 1 else S (t + 5) q) ∧ ∀ q, S' (t + 6) q = if q = S t 7 then pa else S (t + 6) q
theorem st_first {t : Nat} (ht : t = 17 ∨ t = 24) {S : Mm} {p b : Int} (h0 : S 16 0 = 0) (h2 : S 16 2 = 0) (h3 : S 16 3 = 0) (h7 : S t 7 < 24) (hb : ofW b) : Fst t S (sByte t S p b) p b (if S 16 5 = 0 then S 16 6 else S 16 6 + 1) := by
  have h7' : ¬ 24 ≤ S t 7 := by omega
  unfold Fst
  rcases ht with rfl | rfl
  · refine ⟨⟨?_, ?_, ?_, ?_, ?_, ?_, ?_⟩, ⟨?_, ?_⟩, fun q => ?_, fun q => ?_, fun q => ?_, fun q => ?_, fun q => ?_, fun q => ?_⟩ <;> simp only [sByte, if_pos hb, sLetter, sWord, sWord1, sSent, sWord2, mput_ev, Nat.reduceAdd, Nat.reduceEqDiff, if_true, if_false, Int.reduceEq, h0, h2, h3, h7', Int.add_sub_cancel, Int.reduceAdd] <;> (repeat' split) <;> first | rfl | omega | (simp_all; done)
  · refine ⟨⟨?_, ?_, ?_, ?_, ?_, ?_, ?_⟩, ⟨?_, ?_⟩, fun q => ?_, fun q => ?_, fun q => ?_, fun q => ?_, fun q => ?_, fun q => ?_⟩ <;> simp only [sByte, if_pos hb, sLetter, sWord, sWord1, sSent, sWord2, mput_ev, Nat.reduceAdd, Nat.reduceEqDiff, if_true, if_false, Int.reduceEq, h0, h2, h3, h7', Int.add_sub_cancel, Int.reduceAdd] <;> (repeat' split) <;> first | rfl | omega | (simp_all; done)
def Wrd (t : Nat) (S S' : Mm) (p b : Int) : Prop := (S' 16 0 = 0 ∧ S' 16 1 = S 16 1 ∧ S' 16 2 = 1 ∧ S' 16 3 = S 16 3 ∧ S' 16 4 = S 16 4 ∧ S' 16 5 = S 16 5 ∧ S' 16 6 = S 16 6) ∧ (S' t 6 = S t 6 + 1 ∧ S' t 7 = S t 7) ∧ (∀ q, S' (t + 1) q = if q = p then b else S (t + 1) q) ∧ (∀ q, S' (t + 2) q = if q = S t 6 then p else S (t + 2) q) ∧ (∀ q, S' (t + 3) q = if q = S t 6 then 1 else S (t + 3) q) ∧ S' (t + 4) = S (t + 4) ∧ (∀ q, S' (t + 5) q = if q = S t 7 - 1 then S (t + 5) (S t 7 - 1) + 1 else S (t + 5) q) ∧ S' (t + 6) = S (t + 6)
theorem st_word {t : Nat} (ht : t = 17 ∨ t = 24) {S : Mm} {p b : Int} (h0 : S 16 0 = 0) (h2 : S 16 2 = 0) (h3 : S 16 3 = 1) (h5 : S (t + 5) (S t 7 - 1) < 40) (hb : ofW b) : Wrd t S (sByte t S p b) p b := by
  have h5' : ¬ 40 ≤ S (t + 5) (S t 7 - 1) := by omega
  unfold Wrd
  rcases ht with rfl | rfl
  · simp only [Nat.reduceAdd] at h5'
    refine ⟨⟨?_, ?_, ?_, ?_, ?_, ?_, ?_⟩, ⟨?_, ?_⟩, fun q => ?_, fun q => ?_, fun q => ?_, funext (fun q => ?_), fun q => ?_, funext (fun q => ?_)⟩ <;> simp only [sByte, if_pos hb, sLetter, sWord, sWord1, sWord2, mput_ev, Nat.reduceAdd, Nat.reduceEqDiff, if_true, if_false, Int.reduceEq, h0, h2, h3, h5'] <;> (repeat' split) <;> first | rfl | omega
  · simp only [Nat.reduceAdd] at h5'
    refine ⟨⟨?_, ?_, ?_, ?_, ?_, ?_, ?_⟩, ⟨?_, ?_⟩, fun q => ?_, fun q => ?_, fun q => ?_, funext (fun q => ?_), fun q => ?_, funext (fun q => ?_)⟩ <;> simp only [sByte, if_pos hb, sLetter, sWord, sWord1, sWord2, mput_ev, Nat.reduceAdd, Nat.reduceEqDiff, if_true, if_false, Int.reduceEq, h0, h2, h3, h5'] <;> (repeat' split) <;> first | rfl | omega
def Ltr (t : Nat) (S S' : Mm) (p b : Int) : Prop := S' 16 = S 16 ∧ S' t = S t ∧ (∀ q, S' (t + 1) q = if q = p then b else S (t + 1) q) ∧ S' (t + 2) = S (t + 2) ∧ (∀ q, S' (t + 3) q = if q = S t 6 - 1 then S (t + 3) (S t 6 - 1) + 1 else S (t + 3) q) ∧ S' (t + 4) = S (t + 4) ∧ S' (t + 5) = S (t + 5) ∧ S' (t + 6) = S (t + 6)
theorem st_letter {t : Nat} (ht : t = 17 ∨ t = 24) {S : Mm} {p b : Int} (h2 : S 16 2 = 1) (h3 : S (t + 3) (S t 6 - 1) < 16) (hb : ofW b) : Ltr t S (sByte t S p b) p b := by
  have h3' : ¬ 16 ≤ S (t + 3) (S t 6 - 1) := by omega
  unfold Ltr
  rcases ht with rfl | rfl
  · simp only [Nat.reduceAdd] at h3'
    refine ⟨funext (fun q => ?_), funext (fun q => ?_), fun q => ?_, funext (fun q => ?_), fun q => ?_, funext (fun q => ?_), funext (fun q => ?_), funext (fun q => ?_)⟩ <;> simp only [sByte, if_pos hb, sLetter, mput_ev, Nat.reduceAdd, Nat.reduceEqDiff, if_true, if_false, Int.reduceEq, h2, h3'] <;> (repeat' split) <;> first | rfl | omega
  · simp only [Nat.reduceAdd] at h3'
    refine ⟨funext (fun q => ?_), funext (fun q => ?_), fun q => ?_, funext (fun q => ?_), fun q => ?_, funext (fun q => ?_), funext (fun q => ?_), funext (fun q => ?_)⟩ <;> simp only [sByte, if_pos hb, sLetter, mput_ev, Nat.reduceAdd, Nat.reduceEqDiff, if_true, if_false, Int.reduceEq, h2, h3'] <;> (repeat' split) <;> first | rfl | omega
/-- a byte that is no letter: rows of the text stay, the flags are g -/
def Mrk (t : Nat) (S S' : Mm) (p b : Int) (g : Int → Int) : Prop := (∀ q, S' 16 q = g q) ∧ S' t = S t ∧ (∀ q, S' (t + 1) q = if q = p then b else S (t + 1) q) ∧ S' (t + 2) = S (t + 2) ∧ S' (t + 3) = S (t + 3) ∧ S' (t + 4) = S (t + 4) ∧ S' (t + 5) = S (t + 5) ∧ S' (t + 6) = S (t + 6)
def gEnd (S : Mm) (q : Int) : Int := if q = 3 then 0 else if q = 2 then 0 else S 16 q
def gCom (S : Mm) (q : Int) : Int := if q = 4 then 0 else if q = 2 then 0 else S 16 q
def gBlk (S : Mm) (q : Int) : Int := if q = 2 then 0 else S 16 q
def gLin (S : Mm) (s7 : Int) (q : Int) : Int := if S 16 3 = 0 ∧ 0 < s7 then (if q = 4 then 1 else if q = 5 then (if S 16 5 = 0 ∧ S 16 4 = 0 then 0 else 1) else if q = 2 then 0 else S 16 q) else if q = 2 then 0 else S 16 q
theorem st_end {t : Nat} (ht : t = 17 ∨ t = 24) {S : Mm} {p b : Int} (h3 : S 16 3 = 1) (hb : b = 46 ∨ b = 33 ∨ b = 63) : Mrk t S (sByte t S p b) p b (gEnd S) := by
  have n0 : ¬ ofW b := by unfold ofW; omega
  have n1 : ¬ b = 32 := by omega
  have n2 : ¬ b = 10 := by omega
  have n3 : ¬ (b = 44 ∨ b = 58 ∨ b = 59) := by omega
  unfold Mrk gEnd
  rcases ht with rfl | rfl <;> (refine ⟨fun q => ?_, funext (fun q => ?_), fun q => ?_, funext (fun q => ?_), funext (fun q => ?_), funext (fun q => ?_), funext (fun q => ?_), funext (fun q => ?_)⟩ <;> simp only [sByte, if_neg n0, sMark, if_neg n1, if_neg n2, if_neg n3, if_pos hb, sEnd, mput_ev, Nat.reduceAdd, Nat.reduceEqDiff, if_true, if_false, Int.reduceEq, h3])
theorem st_com {t : Nat} (ht : t = 17 ∨ t = 24) {S : Mm} {p b : Int} (hb : b = 44 ∨ b = 58 ∨ b = 59) : Mrk t S (sByte t S p b) p b (gCom S) := by
  have n0 : ¬ ofW b := by unfold ofW; omega
  have n1 : ¬ b = 32 := by omega
  have n2 : ¬ b = 10 := by omega
  unfold Mrk gCom
  rcases ht with rfl | rfl <;> (refine ⟨fun q => ?_, funext (fun q => ?_), fun q => ?_, funext (fun q => ?_), funext (fun q => ?_), funext (fun q => ?_), funext (fun q => ?_), funext (fun q => ?_)⟩ <;> simp only [sByte, if_neg n0, sMark, if_neg n1, if_neg n2, if_pos hb, mput_ev, Nat.reduceAdd, Nat.reduceEqDiff, if_true, if_false, Int.reduceEq])
theorem st_blk {t : Nat} (ht : t = 17 ∨ t = 24) {S : Mm} {p b : Int} (hb : b = 32) : Mrk t S (sByte t S p b) p b (gBlk S) := by
  have n0 : ¬ ofW b := by unfold ofW; omega
  unfold Mrk gBlk
  rcases ht with rfl | rfl <;> (refine ⟨fun q => ?_, funext (fun q => ?_), fun q => ?_, funext (fun q => ?_), funext (fun q => ?_), funext (fun q => ?_), funext (fun q => ?_), funext (fun q => ?_)⟩ <;> simp only [sByte, if_neg n0, sMark, if_pos hb, mput_ev, Nat.reduceAdd, Nat.reduceEqDiff, if_true, if_false, Int.reduceEq])
theorem st_lin {t : Nat} (ht : t = 17 ∨ t = 24) {S : Mm} {p b : Int} (hb : b = 10) : Mrk t S (sByte t S p b) p b (gLin S (S t 7)) := by
  have n0 : ¬ ofW b := by unfold ofW; omega
  have n1 : ¬ b = 32 := by omega
  unfold Mrk gLin
  rcases ht with rfl | rfl
  · by_cases c : S 16 3 = 0 ∧ 0 < S 17 7
    · refine ⟨fun q => ?_, funext (fun q => ?_), fun q => ?_, funext (fun q => ?_), funext (fun q => ?_), funext (fun q => ?_), funext (fun q => ?_), funext (fun q => ?_)⟩ <;> simp only [sByte, if_neg n0, sMark, if_neg n1, if_pos hb, sLine, mput_ev, Nat.reduceAdd, Nat.reduceEqDiff, if_true, if_false, Int.reduceEq, if_pos c]
    · refine ⟨fun q => ?_, funext (fun q => ?_), fun q => ?_, funext (fun q => ?_), funext (fun q => ?_), funext (fun q => ?_), funext (fun q => ?_), funext (fun q => ?_)⟩ <;> simp only [sByte, if_neg n0, sMark, if_neg n1, if_pos hb, sLine, mput_ev, Nat.reduceAdd, Nat.reduceEqDiff, if_true, if_false, Int.reduceEq, if_neg c]
  · by_cases c : S 16 3 = 0 ∧ 0 < S 24 7
    · refine ⟨fun q => ?_, funext (fun q => ?_), fun q => ?_, funext (fun q => ?_), funext (fun q => ?_), funext (fun q => ?_), funext (fun q => ?_), funext (fun q => ?_)⟩ <;> simp only [sByte, if_neg n0, sMark, if_neg n1, if_pos hb, sLine, mput_ev, Nat.reduceAdd, Nat.reduceEqDiff, if_true, if_false, Int.reduceEq, if_pos c]
    · refine ⟨fun q => ?_, funext (fun q => ?_), fun q => ?_, funext (fun q => ?_), funext (fun q => ?_), funext (fun q => ?_), funext (fun q => ?_), funext (fun q => ?_)⟩ <;> simp only [sByte, if_neg n0, sMark, if_neg n1, if_pos hb, sLine, mput_ev, Nat.reduceAdd, Nat.reduceEqDiff, if_true, if_false, Int.reduceEq, if_neg c]
/-- a fault, at p -/
theorem st_f4 {t : Nat} (ht : t = 17 ∨ t = 24) {S : Mm} {p b : Int} (h2 : S 16 2 = 0) (h3 : S 16 3 = 0) (h7 : 24 ≤ S t 7) (hb : ofW b) : sByte t S p b 16 0 = 4 ∧ sByte t S p b 16 1 = p := by
  rcases ht with rfl | rfl <;> constructor <;> simp only [sByte, if_pos hb, sLetter, sWord, sWord1, sSent, sNote, mput_ev, Nat.reduceAdd, Nat.reduceEqDiff, if_true, if_false, Int.reduceEq, h2, h3, h7]
theorem st_f3 {t : Nat} (ht : t = 17 ∨ t = 24) {S : Mm} {p b : Int} (h2 : S 16 2 = 0) (h3 : S 16 3 = 1) (h5 : 40 ≤ S (t + 5) (S t 7 - 1)) (hb : ofW b) : sByte t S p b 16 0 = 3 ∧ sByte t S p b 16 1 = p := by
  rcases ht with rfl | rfl <;> (simp only [Nat.reduceAdd] at h5; constructor <;> simp only [sByte, if_pos hb, sLetter, sWord, sWord1, sNote, mput_ev, Nat.reduceAdd, Nat.reduceEqDiff, if_true, if_false, Int.reduceEq, h2, h3, h5])
theorem st_f2 {t : Nat} (ht : t = 17 ∨ t = 24) {S : Mm} {p b : Int} (h2 : S 16 2 = 1) (h3 : 16 ≤ S (t + 3) (S t 6 - 1)) (hb : ofW b) : sByte t S p b 16 0 = 2 ∧ sByte t S p b 16 1 = p := by
  rcases ht with rfl | rfl <;> (simp only [Nat.reduceAdd] at h3; constructor <;> simp only [sByte, if_pos hb, sLetter, sNote, mput_ev, Nat.reduceAdd, Nat.reduceEqDiff, if_true, if_false, Int.reduceEq, h2, h3])
theorem st_f5 {t : Nat} (ht : t = 17 ∨ t = 24) {S : Mm} {p b : Int} (h3 : S 16 3 = 0) (hb : b = 46 ∨ b = 33 ∨ b = 63) : sByte t S p b 16 0 = 5 ∧ sByte t S p b 16 1 = p := by
  have n0 : ¬ ofW b := by unfold ofW; omega
  have n1 : ¬ b = 32 := by omega
  have n2 : ¬ b = 10 := by omega
  have n3 : ¬ (b = 44 ∨ b = 58 ∨ b = 59) := by omega
  rcases ht with rfl | rfl <;> constructor <;> simp only [sByte, if_neg n0, sMark, if_neg n1, if_neg n2, if_neg n3, if_pos hb, sEnd, sNote, mput_ev, Nat.reduceAdd, Nat.reduceEqDiff, if_true, if_false, Int.reduceEq, h3]
theorem st_f1 {t : Nat} (ht : t = 17 ∨ t = 24) {S : Mm} {p b : Int} (n0 : ¬ ofW b) (n1 : ¬ b = 32) (n2 : ¬ b = 10) (n3 : ¬ (b = 44 ∨ b = 58 ∨ b = 59)) (n4 : ¬ (b = 46 ∨ b = 33 ∨ b = 63)) : sByte t S p b 16 0 = 1 ∧ sByte t S p b 16 1 = p := by
  rcases ht with rfl | rfl <;> constructor <;> simp only [sByte, if_neg n0, sMark, if_neg n1, if_neg n2, if_neg n3, if_neg n4, sNote, mput_ev, Nat.reduceAdd, Nat.reduceEqDiff, if_true, if_false, Int.reduceEq]
