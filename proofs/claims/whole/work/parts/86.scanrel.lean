/-! The class's scanner beside the reference's locals -/
def SS (t : Nat) (N : Mm) (k : Nat) : Mm := sIt t (sClear t N) k
def sb (x : Int) : Int := if x < 128 then x else x - 256
theorem SS_s {t : Nat} (ht : t = 17 ∨ t = 24) {N : Mm} {k : Nat} (h : SS t N k 16 0 = 0) : SS t N (k + 1) = sByte t (SS t N k) (k : Int) (low (N 2 (k : Int))) := by
  have e : sClear t N 2 = N 2 := sClear_ne (by omega)
  unfold SS at *
  rw [sIt, if_pos h, e]
theorem SS_f {t : Nat} {N : Mm} {k n : Nat} {v p : Int} (hn : N 1 1 = (n : Int)) (hk : k ≤ n) (hv : v ≠ 0) (h0 : SS t N k 16 0 = v) (h1 : SS t N k 16 1 = p) : rScan N t 16 0 = v ∧ rScan N t 16 1 = p := by
  have e : sIt t (sClear t N) n = sIt t (sClear t N) k := by
    have := sIt_stay (t := t) (M := sClear t N) (k := k) (by unfold SS at h0; rw [h0]; exact hv) (n - k)
    rwa [show k + (n - k) = n by omega] at this
  unfold SS at *
  unfold rScan sFin
  rw [hn, Int.toNat_natCast, e, if_neg (fun q => hv (by rw [← h0]; exact q.1))]
  exact ⟨h0, h1⟩
theorem chr {b : Int} (hb : 0 ≤ b ∧ b ≤ 255) : (ofM (sb b) ↔ ofW (low b)) ∧ (ofM (sb b) → low (sb b) = low b) ∧ ∀ v, (v = 46 ∨ v = 33 ∨ v = 63 ∨ v = 10 ∨ v = 44 ∨ v = 59 ∨ v = 58 ∨ v = 32) → (sb b = v ↔ low b = v) := by
  unfold ofM ofW low sb
  refine ⟨?_, ?_, fun v hv => ?_⟩
  · constructor <;> intro h <;> (repeat' split at *) <;> omega
  · intro h; (repeat' split at *) <;> omega
  · constructor <;> intro h <;> (repeat' split at *) <;> omega
def LR (t : Nat) (S : Mm) (se o pa li tu k : Int) : Prop := (S 16 0 = 0 ∧ S 16 1 = -1) ∧ (S 16 3 = if o = 0 then 0 else 1) ∧ (S t 7 = if o = 0 then se else se + 1) ∧ (o ≠ 0 → S (t + 5) se = o) ∧ (S 16 6 = pa ∧ S 16 5 = tu) ∧ (o ≠ 0 → S 16 4 = 0 ∧ tu = 0) ∧ (o = 0 → se = 0 → S 16 4 = 0 ∧ tu = 0) ∧ (o = 0 → se ≠ 0 → (S 16 4 = 1 ∧ 1 ≤ li) ∨ (S 16 4 = 0 ∧ li = 0)) ∧ (0 ≤ li ∧ li ≤ k) ∧ (0 ≤ o ∧ o ≤ 40) ∧ (0 ≤ se ∧ se ≤ 24) ∧ (o ≠ 0 → se < 24) ∧ (tu = 0 ∨ tu = 1) ∧ (0 ≤ pa ∧ pa ≤ S t 7)
def InW (t : Nat) (S : Mm) (se o pa sz k : Int) : Prop := (S 16 0 = 0 ∧ S 16 1 = -1) ∧ (S 16 2 = 1 ∧ S 16 3 = 1 ∧ S 16 4 = 0 ∧ S 16 5 = 0 ∧ S 16 6 = pa) ∧ (S t 7 = se + 1 ∧ 1 ≤ S t 6) ∧ S (t + 5) se = o + 1 ∧ S (t + 3) (S t 6 - 1) = sz ∧ S (t + 2) (S t 6 - 1) + sz = k ∧ (0 ≤ pa ∧ pa ≤ se + 1) ∧ (1 ≤ sz ∧ sz ≤ 16) ∧ (0 ≤ o ∧ o < 40) ∧ (0 ≤ se ∧ se < 24)
theorem LR.num {t : Nat} {S : Mm} {se o pa li tu k : Int} (h : LR t S se o pa li tu k) : (0 ≤ li ∧ li ≤ k) ∧ (0 ≤ o ∧ o ≤ 40) ∧ (0 ≤ se ∧ se ≤ 24) ∧ (tu = 0 ∨ tu = 1) ∧ (0 ≤ pa ∧ pa ≤ 25) ∧ (o ≠ 0 → tu = 0 ∧ se < 24) := by
  obtain ⟨h0, h3, h7, h5, h6, h8, h9, h10, h11, h12, h13, h14, h15, h16⟩ := h
  refine ⟨h11, h12, h13, h15, ?_, fun c => ⟨(h8 c).2, h14 c⟩⟩
  split at h7 <;> omega
theorem LR.first {t : Nat} {S S' : Mm} {se pa li tu k b : Int} (hX : TX t S k) (h : LR t S se 0 pa li tu k) (hse : se ≠ 24) (q : Fst t S S' k b (if S 16 5 = 0 then S 16 6 else S 16 6 + 1)) : InW t S' se 0 (if tu = 0 then pa else pa + 1) 1 (k + 1) := by
  obtain ⟨h0, h3, h7, h5, h6, h8, h9, h10, h11, h12, h13, h14, h15, h16⟩ := h
  obtain ⟨⟨f0, f1, f2, f3, f4, f5, f6⟩, ⟨q6, q7⟩, q1, q2, q3, q4, q5, q8⟩ := q
  rw [if_pos rfl] at h7
  rw [h6.1, h6.2] at f6
  have hx2 := hX.2.1
  refine ⟨⟨f0, by rw [f1]; exact h0.2⟩, ⟨f2, f3, f4, f5, f6⟩, ⟨by rw [q7, h7], by rw [q6]; omega⟩, ?_, ?_, ?_, ?_, by omega, by omega, by omega⟩
  · rw [q5, if_pos h7.symm]; rfl
  · rw [q6, q3, if_pos (by omega)]
  · rw [q6, q2, if_pos (by omega)]
  · rcases h15 with e | e
    · rw [if_pos e]; omega
    · rw [if_neg (by omega)]; omega
theorem LR.word {t : Nat} {S S' : Mm} {se o pa li tu k b : Int} (hX : TX t S k) (h : LR t S se o pa li tu k) (ho : o ≠ 0) (h40 : o ≠ 40) (q : Wrd t S S' k b) : InW t S' se o pa 1 (k + 1) := by
  obtain ⟨h0, h3, h7, h5, h6, h8, h9, h10, h11, h12, h13, h14, h15, h16⟩ := h
  obtain ⟨⟨f0, f1, f2, f3, f4, f5, f6⟩, ⟨q6, q7⟩, q1, q2, q3, q4, q5, q8⟩ := q
  rw [if_neg ho] at h7 h3
  have hx2 := hX.2.1
  have h8' := h8 ho
  have h14' := h14 ho
  refine ⟨⟨f0, by rw [f1]; exact h0.2⟩, ⟨f2, by rw [f3]; exact h3, by rw [f4]; exact h8'.1, by rw [f5, h6.2]; exact h8'.2, by rw [f6]; exact h6.1⟩, ⟨by rw [q7]; exact h7, by rw [q6]; omega⟩, ?_, ?_, ?_, by omega, by omega, by omega, by omega⟩
  · rw [q5, if_pos (by omega), show S t 7 - 1 = se by omega, h5 ho]
  · rw [q6, q3, if_pos (by omega)]
  · rw [q6, q2, if_pos (by omega)]
theorem InW.ltr {t : Nat} {S S' : Mm} {se o pa sz k b : Int} (h : InW t S se o pa sz k) (h16 : sz ≠ 16) (q : Ltr t S S' k b) : InW t S' se o pa (sz + 1) (k + 1) := by
  obtain ⟨h0, h1, h2, h3, h4, h5, h6, h7, h8, h9⟩ := h
  obtain ⟨q0, q2, q1, q4, q3, q5, q6, q7⟩ := q
  unfold InW
  rw [q0, q2, q4, q6, q3, if_pos rfl]
  exact ⟨h0, h1, h2, h3, by omega, by omega, h6, by omega, h8, h9⟩
theorem InW.out {t : Nat} {S : Mm} {se o pa sz k : Int} (hk : 0 ≤ k) (h : InW t S se o pa sz k) : LR t S se (o + 1) pa 0 0 k := by
  obtain ⟨h0, h1, h2, h3, h4, h5, h6, h7, h8, h9⟩ := h
  have hne : ¬ o + 1 = 0 := by omega
  refine ⟨h0, by rw [if_neg hne]; exact h1.2.1, by rw [if_neg hne]; exact h2.1, fun _ => h3, ⟨h1.2.2.2.2, h1.2.2.2.1⟩, fun _ => ⟨h1.2.2.1, rfl⟩, fun e => absurd e hne, fun e => absurd e hne, by omega, by omega, by omega, fun _ => h9.2, Or.inl rfl, by omega⟩
theorem LR.endS {t : Nat} {S S' : Mm} {se o pa li tu k b : Int} (h : LR t S se o pa li tu k) (ho : o ≠ 0) (hk : 0 ≤ k) (q : Mrk t S S' k b (gEnd S)) : LR t S' (se + 1) 0 pa 0 tu (k + 1) := by
  obtain ⟨h0, h3, h7, h5, h6, h8, h9, h10, h11, h12, h13, h14, h15, h16⟩ := h
  obtain ⟨q0, q2, _⟩ := q
  rw [if_neg ho] at h7
  have h14' := h14 ho
  have h8' := h8 ho
  have g : ∀ x : Int, x ≠ 2 → x ≠ 3 → S' 16 x = S 16 x := fun x x2 x3 => by rw [q0]; unfold gEnd; rw [if_neg x3, if_neg x2]
  refine ⟨⟨by rw [g 0 (by decide) (by decide)]; exact h0.1, by rw [g 1 (by decide) (by decide)]; exact h0.2⟩, by rw [q0]; rfl, by rw [q2, if_pos rfl]; exact h7, fun e => absurd rfl e, ⟨by rw [g 6 (by decide) (by decide)]; exact h6.1, by rw [g 5 (by decide) (by decide)]; exact h6.2⟩, fun e => absurd rfl e, fun _ e => by omega, fun _ _ => Or.inr ⟨by rw [g 4 (by decide) (by decide)]; exact h8'.1, rfl⟩, by omega, by omega, by omega, fun e => absurd rfl e, h15, by rw [q2]; exact h16⟩
theorem LR.com {t : Nat} {S S' : Mm} {se o pa li tu k b : Int} (h : LR t S se o pa li tu k) (hk : 0 ≤ k) (q : Mrk t S S' k b (gCom S)) : LR t S' se o pa 0 tu (k + 1) := by
  obtain ⟨h0, h3, h7, h5, h6, h8, h9, h10, h11, h12, h13, h14, h15, h16⟩ := h
  obtain ⟨q0, q2, _, _, _, _, q6, _⟩ := q
  have g : ∀ x : Int, x ≠ 2 → x ≠ 4 → S' 16 x = S 16 x := fun x x2 x3 => by rw [q0]; unfold gCom; rw [if_neg x3, if_neg x2]
  have g4 : S' 16 4 = 0 := by rw [q0]; rfl
  refine ⟨⟨by rw [g 0 (by decide) (by decide)]; exact h0.1, by rw [g 1 (by decide) (by decide)]; exact h0.2⟩, by rw [g 3 (by decide) (by decide)]; exact h3, by rw [q2]; exact h7, fun e => by rw [q6]; exact h5 e, ⟨by rw [g 6 (by decide) (by decide)]; exact h6.1, by rw [g 5 (by decide) (by decide)]; exact h6.2⟩, fun e => ⟨g4, (h8 e).2⟩, fun e e2 => ⟨g4, (h9 e e2).2⟩, fun _ _ => Or.inr ⟨g4, rfl⟩, by omega, h12, h13, h14, h15, by rw [q2]; exact h16⟩
theorem LR.blk {t : Nat} {S S' : Mm} {se o pa li tu k b : Int} (h : LR t S se o pa li tu k) (q : Mrk t S S' k b (gBlk S)) : LR t S' se o pa li tu (k + 1) := by
  obtain ⟨h0, h3, h7, h5, h6, h8, h9, h10, h11, h12, h13, h14, h15, h16⟩ := h
  obtain ⟨q0, q2, _, _, _, _, q6, _⟩ := q
  have g : ∀ x : Int, x ≠ 2 → S' 16 x = S 16 x := fun x x2 => by rw [q0]; unfold gBlk; rw [if_neg x2]
  unfold LR
  rw [g 0 (by decide), g 1 (by decide), g 3 (by decide), g 4 (by decide), g 5 (by decide), g 6 (by decide), q2, q6]
  exact ⟨h0, h3, h7, h5, h6, h8, h9, h10, by omega, h12, h13, h14, h15, h16⟩
theorem LR.lin {t : Nat} {S S' : Mm} {se o pa li tu tu2 k b : Int} (h : LR t S se o pa li tu k) (hk : 0 ≤ k) (q : Mrk t S S' k b (gLin S (S t 7))) (ht2 : tu2 = if 2 ≤ li + 1 ∧ o = 0 ∧ 0 < se then 1 else tu) : LR t S' se o pa (li + 1) tu2 (k + 1) := by
  obtain ⟨h0, h3, h7, h5, h6, h8, h9, h10, h11, h12, h13, h14, h15, h16⟩ := h
  obtain ⟨q0, q2, _, _, _, _, q6, _⟩ := q
  have g : ∀ x : Int, x ≠ 2 → x ≠ 4 → x ≠ 5 → S' 16 x = S 16 x := fun x x2 x3 x4 => by
    rw [q0]; unfold gLin
    split
    · first | rfl | rw [if_neg x3, if_neg x4, if_neg x2]
    · first | rfl | rw [if_neg x2]
  have gg : (S 16 3 = 0 ∧ 0 < S t 7 ∧ S' 16 4 = 1 ∧ S' 16 5 = (if S 16 5 = 0 ∧ S 16 4 = 0 then 0 else 1)) ∨ (¬ (S 16 3 = 0 ∧ 0 < S t 7) ∧ S' 16 4 = S 16 4 ∧ S' 16 5 = S 16 5) := by
    by_cases c : S 16 3 = 0 ∧ 0 < S t 7
    · left
      refine ⟨c.1, c.2, ?_, ?_⟩ <;> (rw [q0]; unfold gLin; rw [if_pos c]; rfl)
    · right
      refine ⟨c, ?_, ?_⟩ <;> (rw [q0]; unfold gLin; rw [if_neg c]; rfl)
  have e0 := g 0 (by decide) (by decide) (by decide)
  have e1 := g 1 (by decide) (by decide) (by decide)
  have e3 := g 3 (by decide) (by decide) (by decide)
  have e6 := g 6 (by decide) (by decide) (by decide)
  unfold LR
  rw [e0, e1, e3, e6, q2, q6]
  by_cases ho : o = 0
  · have h9' := h9 ho
    have h10' := h10 ho
    rw [if_pos ho] at h3 h7
    by_cases hs : se = 0
    · have h9'' := h9' hs
      rw [if_neg (by omega)] at ht2
      rcases gg with ⟨_, g2, _⟩ | ⟨_, g2, g3⟩
      · omega
      · rw [g2, g3, if_pos ho, if_pos ho]
        exact ⟨h0, h3, h7, h5, ⟨h6.1, by omega⟩, fun e => absurd ho e, fun _ _ => ⟨h9''.1, by omega⟩, fun _ e => absurd hs e, by omega, h12, h13, h14, by omega, h16⟩
    · have h10'' := h10' hs
      rcases gg with ⟨g1, g2, g3, g4⟩ | ⟨g1, _⟩
      · rw [g3, g4, if_pos ho, if_pos ho]
        have h5' := h6.2
        refine ⟨h0, h3, h7, h5, ⟨h6.1, ?_⟩, fun e => absurd ho e, fun _ e => absurd e hs, fun _ _ => Or.inl ⟨rfl, by omega⟩, by omega, h12, h13, h14, ?_, h16⟩
        · rw [ht2]
          rcases h10'' with ⟨a1, a2⟩ | ⟨a1, a2⟩
          · rw [if_neg (by omega), if_pos (by omega)]
          · rw [if_neg (show ¬ (2 ≤ li + 1 ∧ o = 0 ∧ 0 < se) by omega)]
            rcases h15 with e | e
            · rw [if_pos (by omega)]; omega
            · rw [if_neg (by omega)]; omega
        · rw [ht2]; split <;> omega
      · exact absurd ⟨h3, by omega⟩ g1
  · have h8' := h8 ho
    rw [if_neg ho] at h3
    rw [if_neg (by omega)] at ht2
    rcases gg with ⟨g1, _⟩ | ⟨_, g2, g3⟩
    · omega
    · rw [g2, g3, if_neg ho]
      exact ⟨h0, h3, h7, h5, ⟨h6.1, by omega⟩, fun _ => ⟨h8'.1, by omega⟩, fun e => absurd e ho, fun e => absurd e ho, by omega, h12, h13, h14, by omega, h16⟩
theorem LR.init {t : Nat} (ht : t = 17 ∨ t = 24) (N : Mm) : LR t (SS t N 0) 0 0 0 0 0 0 ∧ TX t (SS t N 0) 0 ∧ SS t N 0 16 2 = 0 := by
  unfold SS
  rw [sIt]
  have c : sClear t N 16 0 = 0 ∧ sClear t N 16 1 = -1 ∧ sClear t N 16 2 = 0 ∧ sClear t N 16 3 = 0 ∧ sClear t N 16 4 = 0 ∧ sClear t N 16 5 = 0 ∧ sClear t N 16 6 = 0 ∧ sClear t N t 6 = 0 ∧ sClear t N t 7 = 0 := by
    rcases ht with rfl | rfl <;> simp [sClear, mput_ev]
  obtain ⟨c0, c1, c2, c3, c4, c5, c6, c7, c8⟩ := c
  refine ⟨⟨⟨c0, c1⟩, by rw [c3]; rfl, by rw [c8]; rfl, fun e => absurd rfl e, ⟨c6, c5⟩, fun e => absurd rfl e, fun _ _ => ⟨c4, rfl⟩, fun _ e => absurd rfl e, by omega, by omega, by omega, fun e => absurd rfl e, Or.inl rfl, by rw [c8]; omega⟩, ⟨by rw [c8]; omega, by rw [c7, c8]; omega, fun w a b => by rw [c7] at b; omega, fun s a b => by rw [c8] at b; omega, fun s s' a b d => by rw [c8] at d; omega⟩, c2⟩
