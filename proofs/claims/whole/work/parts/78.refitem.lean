/-- the item that place i is of -/
def ItP (M : Mm) (r i h z : Int) : Prop := (i = h ∧ z = 0) ∨ (i ≠ h ∧ ((z = -1 ∧ ∀ k, 1 ≤ k → k < M 66 47 → ¬ Onw (M 95) r (M 98 k) i) ∨ (1 ≤ z ∧ z < M 66 47 ∧ Onw (M 95) r (M 98 z) i)))
theorem ItP.rg {M : Mm} {r i h z : Int} (hm : 1 ≤ M 66 47) (q : ItP M r i h z) : -1 ≤ z ∧ z < M 66 47 := by
  rcases q with ⟨_, q⟩ | ⟨_, ⟨q, _⟩ | ⟨q1, q2, _⟩⟩ <;> omega
theorem ItP.sm {M A : Mm} {r i h z : Int} (e1 : A 66 47 = M 66 47) (e2 : A 95 = M 95) (e3 : A 98 = M 98) (q : ItP A r i h z) : ItP M r i h z := by
  unfold ItP at *
  rw [e1, e2, e3] at q
  exact q
theorem cntB_mono (f : Int → Bool) (a : Nat) : ∀ b : Nat, cntB f a ≤ cntB f (a + b) := by
  intro b
  induction b with
  | zero => exact Int.le_refl _
  | succ b ih =>
    rw [show a + (b + 1) = (a + b) + 1 by omega, cntB]
    split <;> omega
theorem bHu_s (f : Int → Int) (h : Int) (d : Nat) : bHu f h (d + 1) = bHu f h d + (if f (d : Int) = h then 1 else 0) := by
  unfold bHu
  rw [cntB]
  by_cases c : f (d : Int) = h
  · rw [if_pos c, if_pos (by simp [c])]
  · rw [if_neg c, if_neg (by simp [c])]
theorem bHu_le (f : Int → Int) (h : Int) (d : Nat) : 0 ≤ bHu f h d ∧ bHu f h d ≤ (d : Int) := cntB_nn _ d
theorem bHu_mono (f : Int → Int) (h : Int) {a b : Nat} (hab : a ≤ b) : bHu f h a ≤ bHu f h b := by
  have := cntB_mono (fun d => f d == h) a (b - a)
  rw [show a + (b - a) = b by omega] at this
  exact this
/-- items: the head, and those ahead of d that hang on it -/
def TI (M A : Mm) (r h : Int) (d : Nat) : Prop := Sm M A [66, 98, 99, 100] ∧ (∀ k : Int, k ≠ 47 → A 66 k = M 66 k) ∧ A 66 47 = 1 + bHu (M 95) h d ∧ (A 98 0 = h ∧ A 99 0 = 1 ∧ A 100 0 = 0) ∧ ∀ q : Nat, q < d → M 95 (q : Int) = h → A 98 (1 + bHu (M 95) h q) = (q : Int) ∧ ∀ l u, Iv (M 95) (M 66 24) r (q : Int) l u → A 99 (1 + bHu (M 95) h q) = u - l + 1 ∧ A 100 (1 + bHu (M 95) h q) = (q : Int) - l
theorem TI.skip {M A : Mm} {r h : Int} {d : Nat} (t : TI M A r h d) (hd : M 95 (d : Int) ≠ h) : TI M A r h (d + 1) := by
  obtain ⟨t1, t2, t3, t4, t5⟩ := t
  refine ⟨t1, t2, by rw [bHu_s, if_neg hd, t3]; omega, t4, fun q hq e => ?_⟩
  by_cases c : q = d
  · subst c; exact absurd e hd
  · exact t5 q (by omega) e
theorem TI.take {M A : Mm} {r h l u : Int} {d : Nat} (t : TI M A r h d) (hd : M 95 (d : Int) = h) (hv : Iv (M 95) (M 66 24) r (d : Int) l u) : TI M (mput (mput (mput (mput A 98 (A 66 47) (d : Int)) 99 (A 66 47) (u - l + 1)) 100 (A 66 47) ((d : Int) - l)) 66 47 (A 66 47 + 1)) r h (d + 1) := by
  obtain ⟨t1, t2, t3, t4, t5⟩ := t
  have e8 : ∀ k, mput (mput (mput (mput A 98 (A 66 47) (d : Int)) 99 (A 66 47) (u - l + 1)) 100 (A 66 47) ((d : Int) - l)) 66 47 (A 66 47 + 1) 98 k = if k = A 66 47 then (d : Int) else A 98 k := fun k => by
    rw [mput_ne (by decide), mput_ne (by decide), mput_ne (by decide), mput_at]
  have e9 : ∀ k, mput (mput (mput (mput A 98 (A 66 47) (d : Int)) 99 (A 66 47) (u - l + 1)) 100 (A 66 47) ((d : Int) - l)) 66 47 (A 66 47 + 1) 99 k = if k = A 66 47 then u - l + 1 else A 99 k := fun k => by
    rw [mput_ne (by decide), mput_ne (by decide), mput_at, mput_ne (by decide)]
  have e0 : ∀ k, mput (mput (mput (mput A 98 (A 66 47) (d : Int)) 99 (A 66 47) (u - l + 1)) 100 (A 66 47) ((d : Int) - l)) 66 47 (A 66 47 + 1) 100 k = if k = A 66 47 then (d : Int) - l else A 100 k := fun k => by
    rw [mput_ne (by decide), mput_at, mput_ne (by decide), mput_ne (by decide)]
  have hb := bHu_le (M 95) h d
  refine ⟨(((t1.put (by decide)).put (by decide)).put (by decide)).put (by decide), fun k hk => ?_, ?_, ?_, fun q hq e => ?_⟩
  · rw [mput_nk hk, mput_ne (by decide), mput_ne (by decide), mput_ne (by decide)]; exact t2 k hk
  · rw [mput_eq, bHu_s, if_pos hd, t3]; omega
  · rw [e8, e9, e0, if_neg (by omega), if_neg (by omega), if_neg (by omega)]; exact t4
  · by_cases c : q = d
    · subst c
      rw [e8, if_pos (by omega)]
      refine ⟨rfl, fun l' u' hv' => ?_⟩
      obtain ⟨g1, g2⟩ := hv.uq hv'
      rw [e9, e0, if_pos (by omega), if_pos (by omega)]
      omega
    · have hq2 : bHu (M 95) h q + 1 ≤ bHu (M 95) h d := by
        have := bHu_mono (M 95) h (a := q + 1) (b := d) (by omega)
        rw [bHu_s, if_pos e] at this
        exact this
      rw [e8, if_neg (by omega)]
      refine ⟨(t5 q (by omega) e).1, fun l' u' hv' => ?_⟩
      rw [e9, e0, if_neg (by omega), if_neg (by omega)]
      exact (t5 q (by omega) e).2 l' u' hv'
/-- all items; must rows from their kinds, up to k -/
def TJ (M A : Mm) (r h : Int) (k : Int) : Prop := (∃ B, TI M B r h (M 66 24).toNat ∧ Sm B A [101]) ∧ ∀ j, 0 ≤ j → j < k → A 101 j = if 0 < j ∧ 1 ≤ M 89 (A 98 j) ∧ M 89 (A 98 j) ≤ 3 then 1 else 0
def PLx (M A : Mm) (r h s k a : Int) : Prop := (a = -1 ∧ ∀ i, 0 ≤ i → i < k → ¬ (M 85 i = s ∧ Onw (M 95) r h i)) ∨ ∃ i, 0 ≤ i ∧ i < k ∧ M 85 i = s ∧ Onw (M 95) r h i ∧ ItP A r i h a
theorem PLx.no {M A : Mm} {r h s k a : Int} (q : PLx M A r h s k a) (hk : ¬ (M 85 k = s ∧ Onw (M 95) r h k)) : PLx M A r h s (k + 1) a := by
  rcases q with ⟨q1, q2⟩ | ⟨i, i0, i1, i2⟩
  · refine Or.inl ⟨q1, fun i i0 i1 => ?_⟩
    by_cases c : i = k
    · subst c; exact hk
    · exact q2 i i0 (by omega)
  · exact Or.inr ⟨i, i0, by omega, i2⟩
theorem PLx.yes {M A : Mm} {r h s k a : Int} (h0 : 0 ≤ k) (h1 : M 85 k = s) (h2 : Onw (M 95) r h k) (h3 : ItP A r k h a) : PLx M A r h s (k + 1) a := Or.inr ⟨k, h0, by omega, h1, h2, h3⟩
theorem PLx.rg {M A : Mm} {r h s k a : Int} (hm : 1 ≤ A 66 47) (q : PLx M A r h s k a) : -1 ≤ a ∧ a < A 66 47 := by
  rcases q with ⟨q, _⟩ | ⟨i, _, _, _, _, q⟩
  · omega
  · exact q.rg hm
theorem PLx.sm {M A B : Mm} {r h s k a : Int} (e1 : A 66 47 = B 66 47) (e2 : A 95 = B 95) (e3 : A 98 = B 98) (q : PLx M A r h s k a) : PLx M B r h s k a := by
  rcases q with q | ⟨i, i0, i1, i2, i3, i4⟩
  · exact Or.inl q
  · exact Or.inr ⟨i, i0, i1, i2, i3, i4.sm e1 e2 e3⟩
/-- must rows with the pairs ahead of p -/
def TM (M A : Mm) (r h : Int) (al be : Int → Int) (p : Int) : Prop := (∃ B, TI M B r h (M 66 24).toNat ∧ Sm B A [101]) ∧ (∀ x, 0 ≤ x → x < p → PLx M A r h (M 96 x) (M 66 24) (al x) ∧ PLx M A r h (M 97 x) (M 66 24) (be x)) ∧
  ∀ b, 0 ≤ b → b < A 66 47 → (0 ≤ A 101 b ∧ A 101 b < 1024) ∧ ∀ j : Int, 0 ≤ j → (inS (A 101 b) j ↔ (j = 0 ∧ 0 < b ∧ 1 ≤ M 89 (A 98 b) ∧ M 89 (A 98 b) ≤ 3) ∨ ∃ x, 0 ≤ x ∧ x < p ∧ al x = j ∧ be x = b ∧ al x ≠ be x)
theorem TJ.tm {M A : Mm} {r h : Int} {al be : Int → Int} (t : TJ M A r h (A 66 47)) : TM M A r h al be 0 := by
  refine ⟨t.1, fun x a b => by omega, fun b b0 b1 => ?_⟩
  rw [t.2 b b0 b1]
  by_cases c : 0 < b ∧ 1 ≤ M 89 (A 98 b) ∧ M 89 (A 98 b) ≤ 3
  · rw [if_pos c]
    refine ⟨by omega, fun j j0 => ⟨fun g => Or.inl ⟨?_, c⟩, fun g => ?_⟩⟩
    · have g2 := (inS_one (k := 0) (by omega) j).mp (show inS (zshl 1 0) j from g)
      omega
    · rcases g with ⟨g, _⟩ | ⟨x, x0, x1, _⟩
      · subst g; exact (inS_one (k := 0) (by omega) 0).mpr rfl
      · omega
  · rw [if_neg c]
    refine ⟨by omega, fun j j0 => ⟨fun g => ?_, fun g => ?_⟩⟩
    · simp [inS] at g
    · rcases g with ⟨_, g⟩ | ⟨x, x0, x1, _⟩
      · exact absurd g c
      · omega
def upF (f : Int → Int) (p a : Int) : Int → Int := fun x => if x = p then a else f x
theorem upF_eq {f : Int → Int} {p a : Int} : upF f p a p = a := by unfold upF; rw [if_pos rfl]
theorem upF_ne {f : Int → Int} {p a x : Int} (h : x ≠ p) : upF f p a x = f x := by unfold upF; rw [if_neg h]
theorem TM.skip {M A : Mm} {r h : Int} {al be : Int → Int} {p a b : Int} (t : TM M A r h al be p) (hp : 0 ≤ p) (ha : PLx M A r h (M 96 p) (M 66 24) a) (hb : PLx M A r h (M 97 p) (M 66 24) b) (hn : a = -1 ∨ b = -1 ∨ a = b) : TM M A r h (upF al p a) (upF be p b) (p + 1) := by
  obtain ⟨t1, t2, t3⟩ := t
  refine ⟨t1, fun x x0 x1 => ?_, fun c c0 c1 => ⟨(t3 c c0 c1).1, fun j j0 => ?_⟩⟩
  · by_cases e : x = p
    · subst e; rw [upF_eq, upF_eq]; exact ⟨ha, hb⟩
    · rw [upF_ne e, upF_ne e]; exact t2 x x0 (by omega)
  · rw [(t3 c c0 c1).2 j j0]
    constructor
    · rintro (g | ⟨x, x0, x1, x2⟩)
      · exact Or.inl g
      · refine Or.inr ⟨x, x0, by omega, ?_⟩
        rw [upF_ne (show x ≠ p by omega), upF_ne (show x ≠ p by omega)]
        exact x2
    · rintro (g | ⟨x, x0, x1, x2, x3, x4⟩)
      · exact Or.inl g
      · by_cases e : x = p
        · subst e
          rw [upF_eq] at x2 x3
          rw [upF_eq, upF_eq] at x4
          omega
        · rw [upF_ne e] at x2 x3
          rw [upF_ne e, upF_ne e] at x4
          exact Or.inr ⟨x, x0, by omega, x2, x3, x4⟩
theorem TM.take {M A : Mm} {r h : Int} {al be : Int → Int} {p a b : Int} (t : TM M A r h al be p) (hp : 0 ≤ p) (hm : 1 ≤ A 66 47 ∧ A 66 47 ≤ 10) (ha : PLx M A r h (M 96 p) (M 66 24) a) (hb : PLx M A r h (M 97 p) (M 66 24) b) (h1 : a ≠ -1) (h2 : b ≠ -1) (h3 : a ≠ b) : TM M (mput A 101 b (zor (A 101 b) (zshl 1 a))) r h (upF al p a) (upF be p b) (p + 1) := by
  obtain ⟨⟨B, t0, t1⟩, t2, t3⟩ := t
  have ra := ha.rg hm.1
  have rb := hb.rg hm.1
  have e66 : mput A 101 b (zor (A 101 b) (zshl 1 a)) 66 = A 66 := mput_ne (by decide)
  have e95 : mput A 101 b (zor (A 101 b) (zshl 1 a)) 95 = A 95 := mput_ne (by decide)
  have e98 : mput A 101 b (zor (A 101 b) (zshl 1 a)) 98 = A 98 := mput_ne (by decide)
  have mv : ∀ {s k c : Int}, PLx M A r h s k c → PLx M (mput A 101 b (zor (A 101 b) (zshl 1 a))) r h s k c := fun q => q.sm (by rw [e66]) e95.symm e98.symm
  refine ⟨⟨B, t0, t1.put (by decide)⟩, fun x x0 x1 => ?_, fun c c0 c1 => ?_⟩
  · by_cases e : x = p
    · subst e; rw [upF_eq, upF_eq]; exact ⟨mv ha, mv hb⟩
    · rw [upF_ne e, upF_ne e]; exact ⟨mv (t2 x x0 (by omega)).1, mv (t2 x x0 (by omega)).2⟩
  · rw [e66] at c1
    have g3 := t3 c c0 c1
    rw [e98]
    by_cases ec : c = b
    · subst ec
      rw [mput_eq]
      have hz : 0 ≤ zor (A 101 c) (zshl 1 a) ∧ zor (A 101 c) (zshl 1 a) < 1024 := zor_lt (n := 10) (by omega) g3.1 (by omega)
      refine ⟨hz, fun j j0 => ?_⟩
      rw [inS_or (by omega) (by omega) j, g3.2 j j0]
      constructor
      · rintro ((g | ⟨x, x0, x1, x2⟩) | g)
        · exact Or.inl g
        · refine Or.inr ⟨x, x0, by omega, ?_⟩
          rw [upF_ne (show x ≠ p by omega), upF_ne (show x ≠ p by omega)]
          exact x2
        · refine Or.inr ⟨p, hp, by omega, ?_⟩
          rw [upF_eq, upF_eq]
          exact ⟨by omega, rfl, h3⟩
      · rintro (g | ⟨x, x0, x1, x2, x3, x4⟩)
        · exact Or.inl (Or.inl g)
        · by_cases e : x = p
          · subst e
            rw [upF_eq] at x2
            exact Or.inr (by omega)
          · rw [upF_ne e] at x2 x3
            rw [upF_ne e, upF_ne e] at x4
            exact Or.inl (Or.inr ⟨x, x0, by omega, x2, x3, x4⟩)
    · rw [mput_nk ec]
      refine ⟨g3.1, fun j j0 => ?_⟩
      rw [g3.2 j j0]
      constructor
      · rintro (g | ⟨x, x0, x1, x2⟩)
        · exact Or.inl g
        · refine Or.inr ⟨x, x0, by omega, ?_⟩
          rw [upF_ne (show x ≠ p by omega), upF_ne (show x ≠ p by omega)]
          exact x2
      · rintro (g | ⟨x, x0, x1, x2, x3, x4⟩)
        · exact Or.inl g
        · by_cases e : x = p
          · subst e
            rw [upF_eq] at x3
            exact absurd x3.symm ec
          · rw [upF_ne e] at x2 x3
            rw [upF_ne e, upF_ne e] at x4
            exact Or.inr ⟨x, x0, by omega, x2, x3, x4⟩

set_option maxRecDepth 20000 in
set_option maxHeartbeats 4000000 in
theorem ct_X11_itemOf (E : Ev) (M : Mm) (r : Int) (hn : 1 ≤ M 66 24 ∧ M 66 24 ≤ 24) (hT : TT (M 95) (M 66 24) r) (i h : Int) (hi : 0 ≤ i ∧ i < M 66 24) (hh : 0 ≤ h ∧ h < M 66 24) (hm47 : 1 ≤ M 66 47 ∧ M 66 47 ≤ 10) (hit : ∀ k, 0 ≤ k → k < M 66 47 → 0 ≤ M 98 k ∧ M 98 k < M 66 24) : Ct E yX11_itemOf cX11_itemOf 4 (some .int) 1 [zr E 66, zi i, zi h] M (pP M (fun z => ItP M r i h z)) := by
  refine Ct.of (own := RX11) (lv0 := [some (zr E 66), some (zi i), some (zi h), none]) (by decide) rfl (Nat.le_of_ble_eq_true rfl) rfl (fun κ C => ?_)
  have L9 : ∀ (n9 : Nat) (k : Int) (hk : 1 ≤ k ∧ k ≤ M 66 47) (hne : i ≠ h) (hno : ∀ q, 1 ≤ q → q < k → ¬ Onw (M 95) r (M 98 q) i) (hm : (M 66 47 - k).toNat < n9), Gm E κ (pP M (fun z => ItP M r i h z)) 4 9 [some (zr E 66), some (zi i), some (zi h), some (zi k)] [] M := by
    intro n9
    induction n9 with
    | zero => intro k  hk hne hno hm; exact absurd hm (Nat.not_lt_zero _)
    | succ n9 ih9 =>
      intro k  hk hne hno hm
      refine s_iload_n C dX11_itemOf_9 rfl ?_
      refine s_aload_n C dX11_itemOf_10 rfl ?_
      refine s_geti (k := 47) (j := 47) C dX11_itemOf_11 fl_X11_271 (by decide) rfl (by decide) rfl (rfl) (fun r11 => ?_)
      refine s_icmp_ge (tgt := 39) C dX11_itemOf_14 (by decide) (by omega) (by omega) (fun c14 => ?_) (fun c14 => ?_)
      · skip
        refine s_iconst C dX11_itemOf_39 ?_
        exact s_ireturn C dX11_itemOf_40 (⟨_, rfl, rfl, Or.inr ⟨hne, Or.inl ⟨rfl, fun q a b => hno q a (by omega)⟩⟩⟩)
      · skip
        have b2 := hit k (by omega) (by omega)
        refine s_aload_n C dX11_itemOf_17 rfl ?_
        refine s_iload_n C dX11_itemOf_18 rfl ?_
        refine s_aload_n C dX11_itemOf_19 rfl ?_
        refine s_getr (k := 44) (b := 98) C dX11_itemOf_20 fl_X11_109 (by decide) rfl (by decide) rfl ?_
        refine s_iload_n C dX11_itemOf_23 rfl ?_
        refine s_iaload (n := 10) C dX11_itemOf_24 (by decide) rfl rfl (by omega) (by omega) (by omega) (rfl) (fun r24 => ?_)
        refine s_callV2 C dX11_itemOf_25 cy_X11_isOf cv_X11_isOf lk_X11_246 (ct_X11_isOf E M r hn hT i (M 98 k) hi b2) (by decide) (by decide) (by first | decide | (decide)) rfl (Nat.le_of_ble_eq_true rfl) (k_P (fun z25 q25 => ?_))
        refine s_if_eq (tgt := 33) C dX11_itemOf_28 (by decide) (by have := q25.b; omega) (fun c28 => ?_) (fun c28 => ?_)
        · skip
          refine s_iinc (lv' := [_, _, _, _]) C dX11_itemOf_33 rfl (by decide) rfl rfl rfl ?_
          refine s_goto (tgt := 9) C dX11_itemOf_36 (by decide) ?_
          exact ih9 (k + 1) (by omega) hne (fun q a b => by
            by_cases cq : q = k
            · subst cq; exact q25.n c28
            · exact hno q a (by omega)) (by omega)
        · skip
          refine s_iload_n C dX11_itemOf_31 rfl ?_
          exact s_ireturn C dX11_itemOf_32 (⟨_, rfl, rfl, Or.inr ⟨hne, Or.inr ⟨by omega, by omega, q25.y c28⟩⟩⟩)
  refine s_iload_n C dX11_itemOf_0 rfl ?_
  refine s_iload_n C dX11_itemOf_1 rfl ?_
  refine s_icmp_ne (tgt := 7) C dX11_itemOf_2 (by decide) (by omega) (by omega) (fun c2 => ?_) (fun c2 => ?_)
  · skip
    refine s_iconst C dX11_itemOf_7 ?_
    refine s_istore_n (lv' := [_, _, _, _]) C dX11_itemOf_8 (by decide) rfl rfl ?_
    exact L9 _ 1 (by omega) c2 (fun q a b => by omega) (Nat.lt_succ_self _)
  · skip
    refine s_iconst C dX11_itemOf_5 ?_
    exact s_ireturn C dX11_itemOf_6 (⟨_, rfl, rfl, Or.inl ⟨c2, rfl⟩⟩)

theorem bHu_at (f : Int → Int) (h : Int) : ∀ (n : Nat) (k : Int), 0 ≤ k → k < bHu f h n → ∃ q : Nat, q < n ∧ f (q : Int) = h ∧ bHu f h q = k := by
  intro n
  induction n with
  | zero => intro k a b; have := (bHu_le f h 0).2; omega
  | succ n ih =>
    intro k a b
    rw [bHu_s] at b
    by_cases c : k < bHu f h n
    · obtain ⟨q, q1, q2⟩ := ih k a c
      exact ⟨q, by omega, q2⟩
    · by_cases c2 : f (n : Int) = h
      · rw [if_pos c2] at b
        exact ⟨n, by omega, c2, by omega⟩
      · rw [if_neg c2] at b; omega
theorem TI.it {M A : Mm} {r h : Int} (t : TI M A r h (M 66 24).toNat) (hn : 1 ≤ M 66 24 ∧ M 66 24 ≤ 24) (hh : 0 ≤ h ∧ h < M 66 24) : ∀ k, 0 ≤ k → k < A 66 47 → 0 ≤ A 98 k ∧ A 98 k < M 66 24 := by
  intro k a b
  obtain ⟨t1, t2, t3, t4, t5⟩ := t
  by_cases c : k = 0
  · subst c; rw [t4.1]; exact hh
  · obtain ⟨q, q1, q2, q3⟩ := bHu_at (M 95) h (M 66 24).toNat (k - 1) (by omega) (by omega)
    have := (t5 q q1 q2).1
    rw [q3, show 1 + (k - 1) = k by omega] at this
    omega

set_option maxRecDepth 20000 in
set_option maxHeartbeats 4000000 in
theorem ct_X11_takeItems (E : Ev) (M : Mm) (r : Int) (hn : 1 ≤ M 66 24 ∧ M 66 24 ≤ 24) (hT : TT (M 95) (M 66 24) r) (h : Int) (hh : 0 ≤ h ∧ h < M 66 24) (hpr : prR M) : Ct E yX11_takeItems cX11_takeItems 6 (some .boolean) 2 [zr E 66, zi h] M (pI (fun z M' => (z = 0 ∧ 9 < bHu (M 95) h (M 66 24).toNat ∧ M' = M) ∨ (z = 1 ∧ bHu (M 95) h (M 66 24).toNat ≤ 9 ∧ ∃ al be : Int → Int, TM M M' r h al be (M 66 41)))) := by
  refine Ct.of (own := RX11) (lv0 := [some (zr E 66), some (zi h), none, none, none, none]) (by decide) rfl (Nat.le_of_ble_eq_true rfl) rfl (fun κ C => ?_)
  have hp1 := hpr.1
  have L169 : ∀ (n9 : Nat) (p : Int) (A : Mm) (al be : Int → Int) (u3 u4 u5 : Option Value) (hp : 0 ≤ p ∧ p ≤ M 66 41) (hu9 : bHu (M 95) h (M 66 24).toNat ≤ 9) (hTM : TM M A r h al be p) (hm : (M 66 41 - p).toNat < n9), Gm E κ (pI (fun z M' => (z = 0 ∧ 9 < bHu (M 95) h (M 66 24).toNat ∧ M' = M) ∨ (z = 1 ∧ bHu (M 95) h (M 66 24).toNat ≤ 9 ∧ ∃ al be : Int → Int, TM M M' r h al be (M 66 41)))) 6 169 [some (zr E 66), some (zi h), some (zi p), u3, u4, u5] [] A := by
    intro n9
    induction n9 with
    | zero => intro p A al be u3 u4 u5 hp hu9 hTM hm; exact absurd hm (Nat.not_lt_zero _)
    | succ n9 ih169 =>
      intro p A al be u3 u4 u5 hp hu9 hTM hm
      obtain ⟨B, hTI, sB⟩ := hTM.1
      have e95 : A 95 = M 95 := by rw [sB 95 (by decide)]; exact hTI.1 95 (by decide)
      have e66 : A 66 = B 66 := sB 66 (by decide)
      have n1 : A 66 24 = M 66 24 := by rw [e66]; exact hTI.2.1 24 (by decide)
      have n41 : A 66 41 = M 66 41 := by rw [e66]; exact hTI.2.1 41 (by decide)
      have e98 : A 98 = B 98 := sB 98 (by decide)
      have h47 : A 66 47 = 1 + bHu (M 95) h (M 66 24).toNat := by rw [e66]; exact hTI.2.2.1
      have e85 : A 85 = M 85 := by rw [sB 85 (by decide)]; exact hTI.1 85 (by decide)
      have e89 : A 89 = M 89 := by rw [sB 89 (by decide)]; exact hTI.1 89 (by decide)
      have e96 : A 96 = M 96 := by rw [sB 96 (by decide)]; exact hTI.1 96 (by decide)
      have e97 : A 97 = M 97 := by rw [sB 97 (by decide)]; exact hTI.1 97 (by decide)
      have hbl := bHu_le (M 95) h (M 66 24).toNat
      have h47b : 1 ≤ A 66 47 ∧ A 66 47 ≤ 10 := by omega
      have hit : ∀ k, 0 ≤ k → k < A 66 47 → 0 ≤ A 98 k ∧ A 98 k < M 66 24 := by rw [e98, e66]; exact hTI.it hn hh
      have L185 : ∀ (n9 : Nat) (i a b : Int) (hi : 0 ≤ i ∧ i ≤ M 66 24) (hpl : p < M 66 41) (hPa : PLx M A r h (M 96 p) i a) (hPb : PLx M A r h (M 97 p) i b) (hm : (M 66 24 - i).toNat < n9), Gm E κ (pI (fun z M' => (z = 0 ∧ 9 < bHu (M 95) h (M 66 24).toNat ∧ M' = M) ∨ (z = 1 ∧ bHu (M 95) h (M 66 24).toNat ≤ 9 ∧ ∃ al be : Int → Int, TM M M' r h al be (M 66 41)))) 6 185 [some (zr E 66), some (zi h), some (zi p), some (zi a), some (zi b), some (zi i)] [] A := by
        intro n9
        induction n9 with
        | zero => intro i a b  hi hpl hPa hPb hm; exact absurd hm (Nat.not_lt_zero _)
        | succ n9 ih185 =>
          intro i a b  hi hpl hPa hPb hm
          have hra := hPa.rg h47b.1
          have hrb := hPb.rg h47b.1
          have L228 : ∀ (a2 : Int) (hil : i < M 66 24) (hPa2 : PLx M A r h (M 96 p) (i + 1) a2), Gm E κ (pI (fun z M' => (z = 0 ∧ 9 < bHu (M 95) h (M 66 24).toNat ∧ M' = M) ∨ (z = 1 ∧ bHu (M 95) h (M 66 24).toNat ≤ 9 ∧ ∃ al be : Int → Int, TM M M' r h al be (M 66 41)))) 6 228 [some (zr E 66), some (zi h), some (zi p), some (zi a2), some (zi b), some (zi i)] [] A := by
            intro a2  hil hPa2
            have hra2 := hPa2.rg h47b.1
            have L263 : ∀ (b2 : Int) (hPb2 : PLx M A r h (M 97 p) (i + 1) b2), Gm E κ (pI (fun z M' => (z = 0 ∧ 9 < bHu (M 95) h (M 66 24).toNat ∧ M' = M) ∨ (z = 1 ∧ bHu (M 95) h (M 66 24).toNat ≤ 9 ∧ ∃ al be : Int → Int, TM M M' r h al be (M 66 41)))) 6 263 [some (zr E 66), some (zi h), some (zi p), some (zi a2), some (zi b2), some (zi i)] [] A := by
              intro b2  hPb2
              refine s_iinc (lv' := [_, _, _, _, _, _]) C dX11_takeItems_263 rfl (by decide) rfl rfl rfl ?_
              refine s_goto (tgt := 185) C dX11_takeItems_266 (by decide) ?_
              exact ih185 _ _ _ (by omega) hpl hPa2 hPb2 (by omega)
            refine s_aload_n C dX11_takeItems_228 rfl ?_
            refine s_getr (k := 23) (b := 85) C dX11_takeItems_229 fl_X11_65 (by decide) rfl (by decide) rfl ?_
            refine s_iload C dX11_takeItems_232 rfl ?_
            refine s_iaload (n := 24) (z := M 85 i) C dX11_takeItems_234 (by decide) rfl rfl (by omega) (by omega) (by omega) (by rw [e85]) (fun r234 => ?_)
            refine s_aload_n C dX11_takeItems_235 rfl ?_
            refine s_getr (k := 43) (b := 97) C dX11_takeItems_236 fl_X11_106 (by decide) rfl (by decide) rfl ?_
            refine s_iload_n C dX11_takeItems_239 rfl ?_
            refine s_iaload (n := 20) (z := M 97 p) C dX11_takeItems_240 (by decide) rfl rfl (by omega) (by omega) (by omega) (by rw [e97]) (fun r240 => ?_)
            refine s_icmp_ne (tgt := 263) C dX11_takeItems_241 (by decide) (by omega) (by omega) (fun c241 => ?_) (fun c241 => ?_)
            · skip
              exact L263 b (hPb.no (fun g => c241 g.1))
            · skip
              refine s_aload_n C dX11_takeItems_244 rfl ?_
              refine s_iload C dX11_takeItems_245 rfl ?_
              refine s_iload_n C dX11_takeItems_247 rfl ?_
              refine s_callV2 C dX11_takeItems_248 cy_X11_isOf cv_X11_isOf lk_X11_246 (ct_X11_isOf E A r (by rw [n1]; exact hn) (by rw [e95, n1]; exact hT) i h (by rw [n1]; omega) (by rw [n1]; exact hh)) (by decide) (by decide) (by first | decide | (decide)) rfl (Nat.le_of_ble_eq_true rfl) (k_P (fun z248 q248 => ?_))
              rw [e95] at q248
              refine s_if_eq (tgt := 263) C dX11_takeItems_251 (by decide) (by have := q248.b; omega) (fun c251 => ?_) (fun c251 => ?_)
              · skip
                exact L263 b (hPb.no (fun g => q248.n c251 g.2))
              · skip
                refine s_aload_n C dX11_takeItems_254 rfl ?_
                refine s_iload C dX11_takeItems_255 rfl ?_
                refine s_iload_n C dX11_takeItems_257 rfl ?_
                refine s_callV2 C dX11_takeItems_258 cy_X11_itemOf cv_X11_itemOf lk_X11_277 (ct_X11_itemOf E A r (by rw [n1]; exact hn) (by rw [e95, n1]; exact hT) i h (by rw [n1]; omega) (by rw [n1]; exact hh) h47b (by rw [n1]; exact hit)) (by decide) (by decide) (by first | decide | (decide)) rfl (Nat.le_of_ble_eq_true rfl) (k_P (fun z258 q258 => ?_))
                refine s_istore (lv' := [_, _, _, _, _, _]) C dX11_takeItems_261 (by decide) rfl rfl ?_
                exact L263 z258 (PLx.yes hi.1 c241 (q248.y c251) q258)
          refine s_iload C dX11_takeItems_185 rfl ?_
          refine s_aload_n C dX11_takeItems_187 rfl ?_
          refine s_geti (k := 24) (j := 24) (z := M 66 24) C dX11_takeItems_188 fl_X11_196 (by decide) rfl (by decide) rfl (n1) (fun r188 => ?_)
          refine s_icmp_ge (tgt := 269) C dX11_takeItems_191 (by decide) (by omega) (by omega) (fun c191 => ?_) (fun c191 => ?_)
          · skip
            have c0 : i = M 66 24 := by omega
            subst c0
            refine s_iload_n C dX11_takeItems_269 rfl ?_
            refine s_iconst C dX11_takeItems_270 ?_
            refine s_icmp_eq (tgt := 299) C dX11_takeItems_271 (by decide) (by omega) (by omega) (fun c271 => ?_) (fun c271 => ?_)
            · skip
              refine s_iinc (lv' := [_, _, _, _, _, _]) C dX11_takeItems_299 rfl (by decide) rfl rfl rfl ?_
              refine s_goto (tgt := 169) C dX11_takeItems_302 (by decide) ?_
              first
                | exact ih169 (p + 1) A _ _ _ _ _ (by omega) hu9 (hTM.skip hp.1 hPa hPb (by omega)) (by omega)
                | exact ih169 (p + 1) _ _ _ _ _ _ (by omega) hu9 (hTM.take hp.1 h47b hPa hPb c271 c277 c283) (by omega)
            · skip
              refine s_iload C dX11_takeItems_274 rfl ?_
              refine s_iconst C dX11_takeItems_276 ?_
              refine s_icmp_eq (tgt := 299) C dX11_takeItems_277 (by decide) (by omega) (by omega) (fun c277 => ?_) (fun c277 => ?_)
              · skip
                refine s_iinc (lv' := [_, _, _, _, _, _]) C dX11_takeItems_299 rfl (by decide) rfl rfl rfl ?_
                refine s_goto (tgt := 169) C dX11_takeItems_302 (by decide) ?_
                first
                  | exact ih169 (p + 1) A _ _ _ _ _ (by omega) hu9 (hTM.skip hp.1 hPa hPb (by omega)) (by omega)
                  | exact ih169 (p + 1) _ _ _ _ _ _ (by omega) hu9 (hTM.take hp.1 h47b hPa hPb c271 c277 c283) (by omega)
              · skip
                refine s_iload_n C dX11_takeItems_280 rfl ?_
                refine s_iload C dX11_takeItems_281 rfl ?_
                refine s_icmp_eq (tgt := 299) C dX11_takeItems_283 (by decide) (by omega) (by omega) (fun c283 => ?_) (fun c283 => ?_)
                · skip
                  refine s_iinc (lv' := [_, _, _, _, _, _]) C dX11_takeItems_299 rfl (by decide) rfl rfl rfl ?_
                  refine s_goto (tgt := 169) C dX11_takeItems_302 (by decide) ?_
                  first
                    | exact ih169 (p + 1) A _ _ _ _ _ (by omega) hu9 (hTM.skip hp.1 hPa hPb (by omega)) (by omega)
                    | exact ih169 (p + 1) _ _ _ _ _ _ (by omega) hu9 (hTM.take hp.1 h47b hPa hPb c271 c277 c283) (by omega)
                · skip
                  refine s_aload_n C dX11_takeItems_286 rfl ?_
                  refine s_getr (k := 48) (b := 101) C dX11_takeItems_287 fl_X11_118 (by decide) rfl (by decide) rfl ?_
                  refine s_iload C dX11_takeItems_290 rfl ?_
                  refine s_dup2 C dX11_takeItems_292 rfl rfl ?_
                  refine s_iaload (n := 10) (z := A 101 b) C dX11_takeItems_293 (by decide) rfl rfl (by omega) (by omega) (by omega) (rfl) (fun r293 => ?_)
                  refine s_iconst C dX11_takeItems_294 ?_
                  refine s_iload_n C dX11_takeItems_295 rfl ?_
                  refine s_ishl C dX11_takeItems_296 ?_
                  refine s_ior C dX11_takeItems_297 ?_
                  refine s_iastore (n := 10) C dX11_takeItems_298 (by decide) rfl rfl (by omega) (by omega) (by omega) (rg_zor _ _) ?_
                  refine s_iinc (lv' := [_, _, _, _, _, _]) C dX11_takeItems_299 rfl (by decide) rfl rfl rfl ?_
                  refine s_goto (tgt := 169) C dX11_takeItems_302 (by decide) ?_
                  first
                    | exact ih169 (p + 1) A _ _ _ _ _ (by omega) hu9 (hTM.skip hp.1 hPa hPb (by omega)) (by omega)
                    | exact ih169 (p + 1) _ _ _ _ _ _ (by omega) hu9 (hTM.take hp.1 h47b hPa hPb c271 c277 c283) (by omega)
          · skip
            refine s_aload_n C dX11_takeItems_194 rfl ?_
            refine s_getr (k := 23) (b := 85) C dX11_takeItems_195 fl_X11_65 (by decide) rfl (by decide) rfl ?_
            refine s_iload C dX11_takeItems_198 rfl ?_
            refine s_iaload (n := 24) (z := M 85 i) C dX11_takeItems_200 (by decide) rfl rfl (by omega) (by omega) (by omega) (by rw [e85]) (fun r200 => ?_)
            refine s_aload_n C dX11_takeItems_201 rfl ?_
            refine s_getr (k := 42) (b := 96) C dX11_takeItems_202 fl_X11_103 (by decide) rfl (by decide) rfl ?_
            refine s_iload_n C dX11_takeItems_205 rfl ?_
            refine s_iaload (n := 20) (z := M 96 p) C dX11_takeItems_206 (by decide) rfl rfl (by omega) (by omega) (by omega) (by rw [e96]) (fun r206 => ?_)
            refine s_icmp_ne (tgt := 228) C dX11_takeItems_207 (by decide) (by omega) (by omega) (fun c207 => ?_) (fun c207 => ?_)
            · skip
              exact L228 a (by omega) (hPa.no (fun g => c207 g.1))
            · skip
              refine s_aload_n C dX11_takeItems_210 rfl ?_
              refine s_iload C dX11_takeItems_211 rfl ?_
              refine s_iload_n C dX11_takeItems_213 rfl ?_
              refine s_callV2 C dX11_takeItems_214 cy_X11_isOf cv_X11_isOf lk_X11_246 (ct_X11_isOf E A r (by rw [n1]; exact hn) (by rw [e95, n1]; exact hT) i h (by rw [n1]; omega) (by rw [n1]; exact hh)) (by decide) (by decide) (by first | decide | (decide)) rfl (Nat.le_of_ble_eq_true rfl) (k_P (fun z214 q214 => ?_))
              rw [e95] at q214
              refine s_if_eq (tgt := 228) C dX11_takeItems_217 (by decide) (by have := q214.b; omega) (fun c217 => ?_) (fun c217 => ?_)
              · skip
                exact L228 a (by omega) (hPa.no (fun g => q214.n c217 g.2))
              · skip
                refine s_aload_n C dX11_takeItems_220 rfl ?_
                refine s_iload C dX11_takeItems_221 rfl ?_
                refine s_iload_n C dX11_takeItems_223 rfl ?_
                refine s_callV2 C dX11_takeItems_224 cy_X11_itemOf cv_X11_itemOf lk_X11_277 (ct_X11_itemOf E A r (by rw [n1]; exact hn) (by rw [e95, n1]; exact hT) i h (by rw [n1]; omega) (by rw [n1]; exact hh) h47b (by rw [n1]; exact hit)) (by decide) (by decide) (by first | decide | (decide)) rfl (Nat.le_of_ble_eq_true rfl) (k_P (fun z224 q224 => ?_))
                refine s_istore_n (lv' := [_, _, _, _, _, _]) C dX11_takeItems_227 (by decide) rfl rfl ?_
                exact L228 z224 (by omega) (PLx.yes hi.1 c207 (q214.y c217) q224)
      refine s_iload_n C dX11_takeItems_169 rfl ?_
      refine s_aload_n C dX11_takeItems_170 rfl ?_
      refine s_geti (k := 41) (j := 41) (z := M 66 41) C dX11_takeItems_171 fl_X11_199 (by decide) rfl (by decide) rfl (n41) (fun r171 => ?_)
      refine s_icmp_ge (tgt := 305) C dX11_takeItems_174 (by decide) (by omega) (by omega) (fun c174 => ?_) (fun c174 => ?_)
      · skip
        refine s_iconst C dX11_takeItems_305 ?_
        exact s_zreturn C dX11_takeItems_306 (by decide) (⟨_, rfl, by have c0 : p = M 66 41 := (by omega); subst c0; exact Or.inr ⟨rfl, hu9, al, be, hTM⟩⟩)
      · skip
        refine s_iconst C dX11_takeItems_177 ?_
        refine s_istore_n (lv' := [_, _, _, _, _, _]) C dX11_takeItems_178 (by decide) rfl rfl ?_
        refine s_iconst C dX11_takeItems_179 ?_
        refine s_istore (lv' := [_, _, _, _, _, _]) C dX11_takeItems_180 (by decide) rfl rfl ?_
        refine s_iconst C dX11_takeItems_182 ?_
        refine s_istore (lv' := [_, _, _, _, _, _]) C dX11_takeItems_183 (by decide) rfl rfl ?_
        exact L185 _ 0 (-1) (-1) (by omega) (by omega) (Or.inl ⟨rfl, fun i a b => by omega⟩) (Or.inl ⟨rfl, fun i a b => by omega⟩) (Nat.lt_succ_self _)
  have L119 : ∀ (n9 : Nat) (k : Int) (A : Mm) (u3 u4 u5 : Option Value) (hk : 0 ≤ k ∧ k ≤ A 66 47) (hu9 : bHu (M 95) h (M 66 24).toNat ≤ 9) (hTJ : TJ M A r h k) (hm : (A 66 47 - k).toNat < n9), Gm E κ (pI (fun z M' => (z = 0 ∧ 9 < bHu (M 95) h (M 66 24).toNat ∧ M' = M) ∨ (z = 1 ∧ bHu (M 95) h (M 66 24).toNat ≤ 9 ∧ ∃ al be : Int → Int, TM M M' r h al be (M 66 41)))) 6 119 [some (zr E 66), some (zi h), some (zi k), u3, u4, u5] [] A := by
    intro n9
    induction n9 with
    | zero => intro k A u3 u4 u5 hk hu9 hTJ hm; exact absurd hm (Nat.not_lt_zero _)
    | succ n9 ih119 =>
      intro k A u3 u4 u5 hk hu9 hTJ hm
      obtain ⟨B, hTI, sB⟩ := hTJ.1
      have e95 : A 95 = M 95 := by rw [sB 95 (by decide)]; exact hTI.1 95 (by decide)
      have e66 : A 66 = B 66 := sB 66 (by decide)
      have n1 : A 66 24 = M 66 24 := by rw [e66]; exact hTI.2.1 24 (by decide)
      have n41 : A 66 41 = M 66 41 := by rw [e66]; exact hTI.2.1 41 (by decide)
      have e98 : A 98 = B 98 := sB 98 (by decide)
      have h47 : A 66 47 = 1 + bHu (M 95) h (M 66 24).toNat := by rw [e66]; exact hTI.2.2.1
      have e85 : A 85 = M 85 := by rw [sB 85 (by decide)]; exact hTI.1 85 (by decide)
      have e89 : A 89 = M 89 := by rw [sB 89 (by decide)]; exact hTI.1 89 (by decide)
      have e96 : A 96 = M 96 := by rw [sB 96 (by decide)]; exact hTI.1 96 (by decide)
      have e97 : A 97 = M 97 := by rw [sB 97 (by decide)]; exact hTI.1 97 (by decide)
      have hbl := bHu_le (M 95) h (M 66 24).toNat
      have h47b : 1 ≤ A 66 47 ∧ A 66 47 ≤ 10 := by omega
      have hit : ∀ k, 0 ≤ k → k < A 66 47 → 0 ≤ A 98 k ∧ A 98 k < M 66 24 := by rw [e98, e66]; exact hTI.it hn hh
      refine s_iload_n C dX11_takeItems_119 rfl ?_
      refine s_aload_n C dX11_takeItems_120 rfl ?_
      refine s_geti (k := 47) (j := 47) (z := A 66 47) C dX11_takeItems_121 fl_X11_271 (by decide) rfl (by decide) rfl (rfl) (fun r121 => ?_)
      refine s_icmp_ge (tgt := 167) C dX11_takeItems_124 (by decide) (by omega) (by omega) (fun c124 => ?_) (fun c124 => ?_)
      · skip
        refine s_iconst C dX11_takeItems_167 ?_
        refine s_istore_n (lv' := [_, _, _, _, _, _]) C dX11_takeItems_168 (by decide) rfl rfl ?_
        have c0 : k = A 66 47 := by omega
        subst c0
        exact L169 _ 0 A (fun _ => 0) (fun _ => 0) _ _ _ (by omega) hu9 hTJ.tm (Nat.lt_succ_self _)
      · skip
        refine s_aload_n C dX11_takeItems_127 rfl ?_
        refine s_getr (k := 48) (b := 101) C dX11_takeItems_128 fl_X11_118 (by decide) rfl (by decide) rfl ?_
        refine s_iload_n C dX11_takeItems_131 rfl ?_
        refine s_iload_n C dX11_takeItems_132 rfl ?_
        refine s_if_le (tgt := 159) C dX11_takeItems_133 (by decide) (by omega) (fun c133 => ?_) (fun c133 => ?_)
        · skip
          refine s_iconst C dX11_takeItems_159 ?_
          refine s_iastore (n := 10) C dX11_takeItems_160 (by decide) rfl rfl (by omega) (by omega) (by omega) (by omega) ?_
          refine s_iinc (lv' := [_, _, _, _, _, _]) C dX11_takeItems_161 rfl (by decide) rfl rfl rfl ?_
          refine s_goto (tgt := 119) C dX11_takeItems_164 (by decide) ?_
          refine ih119 (k + 1) _ _ _ _ (by rw [mput_ne (by decide)]; omega) hu9 ⟨⟨B, hTI, sB.put (by decide)⟩, fun j a b => ?_⟩ (by rw [mput_ne (by decide)]; omega)
          rw [mput_ne (by decide : (98 : Nat) ≠ 101)]
          by_cases cj : j = k
          · subst cj
            rw [mput_eq]
            first
              | (rw [if_pos (by omega)]; done)
              | (rw [if_neg (by omega)]; done)
          · rw [mput_nk cj]; exact hTJ.2 j a (by omega)
        · skip
          have b2 := hit k (by omega) (by omega)
          refine s_aload_n C dX11_takeItems_136 rfl ?_
          refine s_getr (k := 31) (b := 89) C dX11_takeItems_137 fl_X11_81 (by decide) rfl (by decide) rfl ?_
          refine s_aload_n C dX11_takeItems_140 rfl ?_
          refine s_getr (k := 44) (b := 98) C dX11_takeItems_141 fl_X11_109 (by decide) rfl (by decide) rfl ?_
          refine s_iload_n C dX11_takeItems_144 rfl ?_
          refine s_iaload (n := 10) C dX11_takeItems_145 (by decide) rfl rfl (by omega) (by omega) (by omega) (rfl) (fun r145 => ?_)
          refine s_iaload (n := 24) (z := M 89 (A 98 k)) C dX11_takeItems_146 (by decide) rfl rfl (by omega) (by omega) (by omega) (by rw [e89]) (fun r146 => ?_)
          refine s_iconst C dX11_takeItems_147 ?_
          refine s_iconst C dX11_takeItems_148 ?_
          refine s_callS3 C dX11_takeItems_149 cy_X11_in cs_X11_in lk_X11_139 (ct_X11_in E A (M 89 (A 98 k)) 1 3 r146 (by decide) (by decide)) (by decide) (Nat.le_of_ble_eq_true rfl) (k_P (fun z149 q149 => ?_))
          have k149 : (z149 = 1 ∧ 1 ≤ M 89 (A 98 k) ∧ M 89 (A 98 k) ≤ 3) ∨ (z149 = 0 ∧ ¬ (1 ≤ M 89 (A 98 k) ∧ M 89 (A 98 k) ≤ 3)) := q149
          clear q149
          refine s_if_eq (tgt := 159) C dX11_takeItems_152 (by decide) (by omega) (fun c152 => ?_) (fun c152 => ?_)
          · skip
            refine s_iconst C dX11_takeItems_159 ?_
            refine s_iastore (n := 10) C dX11_takeItems_160 (by decide) rfl rfl (by omega) (by omega) (by omega) (by omega) ?_
            refine s_iinc (lv' := [_, _, _, _, _, _]) C dX11_takeItems_161 rfl (by decide) rfl rfl rfl ?_
            refine s_goto (tgt := 119) C dX11_takeItems_164 (by decide) ?_
            refine ih119 (k + 1) _ _ _ _ (by rw [mput_ne (by decide)]; omega) hu9 ⟨⟨B, hTI, sB.put (by decide)⟩, fun j a b => ?_⟩ (by rw [mput_ne (by decide)]; omega)
            rw [mput_ne (by decide : (98 : Nat) ≠ 101)]
            by_cases cj : j = k
            · subst cj
              rw [mput_eq]
              first
                | (rw [if_pos (by omega)]; done)
                | (rw [if_neg (by omega)]; done)
            · rw [mput_nk cj]; exact hTJ.2 j a (by omega)
          · skip
            refine s_iconst C dX11_takeItems_155 ?_
            refine s_goto (tgt := 160) C dX11_takeItems_156 (by decide) ?_
            refine s_iastore (n := 10) C dX11_takeItems_160 (by decide) rfl rfl (by omega) (by omega) (by omega) (by omega) ?_
            refine s_iinc (lv' := [_, _, _, _, _, _]) C dX11_takeItems_161 rfl (by decide) rfl rfl rfl ?_
            refine s_goto (tgt := 119) C dX11_takeItems_164 (by decide) ?_
            refine ih119 (k + 1) _ _ _ _ (by rw [mput_ne (by decide)]; omega) hu9 ⟨⟨B, hTI, sB.put (by decide)⟩, fun j a b => ?_⟩ (by rw [mput_ne (by decide)]; omega)
            rw [mput_ne (by decide : (98 : Nat) ≠ 101)]
            by_cases cj : j = k
            · subst cj
              rw [mput_eq]
              first
                | (rw [if_pos (by omega)]; done)
                | (rw [if_neg (by omega)]; done)
            · rw [mput_nk cj]; exact hTJ.2 j a (by omega)
  have L40 : ∀ (n9 : Nat) (d : Nat) (A : Mm) (u3 u4 u5 : Option Value) (hd : (d : Int) ≤ M 66 24) (hu9 : bHu (M 95) h (M 66 24).toNat ≤ 9) (hTI : TI M A r h d) (hm : (M 66 24 - (d : Int)).toNat < n9), Gm E κ (pI (fun z M' => (z = 0 ∧ 9 < bHu (M 95) h (M 66 24).toNat ∧ M' = M) ∨ (z = 1 ∧ bHu (M 95) h (M 66 24).toNat ≤ 9 ∧ ∃ al be : Int → Int, TM M M' r h al be (M 66 41)))) 6 40 [some (zr E 66), some (zi h), some (zi (d : Int)), u3, u4, u5] [] A := by
    intro n9
    induction n9 with
    | zero => intro d A u3 u4 u5 hd hu9 hTI hm; exact absurd hm (Nat.not_lt_zero _)
    | succ n9 ih40 =>
      intro d A u3 u4 u5 hd hu9 hTI hm
      have e95 : A 95 = M 95 := hTI.1 95 (by decide)
      have n1 : A 66 24 = M 66 24 := hTI.2.1 24 (by decide)
      have h47 := hTI.2.2.1
      have hbl := bHu_le (M 95) h d
      have hbm := bHu_mono (M 95) h (a := d) (b := (M 66 24).toNat) (by omega)
      refine s_iload_n C dX11_takeItems_40 rfl ?_
      refine s_aload_n C dX11_takeItems_41 rfl ?_
      refine s_geti (k := 24) (j := 24) (z := M 66 24) C dX11_takeItems_42 fl_X11_196 (by decide) rfl (by decide) rfl (n1) (fun r42 => ?_)
      refine s_icmp_ge (tgt := 117) C dX11_takeItems_45 (by decide) (by omega) (by omega) (fun c45 => ?_) (fun c45 => ?_)
      · skip
        refine s_iconst C dX11_takeItems_117 ?_
        refine s_istore_n (lv' := [_, _, _, _, _, _]) C dX11_takeItems_118 (by decide) rfl rfl ?_
        have c0 : d = (M 66 24).toNat := by omega
        subst c0
        exact L119 _ 0 A _ _ _ (by omega) hu9 ⟨⟨A, hTI, Sm.rf A _⟩, fun j a b => by omega⟩ (Nat.lt_succ_self _)
      · skip
        refine s_aload_n C dX11_takeItems_48 rfl ?_
        refine s_getr (k := 38) (b := 95) C dX11_takeItems_49 fl_X11_100 (by decide) rfl (by decide) rfl ?_
        refine s_iload_n C dX11_takeItems_52 rfl ?_
        refine s_iaload (n := 24) (z := M 95 (d : Int)) C dX11_takeItems_53 (by decide) rfl rfl (by omega) (by omega) (by omega) (by rw [e95]) (fun r53 => ?_)
        refine s_iload_n C dX11_takeItems_54 rfl ?_
        refine s_icmp_eq (tgt := 61) C dX11_takeItems_55 (by decide) (by omega) (by omega) (fun c55 => ?_) (fun c55 => ?_)
        · skip
          obtain ⟨l, u, hv⟩ := hT.iv (i := (d : Int)) (by omega)
          have hb1 := bHu_mono (M 95) h (a := d + 1) (b := (M 66 24).toNat) (by omega)
          rw [bHu_s, if_pos c55] at hb1
          have hv1 := hv.1
          refine s_aload_n C dX11_takeItems_61 rfl ?_
          refine s_getr (k := 44) (b := 98) C dX11_takeItems_62 fl_X11_109 (by decide) rfl (by decide) rfl ?_
          refine s_aload_n C dX11_takeItems_65 rfl ?_
          refine s_geti (k := 47) (j := 47) (z := A 66 47) C dX11_takeItems_66 fl_X11_271 (by decide) rfl (by decide) rfl (rfl) (fun r66 => ?_)
          refine s_iload_n C dX11_takeItems_69 rfl ?_
          refine s_iastore (n := 10) C dX11_takeItems_70 (by decide) rfl rfl (by omega) (by omega) (by omega) (by omega) ?_
          refine s_aload_n C dX11_takeItems_71 rfl ?_
          refine s_getr (k := 45) (b := 99) C dX11_takeItems_72 fl_X11_112 (by decide) rfl (by decide) rfl ?_
          refine s_aload_n C dX11_takeItems_75 rfl ?_
          refine s_geti (k := 47) (j := 47) (z := A 66 47) C dX11_takeItems_76 fl_X11_271 (by decide) rfl (by decide) rfl (by rw [mput_ne (by decide)]) (fun r76 => ?_)
          refine s_aload_n C dX11_takeItems_79 rfl ?_
          refine s_iload_n C dX11_takeItems_80 rfl ?_
          refine s_callV1 C dX11_takeItems_81 cy_X11_partSize cv_X11_partSize lk_X11_259 (ct_X11_partSize E (mput A 98 (A 66 47) (d : Int)) r (by rw [mput_ne (by decide), n1]; exact hn) (by rw [mput_ne (by decide), mput_ne (by decide), e95, n1]; exact hT) (d : Int) (by rw [mput_ne (by decide), n1]; omega)) (by decide) (by decide) (by first | decide | (decide)) rfl (Nat.le_of_ble_eq_true rfl) (k_P (fun z81 q81 => ?_))
          rw [mput_ne (by decide), mput_ne (by decide), e95, n1] at q81
          have q81b := q81 l u hv
          clear q81
          subst q81b
          refine s_iastore (n := 10) C dX11_takeItems_84 (by decide) rfl rfl (by omega) (by omega) (by omega) (by omega) ?_
          refine s_aload_n C dX11_takeItems_85 rfl ?_
          refine s_getr (k := 46) (b := 100) C dX11_takeItems_86 fl_X11_115 (by decide) rfl (by decide) rfl ?_
          refine s_aload_n C dX11_takeItems_89 rfl ?_
          refine s_geti (k := 47) (j := 47) (z := A 66 47) C dX11_takeItems_90 fl_X11_271 (by decide) rfl (by decide) rfl (by rw [mput_ne (by decide), mput_ne (by decide)]) (fun r90 => ?_)
          refine s_iload_n C dX11_takeItems_93 rfl ?_
          refine s_aload_n C dX11_takeItems_94 rfl ?_
          refine s_iload_n C dX11_takeItems_95 rfl ?_
          refine s_callV1 C dX11_takeItems_96 cy_X11_partBegin cv_X11_partBegin lk_X11_274 (ct_X11_partBegin E (mput (mput A 98 (A 66 47) (d : Int)) 99 (A 66 47) (u - l + 1)) r (by rw [mput_ne (by decide), mput_ne (by decide), n1]; exact hn) (by rw [mput_ne (by decide), mput_ne (by decide), mput_ne (by decide), mput_ne (by decide), e95, n1]; exact hT) (d : Int) (by rw [mput_ne (by decide), mput_ne (by decide), n1]; omega)) (by decide) (by decide) (by first | decide | (decide)) rfl (Nat.le_of_ble_eq_true rfl) (k_P (fun z96 q96 => ?_))
          rw [mput_ne (by decide), mput_ne (by decide), mput_ne (by decide), mput_ne (by decide), e95, n1] at q96
          have q96b := q96 l u hv
          clear q96
          subst q96b
          refine s_isub C dX11_takeItems_99 ?_
          refine s_iastore (n := 10) C dX11_takeItems_100 (by decide) rfl rfl (by omega) (by omega) (by omega) (by omega) ?_
          refine s_aload_n C dX11_takeItems_101 rfl ?_
          refine s_dup C dX11_takeItems_102 rfl ?_
          refine s_geti (k := 47) (j := 47) (z := A 66 47) C dX11_takeItems_103 fl_X11_271 (by decide) rfl (by decide) rfl (by rw [mput_ne (by decide), mput_ne (by decide), mput_ne (by decide)]) (fun r103 => ?_)
          refine s_iconst C dX11_takeItems_106 ?_
          refine s_iadd C dX11_takeItems_107 ?_
          refine s_puti (k := 47) (j := 47) C dX11_takeItems_108 fp_X11_271 (by decide) rfl rfl rfl (by omega) ?_
          refine s_iinc (lv' := [_, _, _, _, _, _]) C dX11_takeItems_111 rfl (by decide) rfl rfl rfl ?_
          refine s_goto (tgt := 40) C dX11_takeItems_114 (by decide) ?_
          first
            | exact ih40 (d + 1) A _ _ _ (by omega) hu9 (hTI.skip c55) (by omega)
            | exact ih40 (d + 1) _ _ _ _ (by omega) hu9 (hTI.take c55 hv) (by omega)
        · skip
          refine s_goto (tgt := 111) C dX11_takeItems_58 (by decide) ?_
          refine s_iinc (lv' := [_, _, _, _, _, _]) C dX11_takeItems_111 rfl (by decide) rfl rfl rfl ?_
          refine s_goto (tgt := 40) C dX11_takeItems_114 (by decide) ?_
          first
            | exact ih40 (d + 1) A _ _ _ (by omega) hu9 (hTI.skip c55) (by omega)
            | exact ih40 (d + 1) _ _ _ _ (by omega) hu9 (hTI.take c55 hv) (by omega)
  refine s_aload_n C dX11_takeItems_0 rfl ?_
  refine s_iload_n C dX11_takeItems_1 rfl ?_
  refine s_callV1 C dX11_takeItems_2 cy_X11_hanging cv_X11_hanging lk_X11_256 (ct_X11_hanging E M h (by omega) (by omega)) (by decide) (by decide) (by first | decide | (decide)) rfl (Nat.le_of_ble_eq_true rfl) (k_P (fun z2 q2 => ?_))
  have hbl := bHu_le (M 95) h (M 66 24).toNat
  subst q2
  refine s_bipush C dX11_takeItems_5 (by decide) ?_
  refine s_icmp_le (tgt := 12) C dX11_takeItems_7 (by decide) (by omega) (by omega) (fun c7 => ?_) (fun c7 => ?_)
  · skip
    refine s_aload_n C dX11_takeItems_12 rfl ?_
    refine s_iconst C dX11_takeItems_13 ?_
    refine s_puti (k := 47) (j := 47) C dX11_takeItems_14 fp_X11_271 (by decide) rfl rfl rfl (by omega) ?_
    refine s_aload_n C dX11_takeItems_17 rfl ?_
    refine s_getr (k := 44) (b := 98) C dX11_takeItems_18 fl_X11_109 (by decide) rfl (by decide) rfl ?_
    refine s_iconst C dX11_takeItems_21 ?_
    refine s_iload_n C dX11_takeItems_22 rfl ?_
    refine s_iastore (n := 10) C dX11_takeItems_23 (by decide) rfl rfl (by omega) (by omega) (by omega) (by omega) ?_
    refine s_aload_n C dX11_takeItems_24 rfl ?_
    refine s_getr (k := 45) (b := 99) C dX11_takeItems_25 fl_X11_112 (by decide) rfl (by decide) rfl ?_
    refine s_iconst C dX11_takeItems_28 ?_
    refine s_iconst C dX11_takeItems_29 ?_
    refine s_iastore (n := 10) C dX11_takeItems_30 (by decide) rfl rfl (by omega) (by omega) (by omega) (by omega) ?_
    refine s_aload_n C dX11_takeItems_31 rfl ?_
    refine s_getr (k := 46) (b := 100) C dX11_takeItems_32 fl_X11_115 (by decide) rfl (by decide) rfl ?_
    refine s_iconst C dX11_takeItems_35 ?_
    refine s_iconst C dX11_takeItems_36 ?_
    refine s_iastore (n := 10) C dX11_takeItems_37 (by decide) rfl rfl (by omega) (by omega) (by omega) (by omega) ?_
    refine s_iconst C dX11_takeItems_38 ?_
    refine s_istore_n (lv' := [_, _, _, _, _, _]) C dX11_takeItems_39 (by decide) rfl rfl ?_
    refine L40 _ 0 _ _ _ _ (by omega) (by omega) ⟨((((Sm.rf M _).put (by decide)).put (by decide)).put (by decide)).put (by decide), fun k hk => ?_, ?_, ⟨?_, ?_, ?_⟩, fun q hq => by omega⟩ (Nat.lt_succ_self _)
    · rw [mput_ne (by decide), mput_ne (by decide), mput_ne (by decide), mput_nk hk]
    · rw [mput_ne (by decide), mput_ne (by decide), mput_ne (by decide), mput_eq]; rfl
    · rw [mput_ne (by decide), mput_ne (by decide), mput_eq]
    · rw [mput_ne (by decide), mput_eq]
    · rw [mput_eq]
  · skip
    refine s_iconst C dX11_takeItems_10 ?_
    exact s_zreturn C dX11_takeItems_11 (by decide) (⟨_, rfl, Or.inl ⟨rfl, by omega, rfl⟩⟩)
