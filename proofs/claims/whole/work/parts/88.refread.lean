/-- paragraphs are small numbers -/
def PB (t : Nat) (S : Mm) (k : Int) : Prop := (S 16 2 = 0 ∨ S 16 2 = 1) ∧ (S 16 3 = 0 ∨ S 16 3 = 1) ∧ (0 ≤ S 16 6 ∧ S 16 6 ≤ k) ∧ ∀ q, 0 ≤ q → q < S t 7 → 0 ≤ S (t + 6) q ∧ S (t + 6) q ≤ k
theorem PB.mrk {t : Nat} {S S' : Mm} {p b k : Int} {g : Int → Int} (h : PB t S k) (m : Mrk t S S' p b g) (g2 : g 2 = 0) (g3 : g 3 = 0 ∨ g 3 = 1) (g6 : g 6 = S 16 6) : PB t S' (k + 1) := by
  obtain ⟨h1, h2, h3, h4⟩ := h
  obtain ⟨m1, m2, m3, m4, m5, m6, m7, m8⟩ := m
  refine ⟨Or.inl (by rw [m1, g2]), by rw [m1]; exact g3, by rw [m1, g6]; omega, fun q q0 q1 => ?_⟩
  rw [m2] at q1
  have := h4 q q0 q1
  rw [m8]; omega
theorem PB_s {t : Nat} (ht : t = 17 ∨ t = 24) {S : Mm} {p b k : Int} (h : PB t S k) (h0 : S 16 0 = 0) (h0' : sByte t S p b 16 0 = 0) : PB t (sByte t S p b) (k + 1) := by
  have hh := h
  obtain ⟨h1, h2, h3, h4⟩ := hh
  by_cases hb : ofW b
  · rcases h1 with h1 | h1
    · rcases h2 with h2 | h2
      · by_cases c : S t 7 < 24
        · obtain ⟨⟨f0, f1, f2, f3, f4, f5, f6⟩, ⟨a6, a7⟩, _, _, _, _, _, a⟩ := st_first ht (p := p) (b := b) h0 h1 h2 c hb
          have hpa : 0 ≤ (if S 16 5 = 0 then S 16 6 else S 16 6 + 1) ∧ (if S 16 5 = 0 then S 16 6 else S 16 6 + 1) ≤ k + 1 := by split <;> omega
          refine ⟨Or.inr f2, Or.inr f3, by rw [f6]; exact hpa, fun q q0 q1 => ?_⟩
          rw [a q]
          by_cases e : q = S t 7
          · rw [if_pos e]; exact hpa
          · rw [if_neg e]
            have := h4 q q0 (by omega)
            omega
        · have := (st_f4 ht (p := p) (b := b) h1 h2 (by omega) hb).1; omega
      · by_cases c : S (t + 5) (S t 7 - 1) < 40
        · obtain ⟨⟨f0, f1, f2, f3, f4, f5, f6⟩, ⟨a6, a7⟩, _, _, _, _, _, a⟩ := st_word ht (p := p) (b := b) h0 h1 h2 c hb
          refine ⟨Or.inr f2, Or.inr (by rw [f3, h2]), by rw [f6]; omega, fun q q0 q1 => ?_⟩
          have := h4 q q0 (by omega)
          rw [a]; omega
        · have := (st_f3 ht (p := p) (b := b) h1 h2 (by omega) hb).1; omega
    · by_cases c : S (t + 3) (S t 6 - 1) < 16
      · obtain ⟨f, a7, _, _, _, _, _, a⟩ := st_letter ht (p := p) (b := b) h1 c hb
        refine ⟨by rw [f]; exact Or.inr h1, by rw [f]; exact h2, by rw [f]; omega, fun q q0 q1 => ?_⟩
        rw [a7] at q1
        have := h4 q q0 q1
        rw [a]; omega
      · have := (st_f2 ht (p := p) (b := b) h1 (by omega) hb).1; omega
  · by_cases n1 : b = 32
    · exact h.mrk (st_blk ht n1) (by unfold gBlk; simp) (by unfold gBlk; simpa using h2) (by unfold gBlk; simp)
    · by_cases n2 : b = 10
      · refine h.mrk (st_lin ht n2) (by unfold gLin; simp) (by unfold gLin; simpa using h2) (by unfold gLin; simp)
      · by_cases n3 : b = 44 ∨ b = 58 ∨ b = 59
        · exact h.mrk (st_com ht n3) (by unfold gCom; simp) (by unfold gCom; simpa using h2) (by unfold gCom; simp)
        · by_cases n4 : b = 46 ∨ b = 33 ∨ b = 63
          · rcases h2 with h2 | h2
            · have := (st_f5 ht (p := p) (b := b) h2 n4).1; omega
            · exact h.mrk (st_end ht h2 n4) (by unfold gEnd; simp) (by unfold gEnd; simp) (by unfold gEnd; simp)
          · have := (st_f1 ht (S := S) (p := p) (b := b) hb n1 n2 n3 n4).1; omega
theorem PB_i {t : Nat} (ht : t = 17 ∨ t = 24) (N : Mm) : ∀ k : Nat, SS t N k 16 0 = 0 → PB t (SS t N k) (k : Int) := by
  intro k
  induction k with
  | zero =>
    intro _
    have e : SS t N 0 = sClear t N := rfl
    rw [e]
    unfold PB sClear
    rcases ht with rfl | rfl
    · refine ⟨Or.inl ?_, Or.inl ?_, ?_, fun q q0 q1 => ?_⟩
      · simp [mput_ev]
      · simp [mput_ev]
      · simp [mput_ev]
      · simp [mput_ev] at q1; omega
    · refine ⟨Or.inl ?_, Or.inl ?_, ?_, fun q q0 q1 => ?_⟩
      · simp [mput_ev]
      · simp [mput_ev]
      · simp [mput_ev]
      · simp [mput_ev] at q1; omega
  | succ k ih =>
    intro h
    by_cases c : SS t N k 16 0 = 0
    · have e := SS_s ht c
      rw [e] at h ⊢
      exact PB_s ht (ih c) c h
    · exfalso
      have e : SS t N (k + 1) = SS t N k := by unfold SS at *; rw [sIt, if_neg c]
      rw [e] at h
      exact c h
theorem par_bd {t : Nat} (ht : t = 17 ∨ t = 24) {N : Mm} {n : Int} (hn : 0 ≤ n ∧ n ≤ 3000) (hN : N 1 1 = n) (h : rScan N t 16 0 = 0) : ∀ q, 0 ≤ q → q < rScan N t t 7 → 0 ≤ rScan N t (t + 6) q ∧ rScan N t (t + 6) q ≤ 3000 := by
  have e : rScan N t = SS t N n.toNat := by
    unfold rScan sFin at h ⊢
    rw [hN] at h ⊢
    by_cases c : sIt t (sClear t N) n.toNat 16 0 = 0 ∧ (sIt t (sClear t N) n.toNat 16 3 ≠ 0 ∨ sIt t (sClear t N) n.toNat t 7 = 0)
    · rw [if_pos c] at h
      unfold sNote at h
      rw [mput_nk (by decide), mput_eq] at h
      omega
    · rw [if_neg c]; rfl
  rw [e] at h ⊢
  intro q q0 q1
  have := (PB_i ht N n.toNat h).2.2.2 q q0 q1
  omega
def rB (M : Mm) : Mm := mput (mput (mput M 66 1 0) 66 26 0) 66 27 (-1)
def rdO (N M M' : Mm) (t : Nat) (n z : Int) : Prop := z = rScan N t t 7 ∧ rScan N t 16 0 = 0 ∧ rScan N t 16 1 = -1 ∧ 1 ≤ z ∧ Sm M M' [80, 81, 82, 83] ∧ TX t (rScan N t) n ∧ TMt t (rScan N t) M' (-1) ∧ ∀ s, 0 ≤ s → s < z → M' 82 s = rScan N t (t + 5) s
/-- one word, and one sentence, as it is kept -/
def DnB (t : Nat) (S A : Mm) (i w j : Int) : Prop := ∀ x, 0 ≤ x → x < j → A 77 (16 * (40 * i + w) + x) = S (t + 1) (S (t + 2) (S (t + 4) i + w) + x)
def DnW (t : Nat) (S A : Mm) (i w : Int) : Prop := ∀ x, 0 ≤ x → x < w → A 78 (40 * i + x) = S (t + 3) (S (t + 4) i + x) ∧ DnB t S A i x (S (t + 3) (S (t + 4) i + x))
def DnH (t : Nat) (S A : Mm) (i : Int) : Prop := A 79 i = S (t + 5) i ∧ A 84 i = S (t + 6) i ∧ A 85 i = i
def Dn (t : Nat) (S A : Mm) (i : Int) : Prop := ∀ x, 0 ≤ x → x < i → DnH t S A x ∧ DnW t S A x (S (t + 5) x)
def rdC (D A : Mm) (z : Int) : Prop := Sm D A [66, 77, 78, 79, 84, 85] ∧ (∀ k : Int, k ≠ 24 → k ≠ 41 → A 66 k = D 66 k) ∧ A 66 24 = z ∧ A 66 41 = 0
def rdQ (N M M' : Mm) (t : Nat) (n z : Int) : Prop := (z = -1 ∧ rScan N t 16 0 ≠ 0 ∧ Sm M M' [66, 80, 81, 82, 83] ∧ (∀ k : Int, k ≠ 1 → k ≠ 26 → k ≠ 27 → M' 66 k = M 66 k) ∧ M' 66 1 = 0 ∧ M' 66 26 = rScan N t 16 0 ∧ M' 66 27 = rScan N t 16 1) ∨ (z = rScan N t t 7 ∧ rScan N t 16 0 = 0 ∧ rScan N t 16 1 = -1 ∧ 1 ≤ z ∧ TX t (rScan N t) n ∧ Sm M M' [66, 77, 78, 79, 80, 81, 82, 83, 84, 85] ∧ (∀ k : Int, k ≠ 1 → k ≠ 24 → k ≠ 25 → k ≠ 26 → k ≠ 27 → k ≠ 32 → k ≠ 41 → M' 66 k = M 66 k) ∧ (M' 66 1 = 0 ∧ M' 66 24 = z ∧ M' 66 25 = rScan N t (t + 6) (z - 1) + 1 ∧ M' 66 26 = 0 ∧ M' 66 27 = -1 ∧ M' 66 32 = 0 ∧ M' 66 41 = 0) ∧ Dn t (rScan N t) M' z)
theorem rB_v (M : Mm) : (∀ k : Int, k ≠ 1 → k ≠ 26 → k ≠ 27 → rB M 66 k = M 66 k) ∧ rB M 66 1 = 0 ∧ rB M 66 26 = 0 ∧ rB M 66 27 = -1 ∧ Sm M (rB M) [66] := by
  unfold rB
  refine ⟨fun k a b c => by rw [mput_nk c, mput_nk b, mput_nk a], ?_, ?_, ?_, ((((Sm.rf M _).put (by decide)).put (by decide)).put (by decide))⟩
  · rw [mput_nk (by decide), mput_nk (by decide), mput_eq]
  · rw [mput_nk (by decide), mput_eq]
  · rw [mput_eq]
theorem DnB.put {t : Nat} {S A : Mm} {i w j v p : Int} (h : DnB t S A i w j) (hp : ∀ x, 0 ≤ x → x < j → 16 * (40 * i + w) + x ≠ p) : DnB t S (mput A 77 p v) i w j := fun x a b => by rw [mput_nk (hp x a b)]; exact h x a b
theorem DnB.ne {t : Nat} {S A : Mm} {i w j k v : Int} {a : Nat} (ha : a ≠ 77) (h : DnB t S A i w j) : DnB t S (mput A a k v) i w j := fun x p q => by rw [mput_ne (fun e => ha e.symm)]; exact h x p q
/-- a text's sentence i has at most 40 words of 16 -/
theorem TX.len {t : Nat} {S : Mm} {k i w : Int} (h : TX t S k) (h0 : 0 ≤ i) (h1 : i < S t 7) (h2 : 0 ≤ w) (h3 : w < S (t + 5) i) : (1 ≤ S (t + 5) i ∧ S (t + 5) i ≤ 40) ∧ 1 ≤ S (t + 3) (S (t + 4) i + w) ∧ S (t + 3) (S (t + 4) i + w) ≤ 16 := by
  have k1 := h.2.2.2.1 i h0 h1
  have k2 := h.2.2.1 (S (t + 4) i + w) (by omega) (by omega)
  exact ⟨k1.2.1, k2.2.1, k2.2.2.1⟩
theorem Dn.byte {t : Nat} {S A : Mm} {n i w p v : Int} (hX : TX t S n) (h : Dn t S A i) (h0 : 0 ≤ i) (hi : i ≤ S t 7) (hw : 0 ≤ w) (hp : 16 * (40 * i + w) ≤ p) : Dn t S (mput A 77 p v) i := by
  intro x a b
  obtain ⟨g1, g2⟩ := h x a b
  refine ⟨by unfold DnH at *; rw [mput_ne (by decide), mput_ne (by decide), mput_ne (by decide)]; exact g1, fun y c d => ?_⟩
  have hl := hX.len a (by omega) c d
  refine ⟨by rw [mput_ne (by decide)]; exact (g2 y c d).1, (g2 y c d).2.put (fun z z0 z1 => by omega)⟩
theorem Dn.len78 {t : Nat} {S A : Mm} {n i w v : Int} (hX : TX t S n) (h : Dn t S A i) (h0 : 0 ≤ i) (hi : i ≤ S t 7) (hw : 0 ≤ w) : Dn t S (mput A 78 (40 * i + w) v) i := by
  intro x a b
  obtain ⟨g1, g2⟩ := h x a b
  refine ⟨by unfold DnH at *; rw [mput_ne (by decide), mput_ne (by decide), mput_ne (by decide)]; exact g1, fun y c d => ?_⟩
  have hl := hX.len a (by omega) c d
  refine ⟨by rw [mput_nk (by omega)]; exact (g2 y c d).1, (g2 y c d).2.ne (by decide)⟩
theorem Dn.head {t : Nat} {S A : Mm} {i v1 v2 v3 : Int} (h : Dn t S A i) : Dn t S (mput (mput (mput A 79 i v1) 84 i v2) 85 i v3) i := by
  intro x a b
  obtain ⟨g1, g2⟩ := h x a b
  refine ⟨?_, fun y c d => ?_⟩
  · unfold DnH at *
    rw [mput_ne (by decide : (79 : Nat) ≠ 85), mput_ne (by decide : (79 : Nat) ≠ 84), mput_nk (by omega), mput_ne (by decide : (84 : Nat) ≠ 85), mput_nk (by omega), mput_ne (by decide : (84 : Nat) ≠ 79), mput_nk (by omega), mput_ne (by decide : (85 : Nat) ≠ 84), mput_ne (by decide : (85 : Nat) ≠ 79)]
    exact g1
  · refine ⟨by rw [mput_ne (by decide), mput_ne (by decide), mput_ne (by decide)]; exact (g2 y c d).1, (((g2 y c d).2.ne (by decide)).ne (by decide)).ne (by decide)⟩
theorem rdC.put {D A : Mm} {z k v : Int} {a : Nat} (h : rdC D A z) (ha : a ∈ [77, 78, 79, 84, 85]) : rdC D (mput A a k v) z := by
  have h66 : (66 : Nat) ≠ a := fun e => by rw [← e] at ha; exact absurd ha (by decide)
  refine ⟨h.1.put (List.mem_cons_of_mem _ ha), fun q q1 q2 => by rw [mput_ne h66]; exact h.2.1 q q1 q2, by rw [mput_ne h66]; exact h.2.2.1, by rw [mput_ne h66]; exact h.2.2.2⟩

set_option maxRecDepth 20000 in
set_option maxHeartbeats 4000000 in
theorem ct_X11_read (E : Ev) (N M : Mm) (t : Nat) (ht : t = 17 ∨ t = 24) (n : Int) (hn3 : 0 ≤ n ∧ n ≤ 3000) (hNn : N 1 1 = n) (h1n : M 66 1 = n) (hTp : TpR N M n) : Ct E yX11_read cX11_read 6 (some .int) 2 [zr E 66] M (pI (fun z M' => rdQ N M M' t n z)) := by
  refine Ct.of (own := RX11) (lv0 := [some (zr E 66), none, none, none, none, none]) (by decide) rfl (Nat.le_of_ble_eq_true rfl) rfl (fun κ C => ?_)
  have L45 : ∀ (n9 : Nat) (i z : Int) (A D : Mm) (u4 u5 : Option Value) (hi : 0 ≤ i ∧ i ≤ z) (hR : rdO N (rB M) D t n z) (hC : rdC D A z) (hD : Dn t (rScan N t) A i) (hm : (z - i).toNat < n9), Gm E κ (pI (fun z M' => rdQ N M M' t n z)) 6 45 [some (zr E 66), some (zi n), some (zi z), some (zi i), u4, u5] [] A := by
    intro n9
    induction n9 with
    | zero => intro i z A D u4 u5 hi hR hC hD hm; exact absurd hm (Nat.not_lt_zero _)
    | succ n9 ih45 =>
      intro i z A D u4 u5 hi hR hC hD hm
      have hR0 := hR
      obtain ⟨o1, o2, o3, o4, o5, o6, o7, o8⟩ := hR
      have hz24 : z ≤ 24 := by rw [o1]; exact o6.1.2
      have a80 : A 80 = D 80 := hC.1 80 (by decide)
      have a81 : A 81 = D 81 := hC.1 81 (by decide)
      have a82 : A 82 = D 82 := hC.1 82 (by decide)
      have a83 : A 83 = D 83 := hC.1 83 (by decide)
      have L90 : ∀ (n9 : Nat) (w : Int) (A2 : Mm) (u5 : Option Value) (hil : i < z) (hw : 0 ≤ w ∧ w ≤ (rScan N t) (t + 5) i) (hC2 : rdC D A2 z) (hD2 : Dn t (rScan N t) A2 i) (hH2 : DnH t (rScan N t) A2 i) (hW2 : DnW t (rScan N t) A2 i w) (hm : ((rScan N t) (t + 5) i - w).toNat < n9), Gm E κ (pI (fun z M' => rdQ N M M' t n z)) 6 90 [some (zr E 66), some (zi n), some (zi z), some (zi i), some (zi (40 * i + w)), u5] [] A2 := by
        intro n9
        induction n9 with
        | zero => intro w A2 u5 hil hw hC2 hD2 hH2 hW2 hm; exact absurd hm (Nat.not_lt_zero _)
        | succ n9 ih90 =>
          intro w A2 u5 hil hw hC2 hD2 hH2 hW2 hm
          have b80 : A2 80 = D 80 := hC2.1 80 (by decide)
          have b81 : A2 81 = D 81 := hC2.1 81 (by decide)
          have h5 := (o6.2.2.2.1 i hi.1 (by omega)).2.1
          have L123 : ∀ (n9 : Nat) (j : Int) (A3 : Mm) (hwl : w < (rScan N t) (t + 5) i) (hj : 0 ≤ j ∧ j ≤ (rScan N t) (t + 3) ((rScan N t) (t + 4) i + w)) (hC3 : rdC D A3 z) (hD3 : Dn t (rScan N t) A3 i) (hH3 : DnH t (rScan N t) A3 i) (hW3 : DnW t (rScan N t) A3 i w) (h78 : A3 78 (40 * i + w) = (rScan N t) (t + 3) ((rScan N t) (t + 4) i + w)) (hB3 : DnB t (rScan N t) A3 i w j) (hm : ((rScan N t) (t + 3) ((rScan N t) (t + 4) i + w) - j).toNat < n9), Gm E κ (pI (fun z M' => rdQ N M M' t n z)) 6 123 [some (zr E 66), some (zi n), some (zi z), some (zi i), some (zi (40 * i + w)), some (zi j)] [] A3 := by
            intro n9
            induction n9 with
            | zero => intro j A3  hwl hj hC3 hD3 hH3 hW3 h78 hB3 hm; exact absurd hm (Nat.not_lt_zero _)
            | succ n9 ih123 =>
              intro j A3  hwl hj hC3 hD3 hH3 hW3 h78 hB3 hm
              have d80 : A3 80 = D 80 := hC3.1 80 (by decide)
              have hl := o6.len (i := i) (w := w) hi.1 (by omega) hw.1 hwl
              have mm := o7.1 i w hi.1 (by omega) hw.1 hwl
              refine s_iload C dX11_read_123 rfl ?_
              refine s_aload_n C dX11_read_125 rfl ?_
              refine s_getr (k := 16) (b := 78) C dX11_read_126 fl_X11_44 (by decide) rfl (by decide) rfl ?_
              refine s_iload C dX11_read_129 rfl ?_
              refine s_iaload (n := 960) (z := (rScan N t) (t + 3) ((rScan N t) (t + 4) i + w)) C dX11_read_131 (by decide) rfl rfl (by omega) (by omega) (by omega) (h78) (fun r131 => ?_)
              refine s_icmp_ge (tgt := 167) C dX11_read_132 (by decide) (by omega) (by omega) (fun c132 => ?_) (fun c132 => ?_)
              · skip
                refine s_iinc (lv' := [_, _, _, _, _, _]) C dX11_read_167 rfl (by decide) rfl rfl rfl ?_
                refine s_goto (tgt := 90) C dX11_read_170 (by decide) ?_
                rw [show 40 * i + w + 1 = 40 * i + (w + 1) by omega]
                exact ih90 (w + 1) A3 _ hil (by omega) hC3 hD3 hH3 (fun x a b => by
                  by_cases cx : x = w
                  · subst cx; exact ⟨h78, by rw [show j = rScan N t (t + 3) (rScan N t (t + 4) i + x) by omega] at hB3; exact hB3⟩
                  · exact hW3 x a (by omega)) (by omega)
              · skip
                refine s_aload_n C dX11_read_135 rfl ?_
                refine s_getr (k := 15) (b := 77) C dX11_read_136 fl_X11_41 (by decide) rfl (by decide) rfl ?_
                refine s_bipush C dX11_read_139 (by decide) ?_
                refine s_iload C dX11_read_141 rfl ?_
                refine s_imul C dX11_read_143 ?_
                refine s_iload C dX11_read_144 rfl ?_
                refine s_iadd C dX11_read_146 ?_
                refine s_aload_n C dX11_read_147 rfl ?_
                refine s_getr (k := 18) (b := 80) C dX11_read_148 fl_X11_50 (by decide) rfl (by decide) rfl ?_
                refine s_bipush C dX11_read_151 (by decide) ?_
                refine s_iload C dX11_read_153 rfl ?_
                refine s_imul C dX11_read_155 ?_
                refine s_iload C dX11_read_156 rfl ?_
                refine s_iadd C dX11_read_158 ?_
                refine s_baload (n := 15360) (z := (rScan N t) (t + 1) ((rScan N t) (t + 2) ((rScan N t) (t + 4) i + w) + j)) C dX11_read_159 (by decide) rfl rfl (by omega) (by omega) (by omega) (by rw [d80]; exact mm.2 j (by omega) (by omega)) (fun r159 => ?_)
                refine s_bastore (n := 15360) C dX11_read_160 (by decide) rfl rfl (by omega) (by omega) (by omega) (by omega) (by omega) ?_
                refine s_iinc (lv' := [_, _, _, _, _, _]) C dX11_read_161 rfl (by decide) rfl rfl rfl ?_
                refine s_goto (tgt := 123) C dX11_read_164 (by decide) ?_
                refine ih123 (j + 1) _ hwl (by omega) (hC3.put (by decide)) (hD3.byte o6 hi.1 (by omega) hw.1 (by omega)) (by unfold DnH at *; rw [mput_ne (by decide), mput_ne (by decide), mput_ne (by decide)]; exact hH3) (fun x a b => ?_) (by rw [mput_ne (by decide)]; exact h78) (fun x a b => ?_) (by omega)
                · have hlx := o6.len (i := i) (w := x) hi.1 (by omega) a (by omega)
                  exact ⟨by rw [mput_ne (by decide)]; exact (hW3 x a b).1, (hW3 x a b).2.put (fun y y0 y1 => by omega)⟩
                · by_cases cx : x = j
                  · subst cx; rw [mput_eq]
                  · rw [mput_nk (by omega)]; exact hB3 x a (by omega)
          refine s_iload C dX11_read_90 rfl ?_
          refine s_bipush C dX11_read_92 (by decide) ?_
          refine s_iload_n C dX11_read_94 rfl ?_
          refine s_imul C dX11_read_95 ?_
          refine s_aload_n C dX11_read_96 rfl ?_
          refine s_getr (k := 17) (b := 79) C dX11_read_97 fl_X11_47 (by decide) rfl (by decide) rfl ?_
          refine s_iload_n C dX11_read_100 rfl ?_
          refine s_iaload (n := 24) (z := (rScan N t) (t + 5) i) C dX11_read_101 (by decide) rfl rfl (by omega) (by omega) (by omega) (hH2.1) (fun r101 => ?_)
          refine s_iadd C dX11_read_102 ?_
          refine s_icmp_ge (tgt := 173) C dX11_read_103 (by decide) (by omega) (by omega) (fun c103 => ?_) (fun c103 => ?_)
          · skip
            refine s_iinc (lv' := [_, _, _, _, _, _]) C dX11_read_173 rfl (by decide) rfl rfl rfl ?_
            refine s_goto (tgt := 45) C dX11_read_176 (by decide) ?_
            exact ih45 (i + 1) z A2 D _ _ (by omega) hR0 hC2 (fun x a b => by
              by_cases cx : x = i
              · subst cx; exact ⟨hH2, by rw [show w = rScan N t (t + 5) x by omega] at hW2; exact hW2⟩
              · exact hD2 x a (by omega)) (by omega)
          · skip
            have hl := o6.len (i := i) (w := w) hi.1 (by omega) hw.1 (by omega)
            have mm := o7.1 i w hi.1 (by omega) hw.1 (by omega)
            have hfw := (o6.2.2.2.1 i hi.1 (by omega)).1
            refine s_aload_n C dX11_read_106 rfl ?_
            refine s_getr (k := 16) (b := 78) C dX11_read_107 fl_X11_44 (by decide) rfl (by decide) rfl ?_
            refine s_iload C dX11_read_110 rfl ?_
            refine s_aload_n C dX11_read_112 rfl ?_
            refine s_getr (k := 19) (b := 81) C dX11_read_113 fl_X11_53 (by decide) rfl (by decide) rfl ?_
            refine s_iload C dX11_read_116 rfl ?_
            refine s_iaload (n := 960) (z := (rScan N t) (t + 3) ((rScan N t) (t + 4) i + w)) C dX11_read_118 (by decide) rfl rfl (by omega) (by omega) (by omega) (by rw [b81]; exact mm.1 (by omega)) (fun r118 => ?_)
            refine s_iastore (n := 960) C dX11_read_119 (by decide) rfl rfl (by omega) (by omega) (by omega) (by omega) ?_
            refine s_iconst C dX11_read_120 ?_
            refine s_istore (lv' := [_, _, _, _, _, _]) C dX11_read_121 (by decide) rfl rfl ?_
            exact L123 _ 0 _ (by omega) (by omega) (hC2.put (by decide)) (hD2.len78 o6 hi.1 (by omega) hw.1) (by unfold DnH at *; rw [mput_ne (by decide), mput_ne (by decide), mput_ne (by decide)]; exact hH2) (fun x a b => ⟨by rw [mput_nk (by omega)]; exact (hW2 x a b).1, (hW2 x a b).2.ne (by decide)⟩) (by rw [mput_eq]) (fun x a b => by omega) (Nat.lt_succ_self _)
      refine s_iload_n C dX11_read_45 rfl ?_
      refine s_aload_n C dX11_read_46 rfl ?_
      refine s_geti (k := 24) (j := 24) (z := z) C dX11_read_47 fl_X11_196 (by decide) rfl (by decide) rfl (hC.2.2.1) (fun r47 => ?_)
      refine s_icmp_ge (tgt := 179) C dX11_read_50 (by decide) (by omega) (by omega) (fun c50 => ?_) (fun c50 => ?_)
      · skip
        have c0 : i = z := by omega
        subst c0
        have h84 := (hD (i - 1) (by omega) (by omega)).1.2.1
        have h6 := par_bd ht hn3 hNn o2 (i - 1) (by omega) (by omega)
        refine s_aload_n C dX11_read_179 rfl ?_
        refine s_aload_n C dX11_read_180 rfl ?_
        refine s_getr (k := 22) (b := 84) C dX11_read_181 fl_X11_62 (by decide) rfl (by decide) rfl ?_
        refine s_aload_n C dX11_read_184 rfl ?_
        refine s_geti (k := 24) (j := 24) (z := i) C dX11_read_185 fl_X11_196 (by decide) rfl (by decide) rfl (hC.2.2.1) (fun r185 => ?_)
        refine s_iconst C dX11_read_188 ?_
        refine s_isub C dX11_read_189 ?_
        refine s_iaload (n := 24) (z := (rScan N t) (t + 6) (i - 1)) C dX11_read_190 (by decide) rfl rfl (by omega) (by omega) (by omega) (h84) (fun r190 => ?_)
        refine s_iconst C dX11_read_191 ?_
        refine s_iadd C dX11_read_192 ?_
        refine s_puti (k := 25) (j := 25) C dX11_read_193 fp_X11_202 (by decide) rfl rfl rfl (by omega) ?_
        refine s_aload_n C dX11_read_196 rfl ?_
        refine s_iconst C dX11_read_197 ?_
        refine s_putz (k := 32) (j := 32) C dX11_read_198 fp_X11_176 (by decide) rfl rfl rfl (by decide) ?_
        refine s_aload_n C dX11_read_201 rfl ?_
        refine s_geti (k := 24) (j := 24) (z := i) C dX11_read_202 fl_X11_196 (by decide) rfl (by decide) rfl (by rw [mput_nk (by decide), mput_nk (by decide)]; exact hC.2.2.1) (fun r202 => ?_)
        exact s_ireturn C dX11_read_205 (⟨_, rfl, by
      obtain ⟨v1, v2, v3, v4, v5⟩ := rB_v M
      have x66 : ∀ q : Int, q ≠ 24 → q ≠ 41 → q ≠ 25 → q ≠ 32 → (mput (mput A 66 25 (rScan N t (t + 6) (i - 1) + 1)) 66 32 0) 66 q = rB M 66 q := fun q a b c d => by rw [mput_nk d, mput_nk c, hC.2.1 q a b, o5 66 (by decide)]
      refine Or.inr ⟨o1, o2, o3, o4, o6, ?_, fun q a b c d e f g => ?_, ⟨?_, ?_, ?_, ?_, ?_, ?_, ?_⟩, ?_⟩
      · intro a ha
        simp only [List.mem_cons, List.not_mem_nil, or_false, not_or] at ha
        rw [mput_ne ha.1, mput_ne ha.1, hC.1 a (by simp only [List.mem_cons, List.not_mem_nil, or_false]; omega), o5 a (by simp only [List.mem_cons, List.not_mem_nil, or_false]; omega)]
        exact v5 a (by simp only [List.mem_cons, List.not_mem_nil, or_false]; omega)
      · rw [x66 q b g c f]; exact v1 q a d e
      · rw [x66 1 (by decide) (by decide) (by decide) (by decide)]; exact v2
      · rw [mput_nk (by decide), mput_nk (by decide)]; exact hC.2.2.1
      · rw [mput_nk (by decide), mput_eq]
      · rw [x66 26 (by decide) (by decide) (by decide) (by decide)]; exact v3
      · rw [x66 27 (by decide) (by decide) (by decide) (by decide)]; exact v4
      · rw [mput_eq]
      · rw [mput_nk (by decide), mput_nk (by decide)]; exact hC.2.2.2
      · intro x a b
        obtain ⟨g1, g2⟩ := hD x a b
        refine ⟨by unfold DnH at *; rw [mput_ne (by decide), mput_ne (by decide), mput_ne (by decide), mput_ne (by decide), mput_ne (by decide), mput_ne (by decide)]; exact g1, fun y c d => ⟨by rw [mput_ne (by decide), mput_ne (by decide)]; exact (g2 y c d).1, ((g2 y c d).2.ne (by decide)).ne (by decide)⟩⟩⟩)
      · skip
        have h5 := (o6.2.2.2.1 i hi.1 (by omega)).2.1
        have e82 := o8 i hi.1 (by omega)
        have e83 := o7.2 i hi.1 (by omega)
        refine s_aload_n C dX11_read_53 rfl ?_
        refine s_getr (k := 17) (b := 79) C dX11_read_54 fl_X11_47 (by decide) rfl (by decide) rfl ?_
        refine s_iload_n C dX11_read_57 rfl ?_
        refine s_aload_n C dX11_read_58 rfl ?_
        refine s_getr (k := 20) (b := 82) C dX11_read_59 fl_X11_56 (by decide) rfl (by decide) rfl ?_
        refine s_iload_n C dX11_read_62 rfl ?_
        refine s_iaload (n := 24) (z := (rScan N t) (t + 5) i) C dX11_read_63 (by decide) rfl rfl (by omega) (by omega) (by omega) (by rw [a82]; exact e82) (fun r63 => ?_)
        refine s_iastore (n := 24) C dX11_read_64 (by decide) rfl rfl (by omega) (by omega) (by omega) (by omega) ?_
        refine s_aload_n C dX11_read_65 rfl ?_
        refine s_getr (k := 22) (b := 84) C dX11_read_66 fl_X11_62 (by decide) rfl (by decide) rfl ?_
        refine s_iload_n C dX11_read_69 rfl ?_
        refine s_aload_n C dX11_read_70 rfl ?_
        refine s_getr (k := 21) (b := 83) C dX11_read_71 fl_X11_59 (by decide) rfl (by decide) rfl ?_
        refine s_iload_n C dX11_read_74 rfl ?_
        refine s_iaload (n := 24) (z := (rScan N t) (t + 6) i) C dX11_read_75 (by decide) rfl rfl (by omega) (by omega) (by omega) (by rw [mput_ne (by decide), a83]; exact e83) (fun r75 => ?_)
        refine s_iastore (n := 24) C dX11_read_76 (by decide) rfl rfl (by omega) (by omega) (by omega) (by omega) ?_
        refine s_aload_n C dX11_read_77 rfl ?_
        refine s_getr (k := 23) (b := 85) C dX11_read_78 fl_X11_65 (by decide) rfl (by decide) rfl ?_
        refine s_iload_n C dX11_read_81 rfl ?_
        refine s_iload_n C dX11_read_82 rfl ?_
        refine s_iastore (n := 24) C dX11_read_83 (by decide) rfl rfl (by omega) (by omega) (by omega) (by omega) ?_
        refine s_bipush C dX11_read_84 (by decide) ?_
        refine s_iload_n C dX11_read_86 rfl ?_
        refine s_imul C dX11_read_87 ?_
        refine s_istore (lv' := [_, _, _, _, _, _]) C dX11_read_88 (by decide) rfl rfl ?_
        rw [show 40 * i = 40 * i + 0 by omega]
        exact L90 _ 0 _ _ (by omega) (by omega) (((hC.put (by decide)).put (by decide)).put (by decide)) hD.head ⟨by rw [mput_ne (by decide), mput_ne (by decide), mput_eq], by rw [mput_ne (by decide), mput_eq], by rw [mput_eq]⟩ (fun x a b => by omega) (Nat.lt_succ_self _)
  refine s_aload_n C dX11_read_0 rfl ?_
  refine s_geti (k := 1) (j := 1) (z := n) C dX11_read_1 fl_X11_136 (by decide) rfl (by decide) rfl (h1n) (fun r1 => ?_)
  refine s_istore_n (lv' := [_, _, _, _, _, _]) C dX11_read_4 (by decide) rfl rfl ?_
  refine s_aload_n C dX11_read_5 rfl ?_
  refine s_iconst C dX11_read_6 ?_
  refine s_puti (k := 1) (j := 1) C dX11_read_7 fp_X11_136 (by decide) rfl rfl rfl (by omega) ?_
  refine s_aload_n C dX11_read_10 rfl ?_
  refine s_iconst C dX11_read_11 ?_
  refine s_puti (k := 26) (j := 26) C dX11_read_12 fp_X11_186 (by decide) rfl rfl rfl (by omega) ?_
  refine s_aload_n C dX11_read_15 rfl ?_
  refine s_iconst C dX11_read_16 ?_
  refine s_puti (k := 27) (j := 27) C dX11_read_17 fp_X11_68 (by decide) rfl rfl rfl (by omega) ?_
  rw [show mput (mput (mput M 66 1 0) 66 26 0) 66 27 (-1) = rB M from rfl]
  refine s_aload_n C dX11_read_20 rfl ?_
  refine s_iload_n C dX11_read_21 rfl ?_
  refine s_callV1 C dX11_read_22 cy_X11_reads cv_X11_reads lk_X11_193 (ct_X11_reads E N (rB M) t ht n (by omega) hNn (by intro p a b; have := hTp p a b; rw [(rB_v M).2.2.2.2 67 (by decide)]; exact this)) (by decide) (by decide) (by first | decide | (decide)) rfl (Nat.le_of_ble_eq_true rfl) (k_I (fun z22 M22 q22 => ?_))
  have hz22 : z22 = -1 ∨ (1 ≤ z22 ∧ z22 ≤ 24) := by
    rcases q22 with ⟨g, _⟩ | ⟨g1, _, _, g2, _, g3, _⟩
    · exact Or.inl g
    · have := g3.1; omega
  refine s_istore_n (lv' := [_, _, _, _, _, _]) C dX11_read_25 (by decide) rfl rfl ?_
  refine s_iload_n C dX11_read_26 rfl ?_
  refine s_iconst C dX11_read_27 ?_
  refine s_icmp_ne (tgt := 33) C dX11_read_28 (by decide) (by omega) (by omega) (fun c28 => ?_) (fun c28 => ?_)
  · skip
    refine s_aload_n C dX11_read_33 rfl ?_
    refine s_iload_n C dX11_read_34 rfl ?_
    refine s_puti (k := 24) (j := 24) C dX11_read_35 fp_X11_196 (by decide) rfl rfl rfl (by omega) ?_
    refine s_aload_n C dX11_read_38 rfl ?_
    refine s_iconst C dX11_read_39 ?_
    refine s_puti (k := 41) (j := 41) C dX11_read_40 fp_X11_199 (by decide) rfl rfl rfl (by omega) ?_
    refine s_iconst C dX11_read_43 ?_
    refine s_istore_n (lv' := [_, _, _, _, _, _]) C dX11_read_44 (by decide) rfl rfl ?_
    have hR : rdO N (rB M) M22 t n z22 := by
      rcases q22 with ⟨g, _⟩ | g
      · omega
      · exact g
    exact L45 _ 0 z22 _ M22 _ _ (by omega) hR ⟨((Sm.rf _ _).put (by decide)).put (by decide), fun q a b => by rw [mput_nk b, mput_nk a], by rw [mput_nk (by decide), mput_eq], by rw [mput_eq]⟩ (fun x a b => by omega) (Nat.lt_succ_self _)
  · skip
    refine s_iconst C dX11_read_31 ?_
    exact s_ireturn C dX11_read_32 (⟨_, rfl, by
      rcases q22 with ⟨g1, g2, g3, g4, g5, g6⟩ | ⟨_, _, _, g, _⟩
      · obtain ⟨v1, v2, v3, v4, v5⟩ := rB_v M
        refine Or.inl ⟨rfl, g2, v5.tr g3 (by decide) (by decide), fun q a b c => ?_, ?_, g5, g6⟩
        · rw [g4 q b c]; exact v1 q a b c
        · rw [g4 1 (by decide) (by decide)]; exact v2
      · omega⟩)
