def CloF (L : List Nat) (F : List Int) (P : Mm → Prop) (M : Mm) : Prop := ∃ N : Mm, (∀ a, a ∈ L → N a = M a) ∧ (∀ k : Int, k ∈ F → N 66 k = M 66 k) ∧ P N
theorem CloF.sm {L : List Nat} {F : List Int} {P : Mm → Prop} {M M' : Mm} (h : CloF L F P M) (e : ∀ a, a ∈ L → M' a = M a) (e2 : ∀ k : Int, k ∈ F → M' 66 k = M 66 k) : CloF L F P M' := by
  obtain ⟨N, h1, h2, h3⟩ := h
  exact ⟨N, fun a ha => (h1 a ha).trans (e a ha).symm, fun k hk => (h2 k hk).trans (e2 k hk).symm, h3⟩
abbrev tfL : List Nat := [69, 70, 71, 72, 73, 74, 75, 76, 77, 78, 79, 84, 85, 86, 87, 88, 89, 90, 91, 95]
abbrev tfF : List Int := [6, 10, 13, 24, 39, 40]
def TF (M : Mm) : Prop := 1 ≤ M 66 24 → CloF tfL tfF TFr M
theorem TF.sm {M M' : Mm} (h : TF M) (e : ∀ a, a ∈ tfL → M' a = M a) (e2 : ∀ k : Int, k ∈ tfF → M' 66 k = M 66 k) : TF M' := by
  intro h1
  rw [e2 24 (by decide)] at h1
  exact (h h1).sm e e2
def prR (M : Mm) : Prop := (0 ≤ M 66 41 ∧ M 66 41 ≤ 20) ∧ ∀ p, 0 ≤ p → p < M 66 41 → (0 ≤ M 96 p ∧ M 96 p < M 66 24) ∧ (0 ≤ M 97 p ∧ M 97 p < M 66 24)
/-- what the reference keeps between calls -/
def RI (M : Mm) : Prop := (0 ≤ M 66 1 ∧ M 66 1 ≤ 3000) ∧ (tR M 6 70 60 ∧ tR M 10 72 30 ∧ tR M 13 75 10) ∧ (∀ q, 0 ≤ q → q < M 66 10 → 1 ≤ M 73 q ∧ M 73 q ≤ 4) ∧ wgR M ∧ eR M ∧ prR M ∧ (0 ≤ M 66 52 ∧ M 66 52 ≤ 10) ∧ (M 66 32 ≠ 0 → TF M)
abbrev tRows : List Nat := [66, 86, 87, 88, 89, 90, 91, 92, 93, 94, 95]
def Tfs (M M' : Mm) : Prop := Sm M M' tRows ∧ (∀ k : Int, k ≠ 32 → k ≠ 39 → k ≠ 40 → M' 66 k = M 66 k) ∧ M' 66 32 ≠ 0 ∧ TF M'
theorem RI.n {M : Mm} (h : RI M) : 0 ≤ M 66 24 ∧ M 66 24 ≤ 24 := h.2.2.2.2.1.1
theorem ct_mk (E : Ev) (M : Mm) (h : RI M) (hn : 1 ≤ M 66 24) : Ct E yX11_makeTree cX11_makeTree 3 none 5 [zr E 66] M (pV (fun M' => Tfs M M')) := by
  refine (ct_X11_makeTree E M h.2.2.2.2.1 ⟨hn, h.n.2⟩ h.2.2.2.1 h.2.1.1 h.2.1.2.1 h.2.1.2.2).mono ?_
  rintro r M' ⟨rfl, q⟩
  refine ⟨rfl, ?_⟩
  rcases q with ⟨q1, rfl⟩ | ⟨q1, q2, q3, q4⟩
  · exact ⟨Sm.rf _ _, fun _ _ _ _ => rfl, q1, h.2.2.2.2.2.2.2 q1⟩
  · exact ⟨q1, q2, by rw [q3]; decide, fun _ => ⟨M', fun _ _ => rfl, fun _ _ => rfl, q4⟩⟩
theorem RI.tfs {M M' : Mm} (h : RI M) (q : Tfs M M') : RI M' := by
  obtain ⟨s, s66, s32, st⟩ := q
  have e1 := s66 1 (by decide) (by decide) (by decide)
  have e6 := s66 6 (by decide) (by decide) (by decide)
  have e10 := s66 10 (by decide) (by decide) (by decide)
  have e13 := s66 13 (by decide) (by decide) (by decide)
  have e24 := s66 24 (by decide) (by decide) (by decide)
  have e41 := s66 41 (by decide) (by decide) (by decide)
  have e52 := s66 52 (by decide) (by decide) (by decide)
  unfold RI tR wgR eR prR at *
  rw [e1, e6, e10, e13, e24, e41, e52, s 70 (by decide), s 72 (by decide), s 75 (by decide), s 73 (by decide), s 76 (by decide), s 79 (by decide), s 78 (by decide), s 85 (by decide), s 96 (by decide), s 97 (by decide)]
  exact ⟨h.1, h.2.1, h.2.2.1, h.2.2.2.1, h.2.2.2.2.1, h.2.2.2.2.2.1, h.2.2.2.2.2.2.1, fun _ => st⟩
def TT (f : Int → Int) (n r : Int) : Prop := Tr f 0 (n - 1) r ∧ f r = -1
/-- the heads are a tree, keys are in bounds -/
theorem TF.tt {M : Mm} (h : TF M) (hn : 1 ≤ M 66 24 ∧ M 66 24 ≤ 24) : ∃ r, TT (M 95) (M 66 24) r := by
  obtain ⟨N, n1, n2, n3, n4, x, x1, x2, x3, x4⟩ := h hn.1
  have e24 : N 66 24 = M 66 24 := n2 24 (by decide)
  have e95 : N 95 = M 95 := n1 95 (by decide)
  rw [e24] at x1 x3
  rw [e95] at x3
  obtain ⟨_, r, r1, r2, r3⟩ := wD_P hn x1.1
  exact ⟨r, r3 _ x3, by rw [x3 r r1.1 r1.2]; exact r2⟩
theorem TF.B {M : Mm} (h : TF M) (he : eR M) (hn : 1 ≤ M 66 24) {i : Int} (hi : 0 ≤ i ∧ i < M 66 24) : KyB M i := by
  obtain ⟨N, n1, n2, n3, _⟩ := h hn
  have e24 : N 66 24 = M 66 24 := n2 24 (by decide)
  have he2 : eR N := by
    unfold eR
    rw [e24, n1 79 (by decide), n1 78 (by decide), n1 85 (by decide)]
    exact he
  have := (n3 i hi.1 (by rw [e24]; exact hi.2)).B he2 (by rw [e24]; exact hi)
  unfold KyB at *
  rw [n1 86 (by decide), n1 87 (by decide), n1 88 (by decide)] at this
  exact this
theorem TT.rg {f : Int → Int} {n r : Int} (h : TT f n r) {d : Int} (hd : 0 ≤ d ∧ d < n) : (d = r ∧ f d = -1) ∨ (d ≠ r ∧ 0 ≤ f d ∧ f d < n) := by
  by_cases c : d = r
  · subst c; exact Or.inl ⟨rfl, h.2⟩
  · have := h.1.2.1 d hd.1 (by omega) c
    exact Or.inr ⟨c, by omega⟩
/-- steps up to none -/
theorem TT.dep {f : Int → Int} {n r : Int} (h : TT f n r) {d : Int} (hd : 0 ≤ d ∧ d < n) : ∃ m : Nat, itf f m d = -1 ∧ ∀ j, j < m → itf f j d ≠ -1 := by
  obtain ⟨k, _, k1, k2⟩ := h.1.2.2.1 d hd.1 (by omega)
  refine ⟨k + 1, by rw [itf_add, k1]; exact h.2, fun j hj => ?_⟩
  have := h.1.stay j d hd.1 (by omega) (fun j2 h2 => k2 j2 (by omega))
  omega
def Iv (f : Int → Int) (n r i l u : Int) : Prop := (0 ≤ l ∧ l ≤ i ∧ i ≤ u ∧ u < n) ∧ ∀ d, 0 ≤ d → d < n → (Onw f r i d ↔ l ≤ d ∧ d ≤ u)
theorem TT.iv {f : Int → Int} {n r i : Int} (h : TT f n r) (hi : 0 ≤ i ∧ i < n) : ∃ l u, Iv f n r i l u := by
  obtain ⟨l, u, q1, q2⟩ := h.1.2.2.2 i hi.1 (by omega)
  exact ⟨l, u, by omega, fun d d0 d1 => q2 d d0 (by omega)⟩
theorem cntB_iv {f : Int → Bool} {l u : Int} : ∀ n : Nat, (∀ d : Int, 0 ≤ d → d < (n : Int) → (f d = true ↔ l ≤ d ∧ d ≤ u)) → 0 ≤ l → l ≤ u + 1 → cntB f n = max 0 (min (u + 1) (n : Int) - min l (n : Int)) := by
  intro n
  induction n with
  | zero => intro _ h1 h2; simp only [cntB]; omega
  | succ n ih =>
    intro h h1 h2
    rw [cntB, ih (fun d d0 d1 => h d d0 (by omega)) h1 h2]
    have hn := h (n : Int) (by omega) (by omega)
    by_cases c : l ≤ (n : Int) ∧ (n : Int) ≤ u
    · rw [if_pos (hn.mpr c)]; omega
    · rw [if_neg (fun q => c (hn.mp q))]; omega
def ChA (M : Mm) (X Y p : Int) : Prop := (Y = X ∧ ∀ q, 0 ≤ q → q < p → inS X (M 96 q) → inS X (M 97 q)) ∨ (Y ≠ X ∧ ∃ q, 0 ≤ q ∧ q < M 66 41 ∧ ¬ inS X (M 97 q) ∧ inS Y (M 97 q))
theorem ChA.no {M : Mm} {X Y p : Int} (h : ChA M X Y p) (hb : ¬ inS Y (M 96 p)) : ChA M X Y (p + 1) := by
  rcases h with ⟨e, h⟩ | h
  · refine Or.inl ⟨e, fun q h1 h2 h3 => ?_⟩
    by_cases c : q = p
    · subst c; rw [e] at hb; exact absurd h3 hb
    · exact h q h1 (by omega) h3
  · exact Or.inr h
theorem ChA.yes {M : Mm} {X Y p : Int} (h : ChA M X Y p) (hX : 0 ≤ X ∧ X < 2147483648) (hY : 0 ≤ Y ∧ Y < 2147483648) (hp : 0 ≤ p) (hpm : p < M 66 41) (hs : 0 ≤ M 97 p ∧ M 97 p < 24) : ChA M X (zor Y (zshl 1 (M 97 p))) (p + 1) := by
  have hin : inS (zor Y (zshl 1 (M 97 p))) (M 97 p) := (inS_or hY (by omega) _).mpr (Or.inr rfl)
  by_cases cX : inS X (M 97 p)
  · rcases h with ⟨e, h⟩ | ⟨nc, q, q1, q2, q3, q4⟩
    · refine Or.inl ⟨?_, fun q h1 h2 h3 => ?_⟩
      · rw [e]; exact zor_same hX (by omega) cX
      · by_cases c : q = p
        · rw [c]; exact cX
        · exact h q h1 (by omega) h3
    · have hq : inS (zor Y (zshl 1 (M 97 p))) (M 97 q) := (inS_or hY (by omega) _).mpr (Or.inl q4)
      exact Or.inr ⟨fun e => q3 (by rw [← e]; exact hq), q, q1, q2, q3, hq⟩
  · exact Or.inr ⟨fun e => cX (by rw [← e]; exact hin), p, hp, hpm, cX, hin⟩

set_option maxRecDepth 20000 in
set_option maxHeartbeats 4000000 in
theorem ct_X11_isOf (E : Ev) (M : Mm) (r : Int) (hn : 1 ≤ M 66 24 ∧ M 66 24 ≤ 24) (hT : TT (M 95) (M 66 24) r) (i h : Int) (hi : 0 ≤ i ∧ i < M 66 24) (hh : 0 ≤ h ∧ h < M 66 24) : Ct E yX11_isOf cX11_isOf 4 (some .boolean) 0 [zr E 66, zi i, zi h] M (pP M (fun z => Bz z (Onw (M 95) r h i))) := by
  refine Ct.of (own := RX11) (lv0 := [some (zr E 66), some (zi i), some (zi h), none]) (by decide) rfl (Nat.le_of_ble_eq_true rfl) rfl (fun κ C => ?_)
  have L2 : ∀ (n9 : Nat) (k : Int) (m : Nat) (hk : k = -1 ∨ (0 ≤ k ∧ k < M 66 24)) (he : Onw (M 95) r h i ↔ (k ≠ -1 ∧ Onw (M 95) r h k)) (hm1 : itf (M 95) m k = -1) (hm2 : ∀ j, j < m → itf (M 95) j k ≠ -1) (hm : m < n9), Gm E κ (pP M (fun z => Bz z (Onw (M 95) r h i))) 4 2 [some (zr E 66), some (zi i), some (zi h), some (zi k)] [] M := by
    intro n9
    induction n9 with
    | zero => intro k m  hk he hm1 hm2 hm; exact absurd hm (Nat.not_lt_zero _)
    | succ n9 ih2 =>
      intro k m  hk he hm1 hm2 hm
      refine s_iload_n C dX11_isOf_2 rfl ?_
      refine s_iconst C dX11_isOf_3 ?_
      refine s_icmp_eq (tgt := 22) C dX11_isOf_4 (by decide) (by omega) (by omega) (fun c4 => ?_) (fun c4 => ?_)
      · skip
        refine s_iload_n C dX11_isOf_22 rfl ?_
        refine s_iload_n C dX11_isOf_23 rfl ?_
        refine s_icmp_ne (tgt := 31) C dX11_isOf_24 (by decide) (by omega) (by omega) (fun c24 => ?_) (fun c24 => ?_)
        · skip
          refine s_iconst C dX11_isOf_31 ?_
          exact s_zreturn C dX11_isOf_32 (by decide) (⟨_, rfl, rfl, by
      first
        | (exact Bz.t (he.mpr ⟨by omega, by rw [show k = h by omega]; exact Onw.self _ _ _⟩))
        | (exact Bz.f (fun q => absurd c4 (he.mp q).1))
        | (exfalso; omega)⟩)
        · skip
          refine s_iconst C dX11_isOf_27 ?_
          refine s_goto (tgt := 32) C dX11_isOf_28 (by decide) ?_
          exact s_zreturn C dX11_isOf_32 (by decide) (⟨_, rfl, rfl, by
      first
        | (exact Bz.t (he.mpr ⟨by omega, by rw [show k = h by omega]; exact Onw.self _ _ _⟩))
        | (exact Bz.f (fun q => absurd c4 (he.mp q).1))
        | (exfalso; omega)⟩)
      · skip
        refine s_iload_n C dX11_isOf_7 rfl ?_
        refine s_iload_n C dX11_isOf_8 rfl ?_
        refine s_icmp_eq (tgt := 22) C dX11_isOf_9 (by decide) (by omega) (by omega) (fun c9 => ?_) (fun c9 => ?_)
        · skip
          refine s_iload_n C dX11_isOf_22 rfl ?_
          refine s_iload_n C dX11_isOf_23 rfl ?_
          refine s_icmp_ne (tgt := 31) C dX11_isOf_24 (by decide) (by omega) (by omega) (fun c24 => ?_) (fun c24 => ?_)
          · skip
            refine s_iconst C dX11_isOf_31 ?_
            exact s_zreturn C dX11_isOf_32 (by decide) (⟨_, rfl, rfl, by
      first
        | (exact Bz.t (he.mpr ⟨by omega, by rw [show k = h by omega]; exact Onw.self _ _ _⟩))
        | (exact Bz.f (fun q => absurd c4 (he.mp q).1))
        | (exfalso; omega)⟩)
          · skip
            refine s_iconst C dX11_isOf_27 ?_
            refine s_goto (tgt := 32) C dX11_isOf_28 (by decide) ?_
            exact s_zreturn C dX11_isOf_32 (by decide) (⟨_, rfl, rfl, by
      first
        | (exact Bz.t (he.mpr ⟨by omega, by rw [show k = h by omega]; exact Onw.self _ _ _⟩))
        | (exact Bz.f (fun q => absurd c4 (he.mp q).1))
        | (exfalso; omega)⟩)
        · skip
          have hk2 : 0 ≤ k ∧ k < M 66 24 := by omega
          have hrg := hT.rg hk2
          refine s_aload_n C dX11_isOf_12 rfl ?_
          refine s_getr (k := 38) (b := 95) C dX11_isOf_13 fl_X11_100 (by decide) rfl (by decide) rfl ?_
          refine s_iload_n C dX11_isOf_16 rfl ?_
          refine s_iaload (n := 24) C dX11_isOf_17 (by decide) rfl rfl (by omega) (by omega) (by omega) (rfl) (fun r17 => ?_)
          refine s_istore_n (lv' := [_, _, _, _]) C dX11_isOf_18 (by decide) rfl rfl ?_
          refine s_goto (tgt := 2) C dX11_isOf_19 (by decide) ?_
          cases m with
          | zero => exact absurd hm1 c4
          | succ m =>
            refine ih2 (M 95 k) m (by rcases hrg with ⟨_, g⟩ | ⟨_, g⟩; exact Or.inl g; exact Or.inr g) ?_ hm1 (fun j hj => hm2 (j + 1) (by omega)) (by omega)
            rw [he]
            constructor
            · rintro ⟨_, q⟩
              rcases q.cs with g | ⟨g1, g2⟩
              · exact absurd g c9
              · rcases hrg with ⟨g3, _⟩ | ⟨_, g3⟩
                · exact absurd g3 g1
                · exact ⟨by omega, g2⟩
            · rintro ⟨q1, q2⟩
              rcases hrg with ⟨g3, g4⟩ | ⟨g3, _⟩
              · exact absurd g4 q1
              · exact ⟨c4, q2.step g3⟩
  refine s_iload_n C dX11_isOf_0 rfl ?_
  refine s_istore_n (lv' := [_, _, _, _]) C dX11_isOf_1 (by decide) rfl rfl ?_
  obtain ⟨m, m1, m2⟩ := hT.dep hi
  exact L2 _ i m (Or.inr hi) ⟨fun q => ⟨by omega, q⟩, fun q => q.2⟩ m1 m2 (Nat.lt_succ_self _)

set_option maxRecDepth 20000 in
set_option maxHeartbeats 4000000 in
theorem ct_X11_partSize (E : Ev) (M : Mm) (r : Int) (hn : 1 ≤ M 66 24 ∧ M 66 24 ≤ 24) (hT : TT (M 95) (M 66 24) r) (h : Int) (hh : 0 ≤ h ∧ h < M 66 24) : Ct E yX11_partSize cX11_partSize 4 (some .int) 1 [zr E 66, zi h] M (pP M (fun z => ∀ l u, Iv (M 95) (M 66 24) r h l u → z = u - l + 1)) := by
  refine Ct.of (own := RX11) (lv0 := [some (zr E 66), some (zi h), none, none]) (by decide) rfl (Nat.le_of_ble_eq_true rfl) rfl (fun κ C => ?_)
  have L4 : ∀ (n9 : Nat) (d : Nat) (hd : (d : Int) ≤ M 66 24) (hm : (M 66 24 - (d : Int)).toNat < n9), Gm E κ (pP M (fun z => ∀ l u, Iv (M 95) (M 66 24) r h l u → z = u - l + 1)) 4 4 [some (zr E 66), some (zi h), some (zi (cntB (fun q => bP (Onw (M 95) r h q)) d)), some (zi (d : Int))] [] M := by
    intro n9
    induction n9 with
    | zero => intro d  hd hm; exact absurd hm (Nat.not_lt_zero _)
    | succ n9 ih4 =>
      intro d  hd hm
      refine s_iload_n C dX11_partSize_4 rfl ?_
      refine s_aload_n C dX11_partSize_5 rfl ?_
      refine s_geti (k := 24) (j := 24) C dX11_partSize_6 fl_X11_196 (by decide) rfl (by decide) rfl (rfl) (fun r6 => ?_)
      refine s_icmp_ge (tgt := 35) C dX11_partSize_9 (by decide) (by omega) (by omega) (fun c9 => ?_) (fun c9 => ?_)
      · skip
        refine s_iload_n C dX11_partSize_35 rfl ?_
        exact s_ireturn C dX11_partSize_36 (⟨_, rfl, rfl, by
      intro l u hv
      have h1 := cntB_iv (f := fun q => bP (Onw (M 95) r h q)) (l := l) (u := u) d (fun e e0 e1 => by rw [bP_iff]; exact hv.2 e e0 (by omega)) hv.1.1 (by have := hv.1; omega)
      have h2 := hv.1
      rw [h1]
      omega⟩)
      · skip
        refine s_iload_n C dX11_partSize_12 rfl ?_
        refine s_aload_n C dX11_partSize_13 rfl ?_
        refine s_iload_n C dX11_partSize_14 rfl ?_
        refine s_iload_n C dX11_partSize_15 rfl ?_
        refine s_callV2 C dX11_partSize_16 cy_X11_isOf cv_X11_isOf lk_X11_246 (ct_X11_isOf E M r hn hT (d : Int) h (by omega) hh) (by decide) (by decide) (by first | decide | (decide)) rfl (Nat.le_of_ble_eq_true rfl) (k_P (fun z16 q16 => ?_))
        refine s_if_eq (tgt := 26) C dX11_partSize_19 (by decide) (by rcases q16 with ⟨g, _⟩ | ⟨g, _⟩ <;> omega) (fun c19 => ?_) (fun c19 => ?_)
        · skip
          refine s_iconst C dX11_partSize_26 ?_
          refine s_iadd C dX11_partSize_27 ?_
          refine s_istore_n (lv' := [_, _, _, _]) C dX11_partSize_28 (by decide) rfl rfl ?_
          refine s_iinc (lv' := [_, _, _, _]) C dX11_partSize_29 rfl (by decide) rfl rfl rfl ?_
          refine s_goto (tgt := 4) C dX11_partSize_32 (by decide) ?_
          have e9 : cntB (fun q => bP (Onw (M 95) r h q)) (d + 1) = cntB (fun q => bP (Onw (M 95) r h q)) d + (if bP (Onw (M 95) r h (d : Int)) then 1 else 0) := rfl
          rcases q16 with ⟨g1, g2⟩ | ⟨g1, g2⟩
          · rw [bP_t g2, if_pos rfl] at e9
            first
              | exact absurd (g1.symm.trans c19) (by decide)
              | (rw [← e9]; exact ih4 (d + 1) (by omega) (by omega))
          · rw [bP_f g2, if_neg (by decide)] at e9
            first
              | exact absurd g1 c19
              | (rw [← e9]; exact ih4 (d + 1) (by omega) (by omega))
        · skip
          refine s_iconst C dX11_partSize_22 ?_
          refine s_goto (tgt := 27) C dX11_partSize_23 (by decide) ?_
          refine s_iadd C dX11_partSize_27 ?_
          refine s_istore_n (lv' := [_, _, _, _]) C dX11_partSize_28 (by decide) rfl rfl ?_
          refine s_iinc (lv' := [_, _, _, _]) C dX11_partSize_29 rfl (by decide) rfl rfl rfl ?_
          refine s_goto (tgt := 4) C dX11_partSize_32 (by decide) ?_
          have e9 : cntB (fun q => bP (Onw (M 95) r h q)) (d + 1) = cntB (fun q => bP (Onw (M 95) r h q)) d + (if bP (Onw (M 95) r h (d : Int)) then 1 else 0) := rfl
          rcases q16 with ⟨g1, g2⟩ | ⟨g1, g2⟩
          · rw [bP_t g2, if_pos rfl] at e9
            first
              | exact absurd (g1.symm.trans c19) (by decide)
              | (rw [← e9]; exact ih4 (d + 1) (by omega) (by omega))
          · rw [bP_f g2, if_neg (by decide)] at e9
            first
              | exact absurd g1 c19
              | (rw [← e9]; exact ih4 (d + 1) (by omega) (by omega))
  refine s_iconst C dX11_partSize_0 ?_
  refine s_istore_n (lv' := [_, _, _, _]) C dX11_partSize_1 (by decide) rfl rfl ?_
  refine s_iconst C dX11_partSize_2 ?_
  refine s_istore_n (lv' := [_, _, _, _]) C dX11_partSize_3 (by decide) rfl rfl ?_
  exact L4 _ 0 (by omega) (Nat.lt_succ_self _)

set_option maxRecDepth 20000 in
set_option maxHeartbeats 4000000 in
theorem ct_X11_partBegin (E : Ev) (M : Mm) (r : Int) (hn : 1 ≤ M 66 24 ∧ M 66 24 ≤ 24) (hT : TT (M 95) (M 66 24) r) (h : Int) (hh : 0 ≤ h ∧ h < M 66 24) : Ct E yX11_partBegin cX11_partBegin 3 (some .int) 1 [zr E 66, zi h] M (pP M (fun z => ∀ l u, Iv (M 95) (M 66 24) r h l u → z = l)) := by
  refine Ct.of (own := RX11) (lv0 := [some (zr E 66), some (zi h), none]) (by decide) rfl (Nat.le_of_ble_eq_true rfl) rfl (fun κ C => ?_)
  obtain ⟨l0, u0, hv0⟩ := hT.iv hh
  have hv1 := hv0.1
  have L2 : ∀ (n9 : Nat) (d : Int) (hd : 0 ≤ d ∧ d ≤ l0) (hm : (l0 - d).toNat < n9), Gm E κ (pP M (fun z => ∀ l u, Iv (M 95) (M 66 24) r h l u → z = l)) 3 2 [some (zr E 66), some (zi h), some (zi d)] [] M := by
    intro n9
    induction n9 with
    | zero => intro d  hd hm; exact absurd hm (Nat.not_lt_zero _)
    | succ n9 ih2 =>
      intro d  hd hm
      refine s_aload_n C dX11_partBegin_2 rfl ?_
      refine s_iload_n C dX11_partBegin_3 rfl ?_
      refine s_iload_n C dX11_partBegin_4 rfl ?_
      refine s_callV2 C dX11_partBegin_5 cy_X11_isOf cv_X11_isOf lk_X11_246 (ct_X11_isOf E M r hn hT d h (by omega) hh) (by decide) (by decide) (by first | decide | (decide)) rfl (Nat.le_of_ble_eq_true rfl) (k_P (fun z5 q5 => ?_))
      refine s_if_ne (tgt := 17) C dX11_partBegin_8 (by decide) (by rcases q5 with ⟨g, _⟩ | ⟨g, _⟩ <;> omega) (fun c8 => ?_) (fun c8 => ?_)
      · skip
        refine s_iload_n C dX11_partBegin_17 rfl ?_
        exact s_ireturn C dX11_partBegin_18 (⟨_, rfl, rfl, by
      intro l u hv
      have hv2 := hv.1
      rcases q5 with ⟨g1, g2⟩ | ⟨g1, g2⟩
      · have a1 := (hv.2 d (by omega) (by omega)).mp g2
        have a2 := (hv.2 l0 (by omega) (by omega)).mp ((hv0.2 l0 (by omega) (by omega)).mpr (by omega))
        have a3 := (hv0.2 l (by omega) (by omega)).mp ((hv.2 l (by omega) (by omega)).mpr (by omega))
        omega
      · exact absurd g1 c8⟩)
      · skip
        refine s_iinc (lv' := [_, _, _]) C dX11_partBegin_11 rfl (by decide) rfl rfl rfl ?_
        refine s_goto (tgt := 2) C dX11_partBegin_14 (by decide) ?_
        have hne : d ≠ l0 := by
          intro e
          rcases q5 with ⟨g1, g2⟩ | ⟨g1, g2⟩
          · exact absurd (g1.symm.trans c8) (by decide)
          · exact g2 ((hv0.2 d (by omega) (by omega)).mpr (by omega))
        exact ih2 _ (by omega) (by omega)
  refine s_iconst C dX11_partBegin_0 ?_
  refine s_istore_n (lv' := [_, _, _]) C dX11_partBegin_1 (by decide) rfl rfl ?_
  exact L2 _ 0 (by omega) (Nat.lt_succ_self _)

/-- of place i, by number -/
def senR (M : Mm) (r i w z : Int) : Prop := (w = 0 → z = M 79 (M 85 i)) ∧ (w = 1 → z = M 88 i) ∧ (w = 2 → z = M 89 i) ∧ (w = 3 → z = M 84 i) ∧ (w = 4 → z = M 95 i) ∧ (w = 5 → z = bHu (M 95) i (M 66 24).toNat) ∧ (w = 6 → ∀ l u, Iv (M 95) (M 66 24) r i l u → z = u - l + 1) ∧ (w = 7 → z = M 85 i) ∧ ((w < 0 ∨ 7 < w) → z = -2)

set_option maxRecDepth 20000 in
set_option maxHeartbeats 4000000 in
theorem ct_X11_sentence (E : Ev) (M : Mm) (hI : RI M) (i w : Int) (hi : rg i) (hw : rg w) : Ct E yX11_sentence cX11_sentence 3 (some .int) 6 [zr E 66, zi i, zi w] M (pI (fun z M' => (¬ (0 ≤ i ∧ i < M 66 24) ∧ z = -2 ∧ M' = M) ∨ ((0 ≤ i ∧ i < M 66 24) ∧ ∃ r, Tfs M M' ∧ TT (M' 95) (M' 66 24) r ∧ senR M' r i w z))) := by
  refine Ct.of (own := RX11) (lv0 := [some (zr E 66), some (zi i), some (zi w)]) (by decide) rfl (Nat.le_of_ble_eq_true rfl) rfl (fun κ C => ?_)
  refine s_aload_n C dX11_sentence_0 rfl ?_
  refine s_iload_n C dX11_sentence_1 rfl ?_
  refine s_callV1 C dX11_sentence_2 cy_X11_isHere cv_X11_isHere lk_X11_250 (ct_X11_isHere E M i hi hI.n) (by decide) (by decide) (by first | decide | (decide)) rfl (Nat.le_of_ble_eq_true rfl) (k_P (fun z2 q2 => ?_))
  have k2 : (z2 = 1 ∧ (0 ≤ i ∧ i ≤ M 66 24 - 1)) ∨ (z2 = 0 ∧ ¬ (0 ≤ i ∧ i ≤ M 66 24 - 1)) := q2
  clear q2
  refine s_if_ne (tgt := 11) C dX11_sentence_5 (by decide) (by omega) (fun c5 => ?_) (fun c5 => ?_)
  · skip
    refine s_aload_n C dX11_sentence_11 rfl ?_
    refine s_callV0 C dX11_sentence_12 cy_X11_makeTree cv_X11_makeTree lk_X11_253 (ct_mk E M hI (by omega)) (by decide) (by decide) (by first | decide | (decide)) rfl (Nat.le_of_ble_eq_true rfl) (k_V (fun M12 q12 => ?_))
    have hI2 := hI.tfs q12
    have n2 : M12 66 24 = M 66 24 := q12.2.1 24 (by decide) (by decide) (by decide)
    have hn := hI.n
    have hn2 : 1 ≤ M12 66 24 ∧ M12 66 24 ≤ 24 := by omega
    have hTF := q12.2.2.2
    obtain ⟨r, hT⟩ := hTF.tt hn2
    have hat := hI2.2.2.2.2.1.2.2 i (by omega) (by omega)
    refine s_iload_n C dX11_sentence_15 rfl ?_
    refine s_tabc (v := 0) (tgt := 64) C dX11_sentence_16 (by omega) (by decide) rfl (by decide) (fun c16 => ?_) (fun n16_0 => ?_)
    · skip
      refine s_aload_n C dX11_sentence_64 rfl ?_
      refine s_getr (k := 17) (b := 79) C dX11_sentence_65 fl_X11_47 (by decide) rfl (by decide) rfl ?_
      refine s_aload_n C dX11_sentence_68 rfl ?_
      refine s_getr (k := 23) (b := 85) C dX11_sentence_69 fl_X11_65 (by decide) rfl (by decide) rfl ?_
      refine s_iload_n C dX11_sentence_72 rfl ?_
      refine s_iaload (n := 24) C dX11_sentence_73 (by decide) rfl rfl (by omega) (by omega) (by omega) (rfl) (fun r73 => ?_)
      refine s_iaload (n := 24) C dX11_sentence_74 (by decide) rfl rfl (by omega) (by omega) (by omega) (rfl) (fun r74 => ?_)
      exact s_ireturn C dX11_sentence_75 (⟨_, rfl, by refine Or.inr ⟨⟨by omega, by omega⟩, r, q12, hT, ?_⟩; unfold senR; refine ⟨fun h => ?_, fun h => ?_, fun h => ?_, fun h => ?_, fun h => ?_, fun h => ?_, fun h => ?_, fun h => ?_, fun h => ?_⟩ <;> first | (exfalso; omega) | assumption | rfl⟩)
    refine s_tabc (v := 1) (tgt := 76) C dX11_sentence_16 (by omega) (by decide) rfl (by decide) (fun c16 => ?_) (fun n16_1 => ?_)
    · skip
      refine s_aload_n C dX11_sentence_76 rfl ?_
      refine s_getr (k := 30) (b := 88) C dX11_sentence_77 fl_X11_78 (by decide) rfl (by decide) rfl ?_
      refine s_iload_n C dX11_sentence_80 rfl ?_
      refine s_iaload (n := 24) C dX11_sentence_81 (by decide) rfl rfl (by omega) (by omega) (by omega) (rfl) (fun r81 => ?_)
      exact s_ireturn C dX11_sentence_82 (⟨_, rfl, by refine Or.inr ⟨⟨by omega, by omega⟩, r, q12, hT, ?_⟩; unfold senR; refine ⟨fun h => ?_, fun h => ?_, fun h => ?_, fun h => ?_, fun h => ?_, fun h => ?_, fun h => ?_, fun h => ?_, fun h => ?_⟩ <;> first | (exfalso; omega) | assumption | rfl⟩)
    refine s_tabc (v := 2) (tgt := 83) C dX11_sentence_16 (by omega) (by decide) rfl (by decide) (fun c16 => ?_) (fun n16_2 => ?_)
    · skip
      refine s_aload_n C dX11_sentence_83 rfl ?_
      refine s_getr (k := 31) (b := 89) C dX11_sentence_84 fl_X11_81 (by decide) rfl (by decide) rfl ?_
      refine s_iload_n C dX11_sentence_87 rfl ?_
      refine s_iaload (n := 24) C dX11_sentence_88 (by decide) rfl rfl (by omega) (by omega) (by omega) (rfl) (fun r88 => ?_)
      exact s_ireturn C dX11_sentence_89 (⟨_, rfl, by refine Or.inr ⟨⟨by omega, by omega⟩, r, q12, hT, ?_⟩; unfold senR; refine ⟨fun h => ?_, fun h => ?_, fun h => ?_, fun h => ?_, fun h => ?_, fun h => ?_, fun h => ?_, fun h => ?_, fun h => ?_⟩ <;> first | (exfalso; omega) | assumption | rfl⟩)
    refine s_tabc (v := 3) (tgt := 90) C dX11_sentence_16 (by omega) (by decide) rfl (by decide) (fun c16 => ?_) (fun n16_3 => ?_)
    · skip
      refine s_aload_n C dX11_sentence_90 rfl ?_
      refine s_getr (k := 22) (b := 84) C dX11_sentence_91 fl_X11_62 (by decide) rfl (by decide) rfl ?_
      refine s_iload_n C dX11_sentence_94 rfl ?_
      refine s_iaload (n := 24) C dX11_sentence_95 (by decide) rfl rfl (by omega) (by omega) (by omega) (rfl) (fun r95 => ?_)
      exact s_ireturn C dX11_sentence_96 (⟨_, rfl, by refine Or.inr ⟨⟨by omega, by omega⟩, r, q12, hT, ?_⟩; unfold senR; refine ⟨fun h => ?_, fun h => ?_, fun h => ?_, fun h => ?_, fun h => ?_, fun h => ?_, fun h => ?_, fun h => ?_, fun h => ?_⟩ <;> first | (exfalso; omega) | assumption | rfl⟩)
    refine s_tabc (v := 4) (tgt := 97) C dX11_sentence_16 (by omega) (by decide) rfl (by decide) (fun c16 => ?_) (fun n16_4 => ?_)
    · skip
      refine s_aload_n C dX11_sentence_97 rfl ?_
      refine s_getr (k := 38) (b := 95) C dX11_sentence_98 fl_X11_100 (by decide) rfl (by decide) rfl ?_
      refine s_iload_n C dX11_sentence_101 rfl ?_
      refine s_iaload (n := 24) C dX11_sentence_102 (by decide) rfl rfl (by omega) (by omega) (by omega) (rfl) (fun r102 => ?_)
      exact s_ireturn C dX11_sentence_103 (⟨_, rfl, by refine Or.inr ⟨⟨by omega, by omega⟩, r, q12, hT, ?_⟩; unfold senR; refine ⟨fun h => ?_, fun h => ?_, fun h => ?_, fun h => ?_, fun h => ?_, fun h => ?_, fun h => ?_, fun h => ?_, fun h => ?_⟩ <;> first | (exfalso; omega) | assumption | rfl⟩)
    refine s_tabc (v := 5) (tgt := 104) C dX11_sentence_16 (by omega) (by decide) rfl (by decide) (fun c16 => ?_) (fun n16_5 => ?_)
    · skip
      refine s_aload_n C dX11_sentence_104 rfl ?_
      refine s_iload_n C dX11_sentence_105 rfl ?_
      refine s_callV1 C dX11_sentence_106 cy_X11_hanging cv_X11_hanging lk_X11_256 (ct_X11_hanging E M12 i hi (by omega)) (by decide) (by decide) (by first | decide | (decide)) rfl (Nat.le_of_ble_eq_true rfl) (k_P (fun z106 q106 => ?_))
      exact s_ireturn C dX11_sentence_109 (⟨_, rfl, by refine Or.inr ⟨⟨by omega, by omega⟩, r, q12, hT, ?_⟩; unfold senR; refine ⟨fun h => ?_, fun h => ?_, fun h => ?_, fun h => ?_, fun h => ?_, fun h => ?_, fun h => ?_, fun h => ?_, fun h => ?_⟩ <;> first | (exfalso; omega) | assumption | rfl⟩)
    refine s_tabc (v := 6) (tgt := 110) C dX11_sentence_16 (by omega) (by decide) rfl (by decide) (fun c16 => ?_) (fun n16_6 => ?_)
    · skip
      refine s_aload_n C dX11_sentence_110 rfl ?_
      refine s_iload_n C dX11_sentence_111 rfl ?_
      refine s_callV1 C dX11_sentence_112 cy_X11_partSize cv_X11_partSize lk_X11_259 (ct_X11_partSize E M12 r hn2 hT i (by omega)) (by decide) (by decide) (by first | decide | (decide)) rfl (Nat.le_of_ble_eq_true rfl) (k_P (fun z112 q112 => ?_))
      exact s_ireturn C dX11_sentence_115 (⟨_, rfl, by refine Or.inr ⟨⟨by omega, by omega⟩, r, q12, hT, ?_⟩; unfold senR; refine ⟨fun h => ?_, fun h => ?_, fun h => ?_, fun h => ?_, fun h => ?_, fun h => ?_, fun h => ?_, fun h => ?_, fun h => ?_⟩ <;> first | (exfalso; omega) | assumption | rfl⟩)
    refine s_tabc (v := 7) (tgt := 116) C dX11_sentence_16 (by omega) (by decide) rfl (by decide) (fun c16 => ?_) (fun n16_7 => ?_)
    · skip
      refine s_aload_n C dX11_sentence_116 rfl ?_
      refine s_getr (k := 23) (b := 85) C dX11_sentence_117 fl_X11_65 (by decide) rfl (by decide) rfl ?_
      refine s_iload_n C dX11_sentence_120 rfl ?_
      refine s_iaload (n := 24) C dX11_sentence_121 (by decide) rfl rfl (by omega) (by omega) (by omega) (rfl) (fun r121 => ?_)
      exact s_ireturn C dX11_sentence_122 (⟨_, rfl, by refine Or.inr ⟨⟨by omega, by omega⟩, r, q12, hT, ?_⟩; unfold senR; refine ⟨fun h => ?_, fun h => ?_, fun h => ?_, fun h => ?_, fun h => ?_, fun h => ?_, fun h => ?_, fun h => ?_, fun h => ?_⟩ <;> first | (exfalso; omega) | assumption | rfl⟩)
    refine s_tabd (tgt := 123) C dX11_sentence_16 (by omega) (by omega) (by decide) ?_
    refine s_bipush C dX11_sentence_123 (by decide) ?_
    exact s_ireturn C dX11_sentence_125 (⟨_, rfl, by refine Or.inr ⟨⟨by omega, by omega⟩, r, q12, hT, ?_⟩; unfold senR; refine ⟨fun h => ?_, fun h => ?_, fun h => ?_, fun h => ?_, fun h => ?_, fun h => ?_, fun h => ?_, fun h => ?_, fun h => ?_⟩ <;> first | (exfalso; omega) | assumption | rfl⟩)
  · skip
    refine s_bipush C dX11_sentence_8 (by decide) ?_
    exact s_ireturn C dX11_sentence_10 (⟨_, rfl, Or.inl ⟨fun h => by omega, rfl, rfl⟩⟩)

set_option maxRecDepth 20000 in
set_option maxHeartbeats 4000000 in
theorem ct_X11_word (E : Ev) (M : Mm) (hI : RI M) (i k j : Int) (hi : rg i) (hk : rg k) (hj : rg j) : Ct E yX11_word cX11_word 4 (some .int) 2 [zr E 66, zi i, zi k, zi j] M (pP M (fun z => z = if 0 ≤ i ∧ i < M 66 24 ∧ 0 ≤ k ∧ k < M 79 (M 85 i) ∧ 0 ≤ j ∧ j < M 78 (40 * M 85 i + k) then M 77 (16 * (40 * M 85 i + k) + j) else -1)) := by
  refine Ct.of (own := RX11) (lv0 := [some (zr E 66), some (zi i), some (zi k), some (zi j)]) (by decide) rfl (Nat.le_of_ble_eq_true rfl) rfl (fun κ C => ?_)
  refine s_aload_n C dX11_word_0 rfl ?_
  refine s_iload_n C dX11_word_1 rfl ?_
  refine s_callV1 C dX11_word_2 cy_X11_isHere cv_X11_isHere lk_X11_250 (ct_X11_isHere E M i hi hI.n) (by decide) (by decide) (by first | decide | (decide)) rfl (Nat.le_of_ble_eq_true rfl) (k_P (fun z2 q2 => ?_))
  have k2 : (z2 = 1 ∧ (0 ≤ i ∧ i ≤ M 66 24 - 1)) ∨ (z2 = 0 ∧ ¬ (0 ≤ i ∧ i ≤ M 66 24 - 1)) := q2
  clear q2
  refine s_if_eq (tgt := 55) C dX11_word_5 (by decide) (by omega) (fun c5 => ?_) (fun c5 => ?_)
  · skip
    refine s_iconst C dX11_word_55 ?_
    exact s_ireturn C dX11_word_56 (⟨_, rfl, rfl, by rw [if_neg (fun q => by omega)]⟩)
  · skip
    have hn := hI.n
    have hat := hI.2.2.2.2.1.2.2 i (by omega) (by omega)
    have hwd := hI.2.2.2.2.1.2.1 _ hat.1 hat.2
    have hwd1 := hwd.1
    refine s_iload_n C dX11_word_8 rfl ?_
    refine s_iconst C dX11_word_9 ?_
    refine s_aload_n C dX11_word_10 rfl ?_
    refine s_getr (k := 17) (b := 79) C dX11_word_11 fl_X11_47 (by decide) rfl (by decide) rfl ?_
    refine s_aload_n C dX11_word_14 rfl ?_
    refine s_getr (k := 23) (b := 85) C dX11_word_15 fl_X11_65 (by decide) rfl (by decide) rfl ?_
    refine s_iload_n C dX11_word_18 rfl ?_
    refine s_iaload (n := 24) C dX11_word_19 (by decide) rfl rfl (by omega) (by omega) (by omega) (rfl) (fun r19 => ?_)
    refine s_iaload (n := 24) C dX11_word_20 (by decide) rfl rfl (by omega) (by omega) (by omega) (rfl) (fun r20 => ?_)
    refine s_iconst C dX11_word_21 ?_
    refine s_isub C dX11_word_22 ?_
    refine s_callS3 C dX11_word_23 cy_X11_in cs_X11_in lk_X11_139 (ct_X11_in E M k 0 (M 79 (M 85 i) - 1) hk (by decide) (by omega)) (by decide) (Nat.le_of_ble_eq_true rfl) (k_P (fun z23 q23 => ?_))
    have k23 : (z23 = 1 ∧ 0 ≤ k ∧ k ≤ M 79 (M 85 i) - 1) ∨ (z23 = 0 ∧ ¬ (0 ≤ k ∧ k ≤ M 79 (M 85 i) - 1)) := q23
    clear q23
    refine s_if_eq (tgt := 55) C dX11_word_26 (by decide) (by omega) (fun c26 => ?_) (fun c26 => ?_)
    · skip
      refine s_iconst C dX11_word_55 ?_
      exact s_ireturn C dX11_word_56 (⟨_, rfl, rfl, by rw [if_neg (fun q => by omega)]⟩)
    · skip
      have hlk := hwd.2 k (by omega) (by omega)
      refine s_iload_n C dX11_word_29 rfl ?_
      refine s_iconst C dX11_word_30 ?_
      refine s_aload_n C dX11_word_31 rfl ?_
      refine s_getr (k := 16) (b := 78) C dX11_word_32 fl_X11_44 (by decide) rfl (by decide) rfl ?_
      refine s_bipush C dX11_word_35 (by decide) ?_
      refine s_aload_n C dX11_word_37 rfl ?_
      refine s_getr (k := 23) (b := 85) C dX11_word_38 fl_X11_65 (by decide) rfl (by decide) rfl ?_
      refine s_iload_n C dX11_word_41 rfl ?_
      refine s_iaload (n := 24) C dX11_word_42 (by decide) rfl rfl (by omega) (by omega) (by omega) (rfl) (fun r42 => ?_)
      refine s_imul C dX11_word_43 ?_
      refine s_iload_n C dX11_word_44 rfl ?_
      refine s_iadd C dX11_word_45 ?_
      refine s_iaload (n := 960) C dX11_word_46 (by decide) rfl rfl (by omega) (by omega) (by omega) (rfl) (fun r46 => ?_)
      refine s_iconst C dX11_word_47 ?_
      refine s_isub C dX11_word_48 ?_
      refine s_callS3 C dX11_word_49 cy_X11_in cs_X11_in lk_X11_139 (ct_X11_in E M j 0 (M 78 (40 * M 85 i + k) - 1) hj (by decide) (by omega)) (by decide) (Nat.le_of_ble_eq_true rfl) (k_P (fun z49 q49 => ?_))
      have k49 : (z49 = 1 ∧ 0 ≤ j ∧ j ≤ M 78 (40 * M 85 i + k) - 1) ∨ (z49 = 0 ∧ ¬ (0 ≤ j ∧ j ≤ M 78 (40 * M 85 i + k) - 1)) := q49
      clear q49
      refine s_if_ne (tgt := 57) C dX11_word_52 (by decide) (by omega) (fun c52 => ?_) (fun c52 => ?_)
      · skip
        refine s_aload_n C dX11_word_57 rfl ?_
        refine s_getr (k := 15) (b := 77) C dX11_word_58 fl_X11_41 (by decide) rfl (by decide) rfl ?_
        refine s_bipush C dX11_word_61 (by decide) ?_
        refine s_bipush C dX11_word_63 (by decide) ?_
        refine s_aload_n C dX11_word_65 rfl ?_
        refine s_getr (k := 23) (b := 85) C dX11_word_66 fl_X11_65 (by decide) rfl (by decide) rfl ?_
        refine s_iload_n C dX11_word_69 rfl ?_
        refine s_iaload (n := 24) C dX11_word_70 (by decide) rfl rfl (by omega) (by omega) (by omega) (rfl) (fun r70 => ?_)
        refine s_imul C dX11_word_71 ?_
        refine s_iload_n C dX11_word_72 rfl ?_
        refine s_iadd C dX11_word_73 ?_
        refine s_imul C dX11_word_74 ?_
        refine s_iload_n C dX11_word_75 rfl ?_
        refine s_iadd C dX11_word_76 ?_
        refine s_baload (n := 15360) C dX11_word_77 (by decide) rfl rfl (by omega) (by omega) (by omega) (rfl) (fun r77 => ?_)
        exact s_ireturn C dX11_word_78 (⟨_, rfl, rfl, by rw [if_pos (by omega)]⟩)
      · skip
        refine s_iconst C dX11_word_55 ?_
        exact s_ireturn C dX11_word_56 (⟨_, rfl, rfl, by rw [if_neg (fun q => by omega)]⟩)

set_option maxRecDepth 20000 in
set_option maxHeartbeats 4000000 in
theorem ct_X11_shared (E : Ev) (M : Mm) (hI : RI M) (i j : Int) (hi : rg i) (hj : rg j) : Ct E yX11_shared cX11_shared 3 (some .int) 6 [zr E 66, zi i, zi j] M (pI (fun z M' => (¬ ((0 ≤ i ∧ i < M 66 24) ∧ 0 ≤ j ∧ j < M 66 24) ∧ z = -2 ∧ M' = M) ∨ (((0 ≤ i ∧ i < M 66 24) ∧ 0 ≤ j ∧ j < M 66 24) ∧ Tfs M M' ∧ z = shB M' i j (M' 88 i).toNat))) := by
  refine Ct.of (own := RX11) (lv0 := [some (zr E 66), some (zi i), some (zi j)]) (by decide) rfl (Nat.le_of_ble_eq_true rfl) rfl (fun κ C => ?_)
  refine s_aload_n C dX11_shared_0 rfl ?_
  refine s_iload_n C dX11_shared_1 rfl ?_
  refine s_callV1 C dX11_shared_2 cy_X11_isHere cv_X11_isHere lk_X11_250 (ct_X11_isHere E M i hi hI.n) (by decide) (by decide) (by first | decide | (decide)) rfl (Nat.le_of_ble_eq_true rfl) (k_P (fun z2 q2 => ?_))
  have k2 : (z2 = 1 ∧ (0 ≤ i ∧ i ≤ M 66 24 - 1)) ∨ (z2 = 0 ∧ ¬ (0 ≤ i ∧ i ≤ M 66 24 - 1)) := q2
  clear q2
  refine s_if_eq (tgt := 16) C dX11_shared_5 (by decide) (by omega) (fun c5 => ?_) (fun c5 => ?_)
  · skip
    refine s_bipush C dX11_shared_16 (by decide) ?_
    exact s_ireturn C dX11_shared_18 (⟨_, rfl, Or.inl ⟨fun h => by omega, rfl, rfl⟩⟩)
  · skip
    refine s_aload_n C dX11_shared_8 rfl ?_
    refine s_iload_n C dX11_shared_9 rfl ?_
    refine s_callV1 C dX11_shared_10 cy_X11_isHere cv_X11_isHere lk_X11_250 (ct_X11_isHere E M j hj hI.n) (by decide) (by decide) (by first | decide | (decide)) rfl (Nat.le_of_ble_eq_true rfl) (k_P (fun z10 q10 => ?_))
    have k10 : (z10 = 1 ∧ (0 ≤ j ∧ j ≤ M 66 24 - 1)) ∨ (z10 = 0 ∧ ¬ (0 ≤ j ∧ j ≤ M 66 24 - 1)) := q10
    clear q10
    refine s_if_ne (tgt := 19) C dX11_shared_13 (by decide) (by omega) (fun c13 => ?_) (fun c13 => ?_)
    · skip
      refine s_aload_n C dX11_shared_19 rfl ?_
      refine s_callV0 C dX11_shared_20 cy_X11_makeTree cv_X11_makeTree lk_X11_253 (ct_mk E M hI (by omega)) (by decide) (by decide) (by first | decide | (decide)) rfl (Nat.le_of_ble_eq_true rfl) (k_V (fun M20 q20 => ?_))
      have hI2 := hI.tfs q20
      have n2 : M20 66 24 = M 66 24 := q20.2.1 24 (by decide) (by decide) (by decide)
      have hn := hI.n
      have hn2 : 1 ≤ M20 66 24 ∧ M20 66 24 ≤ 24 := by omega
      have hTF := q20.2.2.2
      refine s_aload_n C dX11_shared_23 rfl ?_
      refine s_iload_n C dX11_shared_24 rfl ?_
      refine s_iload_n C dX11_shared_25 rfl ?_
      refine s_callV2 C dX11_shared_26 cy_X11_sharedBy cv_X11_sharedBy lk_X11_215 (ct_X11_sharedBy E M20 i j (by omega) (by omega) (hTF.B hI2.2.2.2.2.1 hn2.1 (by omega)) (hTF.B hI2.2.2.2.2.1 hn2.1 (by omega))) (by decide) (by decide) (by first | decide | (decide)) rfl (Nat.le_of_ble_eq_true rfl) (k_P (fun z26 q26 => ?_))
      exact s_ireturn C dX11_shared_29 (⟨_, rfl, Or.inr ⟨by omega, q20, q26⟩⟩)
    · skip
      refine s_bipush C dX11_shared_16 (by decide) ?_
      exact s_ireturn C dX11_shared_18 (⟨_, rfl, Or.inl ⟨fun h => by omega, rfl, rfl⟩⟩)

set_option maxRecDepth 20000 in
set_option maxHeartbeats 4000000 in
theorem ct_X11_cost (E : Ev) (M : Mm) (hI : RI M) (h d : Int) (hh : rg h) (hd : rg d) : Ct E yX11_cost cX11_cost 3 (some .int) 6 [zr E 66, zi h, zi d] M (pI (fun z M' => (¬ ((0 ≤ h ∧ h < M 66 24) ∧ (0 ≤ d ∧ d < M 66 24) ∧ h ≠ d) ∧ z = -2 ∧ M' = M) ∨ (((0 ≤ h ∧ h < M 66 24) ∧ (0 ≤ d ∧ d < M 66 24) ∧ h ≠ d) ∧ Tfs M M' ∧ z = M' 90 (24 * h + d)))) := by
  refine Ct.of (own := RX11) (lv0 := [some (zr E 66), some (zi h), some (zi d)]) (by decide) rfl (Nat.le_of_ble_eq_true rfl) rfl (fun κ C => ?_)
  refine s_aload_n C dX11_cost_0 rfl ?_
  refine s_iload_n C dX11_cost_1 rfl ?_
  refine s_callV1 C dX11_cost_2 cy_X11_isHere cv_X11_isHere lk_X11_250 (ct_X11_isHere E M h hh hI.n) (by decide) (by decide) (by first | decide | (decide)) rfl (Nat.le_of_ble_eq_true rfl) (k_P (fun z2 q2 => ?_))
  have k2 : (z2 = 1 ∧ (0 ≤ h ∧ h ≤ M 66 24 - 1)) ∨ (z2 = 0 ∧ ¬ (0 ≤ h ∧ h ≤ M 66 24 - 1)) := q2
  clear q2
  refine s_if_eq (tgt := 21) C dX11_cost_5 (by decide) (by omega) (fun c5 => ?_) (fun c5 => ?_)
  · skip
    refine s_bipush C dX11_cost_21 (by decide) ?_
    exact s_ireturn C dX11_cost_23 (⟨_, rfl, Or.inl ⟨fun h => by omega, rfl, rfl⟩⟩)
  · skip
    refine s_aload_n C dX11_cost_8 rfl ?_
    refine s_iload_n C dX11_cost_9 rfl ?_
    refine s_callV1 C dX11_cost_10 cy_X11_isHere cv_X11_isHere lk_X11_250 (ct_X11_isHere E M d hd hI.n) (by decide) (by decide) (by first | decide | (decide)) rfl (Nat.le_of_ble_eq_true rfl) (k_P (fun z10 q10 => ?_))
    have k10 : (z10 = 1 ∧ (0 ≤ d ∧ d ≤ M 66 24 - 1)) ∨ (z10 = 0 ∧ ¬ (0 ≤ d ∧ d ≤ M 66 24 - 1)) := q10
    clear q10
    refine s_if_eq (tgt := 21) C dX11_cost_13 (by decide) (by omega) (fun c13 => ?_) (fun c13 => ?_)
    · skip
      refine s_bipush C dX11_cost_21 (by decide) ?_
      exact s_ireturn C dX11_cost_23 (⟨_, rfl, Or.inl ⟨fun h => by omega, rfl, rfl⟩⟩)
    · skip
      refine s_iload_n C dX11_cost_16 rfl ?_
      refine s_iload_n C dX11_cost_17 rfl ?_
      refine s_icmp_ne (tgt := 24) C dX11_cost_18 (by decide) (by omega) (by omega) (fun c18 => ?_) (fun c18 => ?_)
      · skip
        refine s_aload_n C dX11_cost_24 rfl ?_
        refine s_callV0 C dX11_cost_25 cy_X11_makeTree cv_X11_makeTree lk_X11_253 (ct_mk E M hI (by omega)) (by decide) (by decide) (by first | decide | (decide)) rfl (Nat.le_of_ble_eq_true rfl) (k_V (fun M25 q25 => ?_))
        have hI2 := hI.tfs q25
        have n2 : M25 66 24 = M 66 24 := q25.2.1 24 (by decide) (by decide) (by decide)
        have hn := hI.n
        have hn2 : 1 ≤ M25 66 24 ∧ M25 66 24 ≤ 24 := by omega
        have hTF := q25.2.2.2
        refine s_aload_n C dX11_cost_28 rfl ?_
        refine s_getr (k := 33) (b := 90) C dX11_cost_29 fl_X11_84 (by decide) rfl (by decide) rfl ?_
        refine s_bipush C dX11_cost_32 (by decide) ?_
        refine s_iload_n C dX11_cost_34 rfl ?_
        refine s_imul C dX11_cost_35 ?_
        refine s_iload_n C dX11_cost_36 rfl ?_
        refine s_iadd C dX11_cost_37 ?_
        refine s_iaload (n := 576) C dX11_cost_38 (by decide) rfl rfl (by omega) (by omega) (by omega) (rfl) (fun r38 => ?_)
        exact s_ireturn C dX11_cost_39 (⟨_, rfl, Or.inr ⟨by omega, q25, rfl⟩⟩)
      · skip
        refine s_bipush C dX11_cost_21 (by decide) ?_
        exact s_ireturn C dX11_cost_23 (⟨_, rfl, Or.inl ⟨fun h => by omega, rfl, rfl⟩⟩)

set_option maxRecDepth 20000 in
set_option maxHeartbeats 4000000 in
theorem ct_X11_tree (E : Ev) (M : Mm) (hI : RI M)  : Ct E yX11_tree cX11_tree 1 (some .int) 6 [zr E 66] M (pI (fun z M' => (M 66 24 = 0 ∧ z = -1 ∧ M' = M) ∨ (M 66 24 ≠ 0 ∧ Tfs M M' ∧ z = M' 66 39))) := by
  refine Ct.of (own := RX11) (lv0 := [some (zr E 66)]) (by decide) rfl (Nat.le_of_ble_eq_true rfl) rfl (fun κ C => ?_)
  have hn0 := hI.n
  refine s_aload_n C dX11_tree_0 rfl ?_
  refine s_geti (k := 24) (j := 24) C dX11_tree_1 fl_X11_196 (by decide) rfl (by decide) rfl (rfl) (fun r1 => ?_)
  refine s_if_ne (tgt := 9) C dX11_tree_4 (by decide) (by omega) (fun c4 => ?_) (fun c4 => ?_)
  · skip
    refine s_aload_n C dX11_tree_9 rfl ?_
    refine s_callV0 C dX11_tree_10 cy_X11_makeTree cv_X11_makeTree lk_X11_253 (ct_mk E M hI (by omega)) (by decide) (by decide) (by first | decide | (decide)) rfl (Nat.le_of_ble_eq_true rfl) (k_V (fun M10 q10 => ?_))
    have hI2 := hI.tfs q10
    have n2 : M10 66 24 = M 66 24 := q10.2.1 24 (by decide) (by decide) (by decide)
    have hn := hI.n
    have hn2 : 1 ≤ M10 66 24 ∧ M10 66 24 ≤ 24 := by omega
    have hTF := q10.2.2.2
    refine s_aload_n C dX11_tree_13 rfl ?_
    refine s_geti (k := 39) (j := 39) C dX11_tree_14 fl_X11_236 (by decide) rfl (by decide) rfl (rfl) (fun r14 => ?_)
    exact s_ireturn C dX11_tree_17 (⟨_, rfl, Or.inr ⟨c4, q10, rfl⟩⟩)
  · skip
    refine s_iconst C dX11_tree_7 ?_
    exact s_ireturn C dX11_tree_8 (⟨_, rfl, Or.inl ⟨c4, rfl, rfl⟩⟩)

set_option maxRecDepth 20000 in
set_option maxHeartbeats 4000000 in
theorem ct_X11_next (E : Ev) (M : Mm) (hI : RI M)  : Ct E yX11_next cX11_next 1 (some .int) 6 [zr E 66] M (pI (fun z M' => (M 66 24 = 0 ∧ z = -1 ∧ M' = M) ∨ (M 66 24 ≠ 0 ∧ Tfs M M' ∧ z = if M' 66 40 < 1000000 then M' 66 40 else -1))) := by
  refine Ct.of (own := RX11) (lv0 := [some (zr E 66)]) (by decide) rfl (Nat.le_of_ble_eq_true rfl) rfl (fun κ C => ?_)
  have hn0 := hI.n
  refine s_aload_n C dX11_next_0 rfl ?_
  refine s_geti (k := 24) (j := 24) C dX11_next_1 fl_X11_196 (by decide) rfl (by decide) rfl (rfl) (fun r1 => ?_)
  refine s_if_ne (tgt := 9) C dX11_next_4 (by decide) (by omega) (fun c4 => ?_) (fun c4 => ?_)
  · skip
    refine s_aload_n C dX11_next_9 rfl ?_
    refine s_callV0 C dX11_next_10 cy_X11_makeTree cv_X11_makeTree lk_X11_253 (ct_mk E M hI (by omega)) (by decide) (by decide) (by first | decide | (decide)) rfl (Nat.le_of_ble_eq_true rfl) (k_V (fun M10 q10 => ?_))
    have hI2 := hI.tfs q10
    have n2 : M10 66 24 = M 66 24 := q10.2.1 24 (by decide) (by decide) (by decide)
    have hn := hI.n
    have hn2 : 1 ≤ M10 66 24 ∧ M10 66 24 ≤ 24 := by omega
    have hTF := q10.2.2.2
    refine s_aload_n C dX11_next_13 rfl ?_
    refine s_geti (k := 40) (j := 40) C dX11_next_14 fl_X11_243 (by decide) rfl (by decide) rfl (rfl) (fun r14 => ?_)
    refine s_ldc C dX11_next_17 kc_X11_218 ?_
    refine s_icmp_lt (tgt := 26) C dX11_next_19 (by decide) (by omega) (by omega) (fun c19 => ?_) (fun c19 => ?_)
    · skip
      refine s_aload_n C dX11_next_26 rfl ?_
      refine s_geti (k := 40) (j := 40) C dX11_next_27 fl_X11_243 (by decide) rfl (by decide) rfl (rfl) (fun r27 => ?_)
      exact s_ireturn C dX11_next_30 (⟨_, rfl, Or.inr ⟨c4, q10, by first | (rw [if_pos c19]; done) | (rw [if_neg (by omega)]; done)⟩⟩)
    · skip
      refine s_iconst C dX11_next_22 ?_
      refine s_goto (tgt := 30) C dX11_next_23 (by decide) ?_
      exact s_ireturn C dX11_next_30 (⟨_, rfl, Or.inr ⟨c4, q10, by first | (rw [if_pos c19]; done) | (rw [if_neg (by omega)]; done)⟩⟩)
  · skip
    refine s_iconst C dX11_next_7 ?_
    exact s_ireturn C dX11_next_8 (⟨_, rfl, Or.inl ⟨c4, rfl, rfl⟩⟩)

def stF (f : Int → Int) (h : Int) (d : Nat) : Int := sumI (fun d => if f d = h then max (h - d) (-(h - d)) else 0) d
theorem stF_s (f : Int → Int) (h : Int) (d : Nat) : stF f h (d + 1) = stF f h d + (if f (d : Int) = h then max (h - (d : Int)) (-(h - (d : Int))) else 0) := rfl

set_option maxRecDepth 20000 in
set_option maxHeartbeats 4000000 in
theorem ct_X11_stands (E : Ev) (M : Mm) (hI : RI M) (h : Int) (hh : rg h) : Ct E yX11_stands cX11_stands 4 (some .int) 6 [zr E 66, zi h] M (pI (fun z M' => (¬ (0 ≤ h ∧ h < M 66 24) ∧ z = -2 ∧ M' = M) ∨ ((0 ≤ h ∧ h < M 66 24) ∧ Tfs M M' ∧ z = stF (M' 95) h (M' 66 24).toNat))) := by
  refine Ct.of (own := RX11) (lv0 := [some (zr E 66), some (zi h), none, none]) (by decide) rfl (Nat.le_of_ble_eq_true rfl) rfl (fun κ C => ?_)
  have L19 : ∀ (n9 : Nat) (d : Nat) (A : Mm) (hT : Tfs M A) (hh2 : 0 ≤ h ∧ h < M 66 24) (hd : (d : Int) ≤ A 66 24) (hm : (A 66 24 - (d : Int)).toNat < n9), Gm E κ (pI (fun z M' => (¬ (0 ≤ h ∧ h < M 66 24) ∧ z = -2 ∧ M' = M) ∨ ((0 ≤ h ∧ h < M 66 24) ∧ Tfs M M' ∧ z = stF (M' 95) h (M' 66 24).toNat))) 4 19 [some (zr E 66), some (zi h), some (zi (stF (A 95) h d)), some (zi (d : Int))] [] A := by
    intro n9
    induction n9 with
    | zero => intro d A  hT hh2 hd hm; exact absurd hm (Nat.not_lt_zero _)
    | succ n9 ih19 =>
      intro d A  hT hh2 hd hm
      have n2 : A 66 24 = M 66 24 := hT.2.1 24 (by decide) (by decide) (by decide)
      have hn := hI.n
      refine s_iload_n C dX11_stands_19 rfl ?_
      refine s_aload_n C dX11_stands_20 rfl ?_
      refine s_geti (k := 24) (j := 24) C dX11_stands_21 fl_X11_196 (by decide) rfl (by decide) rfl (rfl) (fun r21 => ?_)
      refine s_icmp_ge (tgt := 60) C dX11_stands_24 (by decide) (by omega) (by omega) (fun c24 => ?_) (fun c24 => ?_)
      · skip
        refine s_iload_n C dX11_stands_60 rfl ?_
        exact s_ireturn C dX11_stands_61 (⟨_, rfl, Or.inr ⟨hh2, hT, by rw [show (A 66 24).toNat = d by omega]⟩⟩)
      · skip
        refine s_aload_n C dX11_stands_27 rfl ?_
        refine s_getr (k := 38) (b := 95) C dX11_stands_28 fl_X11_100 (by decide) rfl (by decide) rfl ?_
        refine s_iload_n C dX11_stands_31 rfl ?_
        refine s_iaload (n := 24) C dX11_stands_32 (by decide) rfl rfl (by omega) (by omega) (by omega) (rfl) (fun r32 => ?_)
        refine s_iload_n C dX11_stands_33 rfl ?_
        refine s_icmp_ne (tgt := 54) C dX11_stands_34 (by decide) (by omega) (by omega) (fun c34 => ?_) (fun c34 => ?_)
        · skip
          refine s_iinc (lv' := [_, _, _, _]) C dX11_stands_54 rfl (by decide) rfl rfl rfl ?_
          refine s_goto (tgt := 19) C dX11_stands_57 (by decide) ?_
          have e9 := stF_s (A 95) h d
          first
            | (rw [if_neg c34] at e9; rw [Int.add_zero] at e9; rw [← e9]; exact ih19 (d + 1) A hT hh2 (by omega) (by omega))
            | (rw [if_pos c34, show max (h - (d : Int)) (-(h - (d : Int))) = (d : Int) - h by omega] at e9; rw [← e9]; exact ih19 (d + 1) A hT hh2 (by omega) (by omega))
            | (rw [if_pos c34, show max (h - (d : Int)) (-(h - (d : Int))) = h - (d : Int) by omega] at e9; rw [← e9]; exact ih19 (d + 1) A hT hh2 (by omega) (by omega))
        · skip
          refine s_iload_n C dX11_stands_37 rfl ?_
          refine s_iload_n C dX11_stands_38 rfl ?_
          refine s_iload_n C dX11_stands_39 rfl ?_
          refine s_icmp_le (tgt := 49) C dX11_stands_40 (by decide) (by omega) (by omega) (fun c40 => ?_) (fun c40 => ?_)
          · skip
            refine s_iload_n C dX11_stands_49 rfl ?_
            refine s_iload_n C dX11_stands_50 rfl ?_
            refine s_isub C dX11_stands_51 ?_
            refine s_iadd C dX11_stands_52 ?_
            refine s_istore_n (lv' := [_, _, _, _]) C dX11_stands_53 (by decide) rfl rfl ?_
            refine s_iinc (lv' := [_, _, _, _]) C dX11_stands_54 rfl (by decide) rfl rfl rfl ?_
            refine s_goto (tgt := 19) C dX11_stands_57 (by decide) ?_
            have e9 := stF_s (A 95) h d
            first
              | (rw [if_neg c34] at e9; rw [Int.add_zero] at e9; rw [← e9]; exact ih19 (d + 1) A hT hh2 (by omega) (by omega))
              | (rw [if_pos c34, show max (h - (d : Int)) (-(h - (d : Int))) = (d : Int) - h by omega] at e9; rw [← e9]; exact ih19 (d + 1) A hT hh2 (by omega) (by omega))
              | (rw [if_pos c34, show max (h - (d : Int)) (-(h - (d : Int))) = h - (d : Int) by omega] at e9; rw [← e9]; exact ih19 (d + 1) A hT hh2 (by omega) (by omega))
          · skip
            refine s_iload_n C dX11_stands_43 rfl ?_
            refine s_iload_n C dX11_stands_44 rfl ?_
            refine s_isub C dX11_stands_45 ?_
            refine s_goto (tgt := 52) C dX11_stands_46 (by decide) ?_
            refine s_iadd C dX11_stands_52 ?_
            refine s_istore_n (lv' := [_, _, _, _]) C dX11_stands_53 (by decide) rfl rfl ?_
            refine s_iinc (lv' := [_, _, _, _]) C dX11_stands_54 rfl (by decide) rfl rfl rfl ?_
            refine s_goto (tgt := 19) C dX11_stands_57 (by decide) ?_
            have e9 := stF_s (A 95) h d
            first
              | (rw [if_neg c34] at e9; rw [Int.add_zero] at e9; rw [← e9]; exact ih19 (d + 1) A hT hh2 (by omega) (by omega))
              | (rw [if_pos c34, show max (h - (d : Int)) (-(h - (d : Int))) = (d : Int) - h by omega] at e9; rw [← e9]; exact ih19 (d + 1) A hT hh2 (by omega) (by omega))
              | (rw [if_pos c34, show max (h - (d : Int)) (-(h - (d : Int))) = h - (d : Int) by omega] at e9; rw [← e9]; exact ih19 (d + 1) A hT hh2 (by omega) (by omega))
  refine s_aload_n C dX11_stands_0 rfl ?_
  refine s_iload_n C dX11_stands_1 rfl ?_
  refine s_callV1 C dX11_stands_2 cy_X11_isHere cv_X11_isHere lk_X11_250 (ct_X11_isHere E M h hh hI.n) (by decide) (by decide) (by first | decide | (decide)) rfl (Nat.le_of_ble_eq_true rfl) (k_P (fun z2 q2 => ?_))
  have k2 : (z2 = 1 ∧ (0 ≤ h ∧ h ≤ M 66 24 - 1)) ∨ (z2 = 0 ∧ ¬ (0 ≤ h ∧ h ≤ M 66 24 - 1)) := q2
  clear q2
  refine s_if_ne (tgt := 11) C dX11_stands_5 (by decide) (by omega) (fun c5 => ?_) (fun c5 => ?_)
  · skip
    refine s_aload_n C dX11_stands_11 rfl ?_
    refine s_callV0 C dX11_stands_12 cy_X11_makeTree cv_X11_makeTree lk_X11_253 (ct_mk E M hI (by omega)) (by decide) (by decide) (by first | decide | (decide)) rfl (Nat.le_of_ble_eq_true rfl) (k_V (fun M12 q12 => ?_))
    have hI2 := hI.tfs q12
    have n2 : M12 66 24 = M 66 24 := q12.2.1 24 (by decide) (by decide) (by decide)
    have hn := hI.n
    have hn2 : 1 ≤ M12 66 24 ∧ M12 66 24 ≤ 24 := by omega
    have hTF := q12.2.2.2
    refine s_iconst C dX11_stands_15 ?_
    refine s_istore_n (lv' := [_, _, _, _]) C dX11_stands_16 (by decide) rfl rfl ?_
    refine s_iconst C dX11_stands_17 ?_
    refine s_istore_n (lv' := [_, _, _, _]) C dX11_stands_18 (by decide) rfl rfl ?_
    exact L19 _ 0 M12 q12 (by omega) (by omega) (Nat.lt_succ_self _)
  · skip
    refine s_bipush C dX11_stands_8 (by decide) ?_
    exact s_ireturn C dX11_stands_10 (⟨_, rfl, Or.inl ⟨fun h => by omega, rfl, rfl⟩⟩)

/-- numbers that count() tells without a tree -/
def cntR (M : Mm) (w z : Int) : Prop := (w = 0 → z = M 66 24) ∧ (w = 1 → z = if M 66 24 = 0 then 0 else M 66 25) ∧ (w = 2 → z = M 66 6) ∧ (w = 3 → z = M 66 10) ∧ (w = 4 → z = M 66 13) ∧ (w = 5 → z = M 66 41) ∧ (w = 6 → z = M 66 1) ∧ ((10 ≤ w ∧ w ≤ 13) → z = M 76 (w - 10)) ∧ ((w < 0 ∨ (7 < w ∧ w < 10) ∨ 13 < w) → z = -1)

set_option maxRecDepth 20000 in
set_option maxHeartbeats 4000000 in
theorem ct_X11_count (E : Ev) (M : Mm) (hI : RI M) (w : Int) (hw : rg w) : Ct E yX11_count cX11_count 3 (some .int) 6 [zr E 66, zi w] M (pI (fun z M' => (w ≠ 7 ∧ M' = M ∧ cntR M w z) ∨ (w = 7 ∧ M 66 24 = 0 ∧ z = -1 ∧ M' = M) ∨ (w = 7 ∧ M 66 24 ≠ 0 ∧ ∃ r, Tfs M M' ∧ TT (M' 95) (M' 66 24) r ∧ z = r))) := by
  refine Ct.of (own := RX11) (lv0 := [some (zr E 66), some (zi w), none]) (by decide) rfl (Nat.le_of_ble_eq_true rfl) rfl (fun κ C => ?_)
  have hn0 := hI.n
  have L109 : ∀ (n9 : Nat) (k r : Int) (A : Mm) (hw7 : w = 7) (hQ : Tfs M A) (hT : TT (A 95) (A 66 24) r) (hn3 : 1 ≤ A 66 24 ∧ A 66 24 ≤ 24) (hn4 : M 66 24 ≠ 0) (hk : 0 ≤ k ∧ k ≤ r) (hm : (r - k).toNat < n9), Gm E κ (pI (fun z M' => (w ≠ 7 ∧ M' = M ∧ cntR M w z) ∨ (w = 7 ∧ M 66 24 = 0 ∧ z = -1 ∧ M' = M) ∨ (w = 7 ∧ M 66 24 ≠ 0 ∧ ∃ r, Tfs M M' ∧ TT (M' 95) (M' 66 24) r ∧ z = r))) 3 109 [some (zr E 66), some (zi w), some (zi k)] [] A := by
    intro n9
    induction n9 with
    | zero => intro k r A  hw7 hQ hT hn3 hn4 hk hm; exact absurd hm (Nat.not_lt_zero _)
    | succ n9 ih109 =>
      intro k r A  hw7 hQ hT hn3 hn4 hk hm
      have hr := hT.1.1
      refine s_aload_n C dX11_count_109 rfl ?_
      refine s_getr (k := 38) (b := 95) C dX11_count_110 fl_X11_100 (by decide) rfl (by decide) rfl ?_
      refine s_iload_n C dX11_count_113 rfl ?_
      have hrg := hT.rg (d := k) (by omega)
      refine s_iaload (n := 24) C dX11_count_114 (by decide) rfl rfl (by omega) (by omega) (by omega) (rfl) (fun r114 => ?_)
      refine s_iconst C dX11_count_115 ?_
      refine s_icmp_eq (tgt := 125) C dX11_count_116 (by decide) (by omega) (by omega) (fun c116 => ?_) (fun c116 => ?_)
      · skip
        refine s_iload_n C dX11_count_125 rfl ?_
        exact s_ireturn C dX11_count_126 (⟨_, rfl, Or.inr (Or.inr ⟨hw7, hn4, r, hQ, hT, by rcases hrg with ⟨g, g2⟩ | ⟨g, g2⟩; exact g; omega⟩)⟩)
      · skip
        refine s_iinc (lv' := [_, _, _]) C dX11_count_119 rfl (by decide) rfl rfl rfl ?_
        refine s_goto (tgt := 109) C dX11_count_122 (by decide) ?_
        exact ih109 _ _ _ hw7 hQ hT hn3 hn4 (by rcases hrg with ⟨g, g2⟩ | ⟨g, g2⟩; exact absurd g2 c116; omega) (by omega)
  refine s_iload_n C dX11_count_0 rfl ?_
  refine s_tabc (v := 0) (tgt := 48) C dX11_count_1 (by omega) (by decide) rfl (by decide) (fun c1 => ?_) (fun n1_0 => ?_)
  · skip
    refine s_aload_n C dX11_count_48 rfl ?_
    refine s_geti (k := 24) (j := 24) C dX11_count_49 fl_X11_196 (by decide) rfl (by decide) rfl (rfl) (fun r49 => ?_)
    exact s_ireturn C dX11_count_52 (⟨_, rfl, by refine Or.inl ⟨by omega, rfl, ?_⟩; unfold cntR; refine ⟨fun h => ?_, fun h => ?_, fun h => ?_, fun h => ?_, fun h => ?_, fun h => ?_, fun h => ?_, fun h => ?_, fun h => ?_⟩ <;> first | (exfalso; omega) | (rw [if_pos c57]; done) | (rw [if_neg c57]; done) | rfl⟩)
  refine s_tabc (v := 1) (tgt := 53) C dX11_count_1 (by omega) (by decide) rfl (by decide) (fun c1 => ?_) (fun n1_1 => ?_)
  · skip
    refine s_aload_n C dX11_count_53 rfl ?_
    refine s_geti (k := 24) (j := 24) C dX11_count_54 fl_X11_196 (by decide) rfl (by decide) rfl (rfl) (fun r54 => ?_)
    refine s_if_ne (tgt := 64) C dX11_count_57 (by decide) (by omega) (fun c57 => ?_) (fun c57 => ?_)
    · skip
      refine s_aload_n C dX11_count_64 rfl ?_
      refine s_geti (k := 25) (j := 25) C dX11_count_65 fl_X11_202 (by decide) rfl (by decide) rfl (rfl) (fun r65 => ?_)
      exact s_ireturn C dX11_count_68 (⟨_, rfl, by refine Or.inl ⟨by omega, rfl, ?_⟩; unfold cntR; refine ⟨fun h => ?_, fun h => ?_, fun h => ?_, fun h => ?_, fun h => ?_, fun h => ?_, fun h => ?_, fun h => ?_, fun h => ?_⟩ <;> first | (exfalso; omega) | (rw [if_pos c57]; done) | (rw [if_neg c57]; done) | rfl⟩)
    · skip
      refine s_iconst C dX11_count_60 ?_
      refine s_goto (tgt := 68) C dX11_count_61 (by decide) ?_
      exact s_ireturn C dX11_count_68 (⟨_, rfl, by refine Or.inl ⟨by omega, rfl, ?_⟩; unfold cntR; refine ⟨fun h => ?_, fun h => ?_, fun h => ?_, fun h => ?_, fun h => ?_, fun h => ?_, fun h => ?_, fun h => ?_, fun h => ?_⟩ <;> first | (exfalso; omega) | (rw [if_pos c57]; done) | (rw [if_neg c57]; done) | rfl⟩)
  refine s_tabc (v := 2) (tgt := 69) C dX11_count_1 (by omega) (by decide) rfl (by decide) (fun c1 => ?_) (fun n1_2 => ?_)
  · skip
    refine s_aload_n C dX11_count_69 rfl ?_
    refine s_geti (k := 6) (j := 6) C dX11_count_70 fl_X11_161 (by decide) rfl (by decide) rfl (rfl) (fun r70 => ?_)
    exact s_ireturn C dX11_count_73 (⟨_, rfl, by refine Or.inl ⟨by omega, rfl, ?_⟩; unfold cntR; refine ⟨fun h => ?_, fun h => ?_, fun h => ?_, fun h => ?_, fun h => ?_, fun h => ?_, fun h => ?_, fun h => ?_, fun h => ?_⟩ <;> first | (exfalso; omega) | (rw [if_pos c57]; done) | (rw [if_neg c57]; done) | rfl⟩)
  refine s_tabc (v := 3) (tgt := 74) C dX11_count_1 (by omega) (by decide) rfl (by decide) (fun c1 => ?_) (fun n1_3 => ?_)
  · skip
    refine s_aload_n C dX11_count_74 rfl ?_
    refine s_geti (k := 10) (j := 10) C dX11_count_75 fl_X11_180 (by decide) rfl (by decide) rfl (rfl) (fun r75 => ?_)
    exact s_ireturn C dX11_count_78 (⟨_, rfl, by refine Or.inl ⟨by omega, rfl, ?_⟩; unfold cntR; refine ⟨fun h => ?_, fun h => ?_, fun h => ?_, fun h => ?_, fun h => ?_, fun h => ?_, fun h => ?_, fun h => ?_, fun h => ?_⟩ <;> first | (exfalso; omega) | (rw [if_pos c57]; done) | (rw [if_neg c57]; done) | rfl⟩)
  refine s_tabc (v := 4) (tgt := 79) C dX11_count_1 (by omega) (by decide) rfl (by decide) (fun c1 => ?_) (fun n1_4 => ?_)
  · skip
    refine s_aload_n C dX11_count_79 rfl ?_
    refine s_geti (k := 13) (j := 13) C dX11_count_80 fl_X11_183 (by decide) rfl (by decide) rfl (rfl) (fun r80 => ?_)
    exact s_ireturn C dX11_count_83 (⟨_, rfl, by refine Or.inl ⟨by omega, rfl, ?_⟩; unfold cntR; refine ⟨fun h => ?_, fun h => ?_, fun h => ?_, fun h => ?_, fun h => ?_, fun h => ?_, fun h => ?_, fun h => ?_, fun h => ?_⟩ <;> first | (exfalso; omega) | (rw [if_pos c57]; done) | (rw [if_neg c57]; done) | rfl⟩)
  refine s_tabc (v := 5) (tgt := 84) C dX11_count_1 (by omega) (by decide) rfl (by decide) (fun c1 => ?_) (fun n1_5 => ?_)
  · skip
    refine s_aload_n C dX11_count_84 rfl ?_
    refine s_geti (k := 41) (j := 41) C dX11_count_85 fl_X11_199 (by decide) rfl (by decide) rfl (rfl) (fun r85 => ?_)
    exact s_ireturn C dX11_count_88 (⟨_, rfl, by refine Or.inl ⟨by omega, rfl, ?_⟩; unfold cntR; refine ⟨fun h => ?_, fun h => ?_, fun h => ?_, fun h => ?_, fun h => ?_, fun h => ?_, fun h => ?_, fun h => ?_, fun h => ?_⟩ <;> first | (exfalso; omega) | (rw [if_pos c57]; done) | (rw [if_neg c57]; done) | rfl⟩)
  refine s_tabc (v := 6) (tgt := 89) C dX11_count_1 (by omega) (by decide) rfl (by decide) (fun c1 => ?_) (fun n1_6 => ?_)
  · skip
    refine s_aload_n C dX11_count_89 rfl ?_
    refine s_geti (k := 1) (j := 1) C dX11_count_90 fl_X11_136 (by decide) rfl (by decide) rfl (rfl) (fun r90 => ?_)
    exact s_ireturn C dX11_count_93 (⟨_, rfl, by refine Or.inl ⟨by omega, rfl, ?_⟩; unfold cntR; refine ⟨fun h => ?_, fun h => ?_, fun h => ?_, fun h => ?_, fun h => ?_, fun h => ?_, fun h => ?_, fun h => ?_, fun h => ?_⟩ <;> first | (exfalso; omega) | (rw [if_pos c57]; done) | (rw [if_neg c57]; done) | rfl⟩)
  refine s_tabc (v := 7) (tgt := 94) C dX11_count_1 (by omega) (by decide) rfl (by decide) (fun c1 => ?_) (fun n1_7 => ?_)
  · skip
    refine s_aload_n C dX11_count_94 rfl ?_
    refine s_geti (k := 24) (j := 24) C dX11_count_95 fl_X11_196 (by decide) rfl (by decide) rfl (rfl) (fun r95 => ?_)
    refine s_if_ne (tgt := 103) C dX11_count_98 (by decide) (by omega) (fun c98 => ?_) (fun c98 => ?_)
    · skip
      refine s_aload_n C dX11_count_103 rfl ?_
      refine s_callV0 C dX11_count_104 cy_X11_makeTree cv_X11_makeTree lk_X11_253 (ct_mk E M hI (by omega)) (by decide) (by decide) (by first | decide | (decide)) rfl (Nat.le_of_ble_eq_true rfl) (k_V (fun M104 q104 => ?_))
      have hI2 := hI.tfs q104
      have n2 : M104 66 24 = M 66 24 := q104.2.1 24 (by decide) (by decide) (by decide)
      have hn := hI.n
      have hn2 : 1 ≤ M104 66 24 ∧ M104 66 24 ≤ 24 := by omega
      have hTF := q104.2.2.2
      obtain ⟨r, hT⟩ := hTF.tt hn2
      have hr := hT.1.1
      refine s_iconst C dX11_count_107 ?_
      refine s_istore_n (lv' := [_, _, _]) C dX11_count_108 (by decide) rfl rfl ?_
      exact L109 _ 0 r M104 (by omega) q104 hT hn2 (by omega) (by omega) (Nat.lt_succ_self _)
    · skip
      refine s_iconst C dX11_count_101 ?_
      exact s_ireturn C dX11_count_102 (⟨_, rfl, Or.inr (Or.inl ⟨by omega, by omega, rfl, rfl⟩)⟩)
  refine s_tabd (tgt := 127) C dX11_count_1 (by omega) (by omega) (by decide) ?_
  refine s_iload_n C dX11_count_127 rfl ?_
  refine s_bipush C dX11_count_128 (by decide) ?_
  refine s_bipush C dX11_count_130 (by decide) ?_
  refine s_callS3 C dX11_count_132 cy_X11_in cs_X11_in lk_X11_139 (ct_X11_in E M w 10 13 hw (by decide) (by decide)) (by decide) (Nat.le_of_ble_eq_true rfl) (k_P (fun z132 q132 => ?_))
  have k132 : (z132 = 1 ∧ 10 ≤ w ∧ w ≤ 13) ∨ (z132 = 0 ∧ ¬ (10 ≤ w ∧ w ≤ 13)) := q132
  clear q132
  refine s_if_eq (tgt := 150) C dX11_count_135 (by decide) (by omega) (fun c135 => ?_) (fun c135 => ?_)
  · skip
    refine s_iconst C dX11_count_150 ?_
    exact s_ireturn C dX11_count_151 (⟨_, rfl, by refine Or.inl ⟨by omega, rfl, ?_⟩; unfold cntR; refine ⟨fun h => ?_, fun h => ?_, fun h => ?_, fun h => ?_, fun h => ?_, fun h => ?_, fun h => ?_, fun h => ?_, fun h => ?_⟩ <;> first | (exfalso; omega) | (rw [if_pos c57]; done) | (rw [if_neg c57]; done) | rfl⟩)
  · skip
    refine s_aload_n C dX11_count_138 rfl ?_
    refine s_getr (k := 14) (b := 76) C dX11_count_139 fl_X11_38 (by decide) rfl (by decide) rfl ?_
    refine s_iload_n C dX11_count_142 rfl ?_
    refine s_bipush C dX11_count_143 (by decide) ?_
    refine s_isub C dX11_count_145 ?_
    refine s_iaload (n := 4) C dX11_count_146 (by decide) rfl rfl (by omega) (by omega) (by omega) (rfl) (fun r146 => ?_)
    refine s_goto (tgt := 151) C dX11_count_147 (by decide) ?_
    exact s_ireturn C dX11_count_151 (⟨_, rfl, by refine Or.inl ⟨by omega, rfl, ?_⟩; unfold cntR; refine ⟨fun h => ?_, fun h => ?_, fun h => ?_, fun h => ?_, fun h => ?_, fun h => ?_, fun h => ?_, fun h => ?_, fun h => ?_⟩ <;> first | (exfalso; omega) | (rw [if_pos c57]; done) | (rw [if_neg c57]; done) | rfl⟩)

set_option maxRecDepth 20000 in
set_option maxHeartbeats 4000000 in
theorem ct_X11_isAhead (E : Ev) (M : Mm) (a b : Int) (ha : 0 ≤ a ∧ a < 24) (hb : 0 ≤ b ∧ b < 24) (hs : 0 ≤ M 66 41 ∧ M 66 41 ≤ 20) (hp : ∀ p, 0 ≤ p → p < M 66 41 → (0 ≤ M 96 p ∧ M 96 p < 24) ∧ (0 ≤ M 97 p ∧ M 97 p < 24)) : Ct E yX11_isAhead cX11_isAhead 7 (some .boolean) 0 [zr E 66, zi a, zi b] M (pP M (fun z => Bz z (Rch (M 96) (M 97) (M 66 41) a b))) := by
  refine Ct.of (own := RX11) (lv0 := [some (zr E 66), some (zi a), some (zi b), none, none, none, none]) (by decide) rfl (Nat.le_of_ble_eq_true rfl) rfl (fun κ C => ?_)
  have L7 : ∀ (n9 : Nat) (X t : Int) (u5 u6 : Option Value) (ht : t = 0 ∨ t = 1) (hX : 0 ≤ X ∧ X < 2147483648) (hXa : inS X a) (hXR : ∀ j, 0 ≤ j → j < 24 → inS X j → Rch (M 96) (M 97) (M 66 41) a j) (hcl : t = 0 → ∀ p, 0 ≤ p → p < M 66 41 → inS X (M 96 p) → inS X (M 97 p)) (hm : (cntB (fun p => !decide (inS X (M 97 p))) (M 66 41).toNat * 2 + t).toNat < n9), Gm E κ (pP M (fun z => Bz z (Rch (M 96) (M 97) (M 66 41) a b))) 7 7 [some (zr E 66), some (zi a), some (zi b), some (zi X), some (zi t), u5, u6] [] M := by
    intro n9
    induction n9 with
    | zero => intro X t u5 u6 ht hX hXa hXR hcl hm; exact absurd hm (Nat.not_lt_zero _)
    | succ n9 ih7 =>
      intro X t u5 u6 ht hX hXa hXR hcl hm
      have L18 : ∀ (n9 : Nat) (Y p : Int) (u4 : Option Value) (hY : 0 ≤ Y ∧ Y < 2147483648) (ht1 : t = 1) (hpp : 0 ≤ p ∧ p ≤ M 66 41) (hYR : ∀ j, 0 ≤ j → j < 24 → inS Y j → Rch (M 96) (M 97) (M 66 41) a j) (hXY : ∀ j, 0 ≤ j → inS X j → inS Y j) (hch : ChA M X Y p) (hm : (M 66 41 - p).toNat < n9), Gm E κ (pP M (fun z => Bz z (Rch (M 96) (M 97) (M 66 41) a b))) 7 18 [some (zr E 66), some (zi a), some (zi b), some (zi Y), u4, some (zi X), some (zi p)] [] M := by
        intro n9
        induction n9 with
        | zero => intro Y p u4 hY ht1 hpp hYR hXY hch hm; exact absurd hm (Nat.not_lt_zero _)
        | succ n9 ih18 =>
          intro Y p u4 hY ht1 hpp hYR hXY hch hm
          refine s_iload C dX11_isAhead_18 rfl ?_
          refine s_aload_n C dX11_isAhead_20 rfl ?_
          refine s_geti (k := 41) (j := 41) C dX11_isAhead_21 fl_X11_199 (by decide) rfl (by decide) rfl (rfl) (fun r21 => ?_)
          refine s_icmp_ge (tgt := 60) C dX11_isAhead_24 (by decide) (by first | omega | exact rg_zand _ _) (by first | omega | exact rg_zand _ _) (fun c24 => ?_) (fun c24 => ?_)
          · skip
            refine s_iload_n C dX11_isAhead_60 rfl ?_
            refine s_iload C dX11_isAhead_61 rfl ?_
            refine s_icmp_eq (tgt := 70) C dX11_isAhead_63 (by decide) (by first | omega | exact rg_zand _ _) (by first | omega | exact rg_zand _ _) (fun c63 => ?_) (fun c63 => ?_)
            · skip
              refine s_iconst C dX11_isAhead_70 ?_
              refine s_istore (lv' := [_, _, _, _, _, _, _]) C dX11_isAhead_71 (by decide) rfl rfl ?_
              refine s_goto (tgt := 7) C dX11_isAhead_73 (by decide) ?_
              have hle := cntB_le (f := (fun p => !decide (inS X (M 97 p)))) (g := (fun p => !decide (inS Y (M 97 p)))) (M 66 41).toNat (fun p h1 h2 h3 => by
                have : ¬ inS Y (M 97 p) := by simpa using h3
                by_cases q : inS X (M 97 p)
                · exact absurd (hXY _ (hp p h1 (by omega)).2.1 q) this
                · simp [q])
              have h00 := cntB_nn (fun p => !decide (inS Y (M 97 p))) (M 66 41).toNat
              first
                | exact ih7 Y 0 _ _ (Or.inl rfl) hY (hXY a ha.1 hXa) hYR (fun _ => by
                    rcases hch with ⟨e, h⟩ | ⟨e, _⟩
                    · rw [e]; exact fun q h1 h2 => h q h1 (by omega)
                    · exact absurd c63 e) (by omega)
                | exact ih7 Y 1 _ _ (Or.inr rfl) hY (hXY a ha.1 hXa) hYR (fun h => absurd h (by decide)) (by
                    rcases hch with ⟨e, _⟩ | ⟨_, q, q1, q2, q3, q4⟩
                    · exact absurd e c63
                    · have hlt := cntB_lt (f := (fun p => !decide (inS X (M 97 p)))) (g := (fun p => !decide (inS Y (M 97 p)))) (M 66 41).toNat (fun p h1 h2 h3 => by
                        have : ¬ inS Y (M 97 p) := by simpa using h3
                        by_cases q : inS X (M 97 p)
                        · exact absurd (hXY _ (hp p h1 (by omega)).2.1 q) this
                        · simp [q]) ⟨q, q1, by omega, by simp [q3], by simp [q4]⟩
                      omega)
            · skip
              refine s_iconst C dX11_isAhead_66 ?_
              refine s_goto (tgt := 71) C dX11_isAhead_67 (by decide) ?_
              refine s_istore (lv' := [_, _, _, _, _, _, _]) C dX11_isAhead_71 (by decide) rfl rfl ?_
              refine s_goto (tgt := 7) C dX11_isAhead_73 (by decide) ?_
              have hle := cntB_le (f := (fun p => !decide (inS X (M 97 p)))) (g := (fun p => !decide (inS Y (M 97 p)))) (M 66 41).toNat (fun p h1 h2 h3 => by
                have : ¬ inS Y (M 97 p) := by simpa using h3
                by_cases q : inS X (M 97 p)
                · exact absurd (hXY _ (hp p h1 (by omega)).2.1 q) this
                · simp [q])
              have h00 := cntB_nn (fun p => !decide (inS Y (M 97 p))) (M 66 41).toNat
              first
                | exact ih7 Y 0 _ _ (Or.inl rfl) hY (hXY a ha.1 hXa) hYR (fun _ => by
                    rcases hch with ⟨e, h⟩ | ⟨e, _⟩
                    · rw [e]; exact fun q h1 h2 => h q h1 (by omega)
                    · exact absurd c63 e) (by omega)
                | exact ih7 Y 1 _ _ (Or.inr rfl) hY (hXY a ha.1 hXa) hYR (fun h => absurd h (by decide)) (by
                    rcases hch with ⟨e, _⟩ | ⟨_, q, q1, q2, q3, q4⟩
                    · exact absurd e c63
                    · have hlt := cntB_lt (f := (fun p => !decide (inS X (M 97 p)))) (g := (fun p => !decide (inS Y (M 97 p)))) (M 66 41).toNat (fun p h1 h2 h3 => by
                        have : ¬ inS Y (M 97 p) := by simpa using h3
                        by_cases q : inS X (M 97 p)
                        · exact absurd (hXY _ (hp p h1 (by omega)).2.1 q) this
                        · simp [q]) ⟨q, q1, by omega, by simp [q3], by simp [q4]⟩
                      omega)
          · skip
            obtain ⟨⟨f0, f1⟩, s0, s1⟩ := hp p hpp.1 (by omega)
            have hbit := zbitS (x := Y) hY (k := M 96 p) (by omega)
            refine s_iload_n C dX11_isAhead_27 rfl ?_
            refine s_aload_n C dX11_isAhead_28 rfl ?_
            refine s_getr (k := 42) (b := 96) C dX11_isAhead_29 fl_X11_103 (by decide) rfl (by decide) rfl ?_
            refine s_iload C dX11_isAhead_32 rfl ?_
            refine s_iaload (n := 20) C dX11_isAhead_34 (by decide) rfl rfl (by omega) (by omega) (by omega) (rfl) (fun r34 => ?_)
            refine s_ishr C dX11_isAhead_35 ?_
            refine s_iconst C dX11_isAhead_36 ?_
            refine s_iand C dX11_isAhead_37 ?_
            refine s_iconst C dX11_isAhead_38 ?_
            refine s_icmp_ne (tgt := 54) C dX11_isAhead_39 (by decide) (by first | exact rg_zand _ _ | decide) (by first | exact rg_zand _ _ | decide) (fun c39 => ?_) (fun c39 => ?_)
            · skip
              refine s_iinc (lv' := [_, _, _, _, _, _, _]) C dX11_isAhead_54 rfl (by decide) rfl rfl rfl ?_
              refine s_goto (tgt := 18) C dX11_isAhead_57 (by decide) ?_
              first
                | exact ih18 _ _ _ hY ht1 (by omega) hYR hXY (hch.no (by rcases hbit with ⟨_, g⟩ | ⟨g, _⟩; exact absurd g c39; exact g)) (by omega)
                | exact ih18 _ _ _ (zor_rg hY (by omega)) ht1 (by omega) (fun j h1 h2 h3 => by
                    rcases (inS_or hY (by omega) j).mp h3 with h | h
                    · exact hYR j h1 h2 h
                    · rw [show j = M 97 p by omega]
                      refine Rch.st (hYR _ f0 f1 ?_) hpp.1 (by omega)
                      rcases hbit with ⟨g, _⟩ | ⟨_, g⟩
                      · exact g
                      · exact absurd (g.symm.trans c39) (by decide)) (fun j h1 h => (inS_or hY (by omega) j).mpr (Or.inl (hXY j h1 h))) (hch.yes hX hY hpp.1 (by omega) ⟨s0, s1⟩) (by omega)
            · skip
              refine s_iload_n C dX11_isAhead_42 rfl ?_
              refine s_iconst C dX11_isAhead_43 ?_
              refine s_aload_n C dX11_isAhead_44 rfl ?_
              refine s_getr (k := 43) (b := 97) C dX11_isAhead_45 fl_X11_106 (by decide) rfl (by decide) rfl ?_
              refine s_iload C dX11_isAhead_48 rfl ?_
              refine s_iaload (n := 20) C dX11_isAhead_50 (by decide) rfl rfl (by omega) (by omega) (by omega) (rfl) (fun r50 => ?_)
              refine s_ishl C dX11_isAhead_51 ?_
              refine s_ior C dX11_isAhead_52 ?_
              refine s_istore_n (lv' := [_, _, _, _, _, _, _]) C dX11_isAhead_53 (by decide) rfl rfl ?_
              refine s_iinc (lv' := [_, _, _, _, _, _, _]) C dX11_isAhead_54 rfl (by decide) rfl rfl rfl ?_
              refine s_goto (tgt := 18) C dX11_isAhead_57 (by decide) ?_
              first
                | exact ih18 _ _ _ hY ht1 (by omega) hYR hXY (hch.no (by rcases hbit with ⟨_, g⟩ | ⟨g, _⟩; exact absurd g c39; exact g)) (by omega)
                | exact ih18 _ _ _ (zor_rg hY (by omega)) ht1 (by omega) (fun j h1 h2 h3 => by
                    rcases (inS_or hY (by omega) j).mp h3 with h | h
                    · exact hYR j h1 h2 h
                    · rw [show j = M 97 p by omega]
                      refine Rch.st (hYR _ f0 f1 ?_) hpp.1 (by omega)
                      rcases hbit with ⟨g, _⟩ | ⟨_, g⟩
                      · exact g
                      · exact absurd (g.symm.trans c39) (by decide)) (fun j h1 h => (inS_or hY (by omega) j).mpr (Or.inl (hXY j h1 h))) (hch.yes hX hY hpp.1 (by omega) ⟨s0, s1⟩) (by omega)
      refine s_iload C dX11_isAhead_7 rfl ?_
      refine s_if_eq (tgt := 76) C dX11_isAhead_9 (by decide) (by first | omega | exact rg_zand _ _) (fun c9 => ?_) (fun c9 => ?_)
      · skip
        have hclX := hcl c9
        have hfin : inS X b ↔ Rch (M 96) (M 97) (M 66 41) a b := ⟨fun h => hXR b hb.1 hb.2 h, fun h => h (fun j => inS X j) hXa hclX⟩
        have hbit := zbitS (x := X) hX (k := b) (by omega)
        refine s_iload_n C dX11_isAhead_76 rfl ?_
        refine s_iload_n C dX11_isAhead_77 rfl ?_
        refine s_ishr C dX11_isAhead_78 ?_
        refine s_iconst C dX11_isAhead_79 ?_
        refine s_iand C dX11_isAhead_80 ?_
        refine s_iconst C dX11_isAhead_81 ?_
        refine s_icmp_ne (tgt := 89) C dX11_isAhead_82 (by decide) (by first | exact rg_zand _ _ | decide) (by first | exact rg_zand _ _ | decide) (fun c82 => ?_) (fun c82 => ?_)
        · skip
          refine s_iconst C dX11_isAhead_89 ?_
          exact s_zreturn C dX11_isAhead_90 (by decide) (⟨_, rfl, rfl, by first | exact Bz.t (hfin.mp (by rcases hbit with ⟨g, _⟩ | ⟨_, g⟩; exact g; exact absurd (g.symm.trans c82) (by decide))) | exact Bz.f (fun q => by rcases hbit with ⟨_, g⟩ | ⟨g, _⟩; exact c82 g; exact g (hfin.mpr q))⟩)
        · skip
          refine s_iconst C dX11_isAhead_85 ?_
          refine s_goto (tgt := 90) C dX11_isAhead_86 (by decide) ?_
          exact s_zreturn C dX11_isAhead_90 (by decide) (⟨_, rfl, rfl, by first | exact Bz.t (hfin.mp (by rcases hbit with ⟨g, _⟩ | ⟨_, g⟩; exact g; exact absurd (g.symm.trans c82) (by decide))) | exact Bz.f (fun q => by rcases hbit with ⟨_, g⟩ | ⟨g, _⟩; exact c82 g; exact g (hfin.mpr q))⟩)
      · skip
        refine s_iload_n C dX11_isAhead_12 rfl ?_
        refine s_istore (lv' := [_, _, _, _, _, _, _]) C dX11_isAhead_13 (by decide) rfl rfl ?_
        refine s_iconst C dX11_isAhead_15 ?_
        refine s_istore (lv' := [_, _, _, _, _, _, _]) C dX11_isAhead_16 (by decide) rfl rfl ?_
        exact L18 _ X 0 _ hX (by omega) (by omega) hXR (fun j _ h => h) (Or.inl ⟨rfl, fun q h1 h2 => by omega⟩) (Nat.lt_succ_self _)
  refine s_iconst C dX11_isAhead_0 ?_
  refine s_iload_n C dX11_isAhead_1 rfl ?_
  refine s_ishl C dX11_isAhead_2 ?_
  refine s_istore_n (lv' := [_, _, _, _, _, _, _]) C dX11_isAhead_3 (by decide) rfl rfl ?_
  refine s_iconst C dX11_isAhead_4 ?_
  refine s_istore (lv' := [_, _, _, _, _, _, _]) C dX11_isAhead_5 (by decide) rfl rfl ?_
  exact L7 _ (zshl 1 a) 1 _ _ (Or.inr rfl) (zshl1_rg (by omega)) ((inS_one (by omega) _).mpr rfl) (fun j h1 h2 h3 => by rw [show j = a by have := (inS_one (by omega) _).mp h3; omega]; exact Rch.rf _ _ _ _) (fun h => absurd h (by decide)) (Nat.lt_succ_self _)
