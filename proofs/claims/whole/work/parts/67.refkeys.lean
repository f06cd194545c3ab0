noncomputable def bP (P : Prop) : Bool := @decide P (Classical.propDecidable P)
theorem bP_t {P : Prop} (h : P) : bP P = true := @decide_eq_true P (Classical.propDecidable P) h
theorem bP_f {P : Prop} (h : ¬ P) : bP P = false := @decide_eq_false P (Classical.propDecidable P) h
theorem bP_iff {P : Prop} : bP P = true ↔ P := @decide_eq_true_iff P (Classical.propDecidable P)
def isStopR (M : Mm) (w : Int) : Prop := ∃ q, 0 ≤ q ∧ q < M 66 6 ∧ M 70 q = M 78 w ∧ lk M 69 (16 * q) 77 (16 * w) (M 70 q)
def FdR (M : Mm) (s z : Int) : Prop := (z = -1 ∧ ∀ q, 0 ≤ q → q < M 66 10 → ¬ (M 72 q = M 78 (40 * s) ∧ lk M 71 (16 * q) 77 (640 * s) (M 72 q))) ∨ (0 ≤ z ∧ z < M 66 10 ∧ (M 72 z = M 78 (40 * s) ∧ lk M 71 (16 * z) 77 (640 * s) (M 72 z)) ∧ ∀ q, 0 ≤ q → q < z → ¬ (M 72 q = M 78 (40 * s) ∧ lk M 71 (16 * q) 77 (640 * s) (M 72 q)))
def eFitR (M : Mm) (e w : Int) : Prop := 3 ≤ M 78 w - M 75 e ∧ lk M 74 (16 * e) 77 (16 * w + M 78 w - M 75 e) (M 75 e)
def eLR (M : Mm) (w m lost : Int) : Prop := (0 ≤ lost ∧ lost ≤ 16) ∧ (lost = 0 ∨ ∃ e, 0 ≤ e ∧ e < m ∧ M 75 e = lost ∧ eFitR M e w) ∧ ∀ e, 0 ≤ e → e < m → eFitR M e w → M 75 e ≤ lost
def foldR (M : Mm) (w n : Int) : Prop := eLR M w (M 66 13) (M 78 w - n)
theorem eLR_skip {M : Mm} {w e most : Int} (h : eLR M w e most) (hn : eFitR M e w → M 75 e ≤ most) : eLR M w (e + 1) most := by
  obtain ⟨h1, h2, h3⟩ := h
  refine ⟨h1, h2.elim Or.inl (fun ⟨e', a, b, c⟩ => Or.inr ⟨e', a, Int.lt_trans b (Int.lt_succ e), c⟩), fun e' a b c => ?_⟩
  by_cases ce : e' = e
  · subst ce; exact hn c
  · exact h3 e' a (by clear h2; omega) c
theorem eLR_take {M : Mm} {w e most : Int} (h : eLR M w e most) (he : 0 ≤ e) (hf : eFitR M e w) (hgt : most < M 75 e) (hb : M 75 e ≤ 16) : eLR M w (e + 1) (M 75 e) := by
  obtain ⟨h1, h2, h3⟩ := h
  clear h2
  refine ⟨by omega, Or.inr ⟨e, he, by omega, rfl, hf⟩, fun e' a b c => ?_⟩
  by_cases ce : e' = e
  · subst ce; exact Int.le_refl _
  · have := h3 e' a (by omega) c; omega
/-- word w, n bytes of it, are those of v, m of them -/
def sK (M : Mm) (w n v m : Int) : Prop := n = m ∧ lk M 77 (16 * w) 77 (16 * v) n
def HasK (M : Mm) (i w n : Int) : Prop := ∃ q, 0 ≤ q ∧ q < M 88 i ∧ sK M w n (M 86 (40 * i + q)) (M 87 (40 * i + q))
noncomputable def shB (M : Mm) (i j : Int) (k : Nat) : Int := cntB (fun q => bP (HasK M j (M 86 (40 * i + q)) (M 87 (40 * i + q)))) k
def tR (M : Mm) (c : Int) (w : Nat) (mo : Int) : Prop := (0 ≤ M 66 c ∧ M 66 c ≤ mo) ∧ ∀ q, 0 ≤ q → q < M 66 c → 0 ≤ M w q ∧ M w q ≤ 16
/-- keys are in bounds -/
def KyB (M : Mm) (i : Int) : Prop := (0 ≤ M 88 i ∧ M 88 i ≤ 40) ∧ ∀ q, 0 ≤ q → q < M 88 i → (0 ≤ M 86 (40 * i + q) ∧ M 86 (40 * i + q) < 960) ∧ (0 ≤ M 87 (40 * i + q) ∧ M 87 (40 * i + q) ≤ 16)
/-- the essay's bounds -/
def eR (M : Mm) : Prop := (0 ≤ M 66 24 ∧ M 66 24 ≤ 24) ∧ (∀ s, 0 ≤ s → s < M 66 24 → (1 ≤ M 79 s ∧ M 79 s ≤ 40) ∧ ∀ k, 0 ≤ k → k < M 79 s → 0 ≤ M 78 (40 * s + k) ∧ M 78 (40 * s + k) ≤ 16) ∧ ∀ i, 0 ≤ i → i < M 66 24 → 0 ≤ M 85 i ∧ M 85 i < M 66 24

set_option maxRecDepth 20000 in
set_option maxHeartbeats 4000000 in
theorem ct_X11_folded (E : Ev) (M : Mm) (w : Int) (hw : 0 ≤ w ∧ w < 960) (hl : 0 ≤ M 78 w ∧ M 78 w ≤ 16) (hT : tR M 13 75 10) : Ct E yX11_folded cX11_folded 5 (some .int) 1 [zr E 66, zi w] M (pP M (fun z => foldR M w z ∧ 0 ≤ z ∧ z ≤ 16)) := by
  refine Ct.of (own := RX11) (lv0 := [some (zr E 66), some (zi w), none, none, none]) (by decide) rfl (Nat.le_of_ble_eq_true rfl) rfl (fun κ C => ?_)
  obtain ⟨hT1, hT2⟩ := hT
  have L12 : ∀ (n9 : Nat) (e most : Int) (he : 0 ≤ e ∧ e ≤ M 66 13) (hm1 : 0 ≤ most ∧ most ≤ M 78 w) (hE : eLR M w e most) (hm : (M 66 13 - e).toNat < n9), Gm E κ (pP M (fun z => foldR M w z ∧ 0 ≤ z ∧ z ≤ 16)) 5 12 [some (zr E 66), some (zi w), some (zi (M 78 w)), some (zi most), some (zi e)] [] M := by
    intro n9
    induction n9 with
    | zero => intro e most  he hm1 hE hm; exact absurd hm (Nat.not_lt_zero _)
    | succ n9 ih12 =>
      intro e most  he hm1 hE hm
      refine s_iload C dX11_folded_12 rfl ?_
      refine s_aload_n C dX11_folded_14 rfl ?_
      refine s_geti (k := 13) (j := 13) C dX11_folded_15 fl_X11_183 (by decide) rfl (by decide) rfl (rfl) (fun r15 => ?_)
      refine s_icmp_ge (tgt := 106) C dX11_folded_18 (by decide) (by omega) (by omega) (fun c18 => ?_) (fun c18 => ?_)
      · skip
        refine s_iload_n C dX11_folded_106 rfl ?_
        refine s_iload_n C dX11_folded_107 rfl ?_
        refine s_isub C dX11_folded_108 ?_
        exact s_ireturn C dX11_folded_109 (⟨_, rfl, rfl, by have c0 : e = M 66 13 := (by omega); subst c0; refine ⟨?_, by omega, by omega⟩; unfold foldR; rw [show M 78 w - (M 78 w - most) = most by omega]; exact hE⟩)
      · skip
        have t2 := hT2 e (by omega) (by omega)
        refine s_aload_n C dX11_folded_21 rfl ?_
        refine s_getr (k := 12) (b := 75) C dX11_folded_22 fl_X11_35 (by decide) rfl (by decide) rfl ?_
        refine s_iload C dX11_folded_25 rfl ?_
        refine s_iaload (n := 10) C dX11_folded_27 (by decide) rfl rfl (by omega) (by omega) (by omega) (rfl) (fun r27 => ?_)
        refine s_iload_n C dX11_folded_28 rfl ?_
        refine s_icmp_le (tgt := 100) C dX11_folded_29 (by decide) (by omega) (by omega) (fun c29 => ?_) (fun c29 => ?_)
        · skip
          refine s_iinc (lv' := [_, _, _, _, _]) C dX11_folded_100 rfl (by decide) rfl rfl rfl ?_
          refine s_goto (tgt := 12) C dX11_folded_103 (by decide) ?_
          first
            | exact ih12 _ _ (by omega) hm1 (eLR_skip hE (fun _ => c29)) (by omega)
            | exact ih12 _ _ (by omega) hm1 (eLR_skip hE (fun q => by have := q.1; omega)) (by omega)
            | exact ih12 _ _ (by omega) hm1 (eLR_skip hE (fun q => by rcases k86 with ⟨g, _⟩ | ⟨_, g⟩; exact absurd (c89.symm.trans g) (by decide); exact absurd q.2 g)) (by omega)
            | exact ih12 _ (M 75 e) (by omega) (by omega) (eLR_take hE (by omega) ⟨by omega, by rcases k86 with ⟨_, g⟩ | ⟨g, _⟩; exact g; exact absurd g c89⟩ (by omega) (by omega)) (by omega)
        · skip
          refine s_iload_n C dX11_folded_32 rfl ?_
          refine s_aload_n C dX11_folded_33 rfl ?_
          refine s_getr (k := 12) (b := 75) C dX11_folded_34 fl_X11_35 (by decide) rfl (by decide) rfl ?_
          refine s_iload C dX11_folded_37 rfl ?_
          refine s_iaload (n := 10) C dX11_folded_39 (by decide) rfl rfl (by omega) (by omega) (by omega) (rfl) (fun r39 => ?_)
          refine s_isub C dX11_folded_40 ?_
          refine s_iconst C dX11_folded_41 ?_
          refine s_icmp_lt (tgt := 100) C dX11_folded_42 (by decide) (by omega) (by omega) (fun c42 => ?_) (fun c42 => ?_)
          · skip
            refine s_iinc (lv' := [_, _, _, _, _]) C dX11_folded_100 rfl (by decide) rfl rfl rfl ?_
            refine s_goto (tgt := 12) C dX11_folded_103 (by decide) ?_
            first
              | exact ih12 _ _ (by omega) hm1 (eLR_skip hE (fun _ => c29)) (by omega)
              | exact ih12 _ _ (by omega) hm1 (eLR_skip hE (fun q => by have := q.1; omega)) (by omega)
              | exact ih12 _ _ (by omega) hm1 (eLR_skip hE (fun q => by rcases k86 with ⟨g, _⟩ | ⟨_, g⟩; exact absurd (c89.symm.trans g) (by decide); exact absurd q.2 g)) (by omega)
              | exact ih12 _ (M 75 e) (by omega) (by omega) (eLR_take hE (by omega) ⟨by omega, by rcases k86 with ⟨_, g⟩ | ⟨g, _⟩; exact g; exact absurd g c89⟩ (by omega) (by omega)) (by omega)
          · skip
            refine s_aload_n C dX11_folded_45 rfl ?_
            refine s_getr (k := 11) (b := 74) C dX11_folded_46 fl_X11_32 (by decide) rfl (by decide) rfl ?_
            refine s_bipush C dX11_folded_49 (by decide) ?_
            refine s_iload C dX11_folded_51 rfl ?_
            refine s_imul C dX11_folded_53 ?_
            refine s_aload_n C dX11_folded_54 rfl ?_
            refine s_getr (k := 12) (b := 75) C dX11_folded_55 fl_X11_35 (by decide) rfl (by decide) rfl ?_
            refine s_iload C dX11_folded_58 rfl ?_
            refine s_iaload (n := 10) C dX11_folded_60 (by decide) rfl rfl (by omega) (by omega) (by omega) (rfl) (fun r60 => ?_)
            refine s_aload_n C dX11_folded_61 rfl ?_
            refine s_getr (k := 15) (b := 77) C dX11_folded_62 fl_X11_41 (by decide) rfl (by decide) rfl ?_
            refine s_bipush C dX11_folded_65 (by decide) ?_
            refine s_iload_n C dX11_folded_67 rfl ?_
            refine s_imul C dX11_folded_68 ?_
            refine s_iload_n C dX11_folded_69 rfl ?_
            refine s_iadd C dX11_folded_70 ?_
            refine s_aload_n C dX11_folded_71 rfl ?_
            refine s_getr (k := 12) (b := 75) C dX11_folded_72 fl_X11_35 (by decide) rfl (by decide) rfl ?_
            refine s_iload C dX11_folded_75 rfl ?_
            refine s_iaload (n := 10) C dX11_folded_77 (by decide) rfl rfl (by omega) (by omega) (by omega) (rfl) (fun r77 => ?_)
            refine s_isub C dX11_folded_78 ?_
            refine s_aload_n C dX11_folded_79 rfl ?_
            refine s_getr (k := 12) (b := 75) C dX11_folded_80 fl_X11_35 (by decide) rfl (by decide) rfl ?_
            refine s_iload C dX11_folded_83 rfl ?_
            refine s_iaload (n := 10) C dX11_folded_85 (by decide) rfl rfl (by omega) (by omega) (by omega) (rfl) (fun r85 => ?_)
            refine s_callS6 C dX11_folded_86 cy_X11_isLike cs_X11_isLike lk_X11_154 (ct_X11_isLike E 74 77 (by decide) (by decide) (by decide) (by decide) M (16 * e) (M 75 e) (16 * w + M 78 w - M 75 e) (M 75 e) (by omega) (by omega) (fun _ => by have l1 : ln 74 = 160 := rfl; have l2 : ln 77 = 15360 := rfl; omega)) (by decide) (Nat.le_of_ble_eq_true rfl) (k_P (fun z86 q86 => ?_))
            have k86 : (z86 = 1 ∧ lk M 74 (16 * e) 77 (16 * w + M 78 w - M 75 e) (M 75 e)) ∨ (z86 = 0 ∧ ¬ lk M 74 (16 * e) 77 (16 * w + M 78 w - M 75 e) (M 75 e)) := by
              rcases q86 with ⟨g1, g2⟩ | ⟨g1, g2⟩
              · exact Or.inl ⟨g1, g2.2⟩
              · exact Or.inr ⟨g1, fun q => g2 ⟨rfl, q⟩⟩
            clear q86
            refine s_if_eq (tgt := 100) C dX11_folded_89 (by decide) (by rcases k86 with ⟨g, _⟩ | ⟨g, _⟩ <;> omega) (fun c89 => ?_) (fun c89 => ?_)
            · skip
              refine s_iinc (lv' := [_, _, _, _, _]) C dX11_folded_100 rfl (by decide) rfl rfl rfl ?_
              refine s_goto (tgt := 12) C dX11_folded_103 (by decide) ?_
              first
                | exact ih12 _ _ (by omega) hm1 (eLR_skip hE (fun _ => c29)) (by omega)
                | exact ih12 _ _ (by omega) hm1 (eLR_skip hE (fun q => by have := q.1; omega)) (by omega)
                | exact ih12 _ _ (by omega) hm1 (eLR_skip hE (fun q => by rcases k86 with ⟨g, _⟩ | ⟨_, g⟩; exact absurd (c89.symm.trans g) (by decide); exact absurd q.2 g)) (by omega)
                | exact ih12 _ (M 75 e) (by omega) (by omega) (eLR_take hE (by omega) ⟨by omega, by rcases k86 with ⟨_, g⟩ | ⟨g, _⟩; exact g; exact absurd g c89⟩ (by omega) (by omega)) (by omega)
            · skip
              refine s_aload_n C dX11_folded_92 rfl ?_
              refine s_getr (k := 12) (b := 75) C dX11_folded_93 fl_X11_35 (by decide) rfl (by decide) rfl ?_
              refine s_iload C dX11_folded_96 rfl ?_
              refine s_iaload (n := 10) C dX11_folded_98 (by decide) rfl rfl (by omega) (by omega) (by omega) (rfl) (fun r98 => ?_)
              refine s_istore_n (lv' := [_, _, _, _, _]) C dX11_folded_99 (by decide) rfl rfl ?_
              refine s_iinc (lv' := [_, _, _, _, _]) C dX11_folded_100 rfl (by decide) rfl rfl rfl ?_
              refine s_goto (tgt := 12) C dX11_folded_103 (by decide) ?_
              first
                | exact ih12 _ _ (by omega) hm1 (eLR_skip hE (fun _ => c29)) (by omega)
                | exact ih12 _ _ (by omega) hm1 (eLR_skip hE (fun q => by have := q.1; omega)) (by omega)
                | exact ih12 _ _ (by omega) hm1 (eLR_skip hE (fun q => by rcases k86 with ⟨g, _⟩ | ⟨_, g⟩; exact absurd (c89.symm.trans g) (by decide); exact absurd q.2 g)) (by omega)
                | exact ih12 _ (M 75 e) (by omega) (by omega) (eLR_take hE (by omega) ⟨by omega, by rcases k86 with ⟨_, g⟩ | ⟨g, _⟩; exact g; exact absurd g c89⟩ (by omega) (by omega)) (by omega)
  refine s_aload_n C dX11_folded_0 rfl ?_
  refine s_getr (k := 16) (b := 78) C dX11_folded_1 fl_X11_44 (by decide) rfl (by decide) rfl ?_
  refine s_iload_n C dX11_folded_4 rfl ?_
  refine s_iaload (n := 960) C dX11_folded_5 (by decide) rfl rfl (by omega) (by omega) (by omega) (rfl) (fun r5 => ?_)
  refine s_istore_n (lv' := [_, _, _, _, _]) C dX11_folded_6 (by decide) rfl rfl ?_
  refine s_iconst C dX11_folded_7 ?_
  refine s_istore_n (lv' := [_, _, _, _, _]) C dX11_folded_8 (by decide) rfl rfl ?_
  refine s_iconst C dX11_folded_9 ?_
  refine s_istore (lv' := [_, _, _, _, _]) C dX11_folded_10 (by decide) rfl rfl ?_
  exact L12 _ 0 0 (by omega) (by omega) ⟨by omega, Or.inl rfl, fun e a b => by omega⟩ (Nat.lt_succ_self _)

set_option maxRecDepth 20000 in
set_option maxHeartbeats 4000000 in
theorem ct_X11_sameKey (E : Ev) (M : Mm) (w n v m : Int) (hw : 0 ≤ w ∧ w < 960) (hv : 0 ≤ v ∧ v < 960) (hn : 0 ≤ n ∧ n ≤ 16) (hm : 0 ≤ m ∧ m ≤ 16) : Ct E yX11_sameKey cX11_sameKey 5 (some .boolean) 1 [zr E 66, zi w, zi n, zi v, zi m] M (pP M (fun z => Bz z (sK M w n v m))) := by
  refine Ct.of (own := RX11) (lv0 := [some (zr E 66), some (zi w), some (zi n), some (zi v), some (zi m)]) (by decide) rfl (Nat.le_of_ble_eq_true rfl) rfl (fun κ C => ?_)
  refine s_aload_n C dX11_sameKey_0 rfl ?_
  refine s_getr (k := 15) (b := 77) C dX11_sameKey_1 fl_X11_41 (by decide) rfl (by decide) rfl ?_
  refine s_bipush C dX11_sameKey_4 (by decide) ?_
  refine s_iload_n C dX11_sameKey_6 rfl ?_
  refine s_imul C dX11_sameKey_7 ?_
  refine s_iload_n C dX11_sameKey_8 rfl ?_
  refine s_aload_n C dX11_sameKey_9 rfl ?_
  refine s_getr (k := 15) (b := 77) C dX11_sameKey_10 fl_X11_41 (by decide) rfl (by decide) rfl ?_
  refine s_bipush C dX11_sameKey_13 (by decide) ?_
  refine s_iload_n C dX11_sameKey_15 rfl ?_
  refine s_imul C dX11_sameKey_16 ?_
  refine s_iload C dX11_sameKey_17 rfl ?_
  refine s_callS6 C dX11_sameKey_19 cy_X11_isLike cs_X11_isLike lk_X11_154 (ct_X11_isLike E 77 77 (by decide) (by decide) (by decide) (by decide) M (16 * w) n (16 * v) m (by omega) (by omega) (fun _ => by have l2 : ln 77 = 15360 := rfl; omega)) (by decide) (Nat.le_of_ble_eq_true rfl) (k_P (fun z19 q19 => ?_))
  exact s_zreturn C dX11_sameKey_22 (by rcases q19 with ⟨g, _⟩ | ⟨g, _⟩ <;> omega) (⟨_, rfl, rfl, q19⟩)

set_option maxRecDepth 20000 in
set_option maxHeartbeats 4000000 in
theorem ct_X11_hasKey (E : Ev) (M : Mm) (i w n : Int) (hi : 0 ≤ i ∧ i < 24) (hw : 0 ≤ w ∧ w < 960) (hn : 0 ≤ n ∧ n ≤ 16) (hK : KyB M i) : Ct E yX11_hasKey cX11_hasKey 5 (some .boolean) 2 [zr E 66, zi i, zi w, zi n] M (pP M (fun z => Bz z (HasK M i w n))) := by
  refine Ct.of (own := RX11) (lv0 := [some (zr E 66), some (zi i), some (zi w), some (zi n), none]) (by decide) rfl (Nat.le_of_ble_eq_true rfl) rfl (fun κ C => ?_)
  obtain ⟨hK1, hK2⟩ := hK
  have L6 : ∀ (n9 : Nat) (q : Int) (hq : 0 ≤ q ∧ q ≤ M 88 i) (hno : ∀ p, 0 ≤ p → p < q → ¬ sK M w n (M 86 (40 * i + p)) (M 87 (40 * i + p))) (hm : (M 88 i - q).toNat < n9), Gm E κ (pP M (fun z => Bz z (HasK M i w n))) 5 6 [some (zr E 66), some (zi i), some (zi w), some (zi n), some (zi (40 * i + q))] [] M := by
    intro n9
    induction n9 with
    | zero => intro q  hq hno hm; exact absurd hm (Nat.not_lt_zero _)
    | succ n9 ih6 =>
      intro q  hq hno hm
      refine s_iload C dX11_hasKey_6 rfl ?_
      refine s_bipush C dX11_hasKey_8 (by decide) ?_
      refine s_iload_n C dX11_hasKey_10 rfl ?_
      refine s_imul C dX11_hasKey_11 ?_
      refine s_aload_n C dX11_hasKey_12 rfl ?_
      refine s_getr (k := 30) (b := 88) C dX11_hasKey_13 fl_X11_78 (by decide) rfl (by decide) rfl ?_
      refine s_iload_n C dX11_hasKey_16 rfl ?_
      refine s_iaload (n := 24) C dX11_hasKey_17 (by decide) rfl rfl (by omega) (by omega) (by omega) (rfl) (fun r17 => ?_)
      refine s_iadd C dX11_hasKey_18 ?_
      refine s_icmp_ge (tgt := 53) C dX11_hasKey_19 (by decide) (by omega) (by omega) (fun c19 => ?_) (fun c19 => ?_)
      · skip
        refine s_iconst C dX11_hasKey_53 ?_
        exact s_zreturn C dX11_hasKey_54 (by decide) (⟨_, rfl, rfl, Bz.f (fun ⟨p, a, b, c⟩ => hno p a (by omega) c)⟩)
      · skip
        have b2 := hK2 q (by omega) (by omega)
        refine s_aload_n C dX11_hasKey_22 rfl ?_
        refine s_iload_n C dX11_hasKey_23 rfl ?_
        refine s_iload_n C dX11_hasKey_24 rfl ?_
        refine s_aload_n C dX11_hasKey_25 rfl ?_
        refine s_getr (k := 28) (b := 86) C dX11_hasKey_26 fl_X11_72 (by decide) rfl (by decide) rfl ?_
        refine s_iload C dX11_hasKey_29 rfl ?_
        refine s_iaload (n := 960) C dX11_hasKey_31 (by decide) rfl rfl (by omega) (by omega) (by omega) (rfl) (fun r31 => ?_)
        refine s_aload_n C dX11_hasKey_32 rfl ?_
        refine s_getr (k := 29) (b := 87) C dX11_hasKey_33 fl_X11_75 (by decide) rfl (by decide) rfl ?_
        refine s_iload C dX11_hasKey_36 rfl ?_
        refine s_iaload (n := 960) C dX11_hasKey_38 (by decide) rfl rfl (by omega) (by omega) (by omega) (rfl) (fun r38 => ?_)
        refine s_callV4 C dX11_hasKey_39 cy_X11_sameKey cv_X11_sameKey lk_X11_208 (ct_X11_sameKey E M w n (M 86 (40 * i + q)) (M 87 (40 * i + q)) hw b2.1 hn b2.2) (by decide) (by decide) (by first | decide | (decide)) rfl (Nat.le_of_ble_eq_true rfl) (k_P (fun z39 q39 => ?_))
        refine s_if_eq (tgt := 47) C dX11_hasKey_42 (by decide) (by rcases q39 with ⟨g, _⟩ | ⟨g, _⟩ <;> omega) (fun c42 => ?_) (fun c42 => ?_)
        · skip
          refine s_iinc (lv' := [_, _, _, _, _]) C dX11_hasKey_47 rfl (by decide) rfl rfl rfl ?_
          refine s_goto (tgt := 6) C dX11_hasKey_50 (by decide) ?_
          rw [show 40 * i + q + 1 = 40 * i + (q + 1) by omega]
          exact ih6 (q + 1) (by omega) (fun p a b => by
            by_cases cp : p = q
            · subst cp
              rcases q39 with ⟨g, _⟩ | ⟨_, g⟩
              · exact absurd (c42.symm.trans g) (by decide)
              · exact g
            · exact hno p a (by omega)) (by omega)
        · skip
          refine s_iconst C dX11_hasKey_45 ?_
          exact s_zreturn C dX11_hasKey_46 (by decide) (⟨_, rfl, rfl, Bz.t ⟨q, by omega, by omega, by rcases q39 with ⟨_, g⟩ | ⟨g, _⟩; exact g; exact absurd g c42⟩⟩)
  refine s_bipush C dX11_hasKey_0 (by decide) ?_
  refine s_iload_n C dX11_hasKey_2 rfl ?_
  refine s_imul C dX11_hasKey_3 ?_
  refine s_istore (lv' := [_, _, _, _, _]) C dX11_hasKey_4 (by decide) rfl rfl ?_
  have h := L6 _ 0 (by omega) (fun p a b => by omega) (Nat.lt_succ_self _)
  rw [Int.add_zero] at h
  exact h

set_option maxRecDepth 20000 in
set_option maxHeartbeats 4000000 in
theorem ct_X11_sharedBy (E : Ev) (M : Mm) (i j : Int) (hi : 0 ≤ i ∧ i < 24) (hj : 0 ≤ j ∧ j < 24) (hK : KyB M i) (hJ : KyB M j) : Ct E yX11_sharedBy cX11_sharedBy 5 (some .int) 3 [zr E 66, zi i, zi j] M (pP M (fun z => z = shB M i j (M 88 i).toNat)) := by
  refine Ct.of (own := RX11) (lv0 := [some (zr E 66), some (zi i), some (zi j), none, none]) (by decide) rfl (Nat.le_of_ble_eq_true rfl) rfl (fun κ C => ?_)
  obtain ⟨hK1, hK2⟩ := hK
  have L8 : ∀ (n9 : Nat) (q : Nat) (hq : (q : Int) ≤ M 88 i) (hm : (M 88 i - (q : Int)).toNat < n9), Gm E κ (pP M (fun z => z = shB M i j (M 88 i).toNat)) 5 8 [some (zr E 66), some (zi i), some (zi j), some (zi (shB M i j q)), some (zi (40 * i + (q : Int)))] [] M := by
    intro n9
    induction n9 with
    | zero => intro q  hq hm; exact absurd hm (Nat.not_lt_zero _)
    | succ n9 ih8 =>
      intro q  hq hm
      refine s_iload C dX11_sharedBy_8 rfl ?_
      refine s_bipush C dX11_sharedBy_10 (by decide) ?_
      refine s_iload_n C dX11_sharedBy_12 rfl ?_
      refine s_imul C dX11_sharedBy_13 ?_
      refine s_aload_n C dX11_sharedBy_14 rfl ?_
      refine s_getr (k := 30) (b := 88) C dX11_sharedBy_15 fl_X11_78 (by decide) rfl (by decide) rfl ?_
      refine s_iload_n C dX11_sharedBy_18 rfl ?_
      refine s_iaload (n := 24) C dX11_sharedBy_19 (by decide) rfl rfl (by omega) (by omega) (by omega) (rfl) (fun r19 => ?_)
      refine s_iadd C dX11_sharedBy_20 ?_
      refine s_icmp_ge (tgt := 60) C dX11_sharedBy_21 (by decide) (by omega) (by omega) (fun c21 => ?_) (fun c21 => ?_)
      · skip
        refine s_iload_n C dX11_sharedBy_60 rfl ?_
        exact s_ireturn C dX11_sharedBy_61 (⟨_, rfl, rfl, by rw [show (M 88 i).toNat = q by omega]⟩)
      · skip
        have b2 := hK2 (q : Int) (by omega) (by omega)
        refine s_iload_n C dX11_sharedBy_24 rfl ?_
        refine s_aload_n C dX11_sharedBy_25 rfl ?_
        refine s_iload_n C dX11_sharedBy_26 rfl ?_
        refine s_aload_n C dX11_sharedBy_27 rfl ?_
        refine s_getr (k := 28) (b := 86) C dX11_sharedBy_28 fl_X11_72 (by decide) rfl (by decide) rfl ?_
        refine s_iload C dX11_sharedBy_31 rfl ?_
        refine s_iaload (n := 960) C dX11_sharedBy_33 (by decide) rfl rfl (by omega) (by omega) (by omega) (rfl) (fun r33 => ?_)
        refine s_aload_n C dX11_sharedBy_34 rfl ?_
        refine s_getr (k := 29) (b := 87) C dX11_sharedBy_35 fl_X11_75 (by decide) rfl (by decide) rfl ?_
        refine s_iload C dX11_sharedBy_38 rfl ?_
        refine s_iaload (n := 960) C dX11_sharedBy_40 (by decide) rfl rfl (by omega) (by omega) (by omega) (rfl) (fun r40 => ?_)
        refine s_callV3 C dX11_sharedBy_41 cy_X11_hasKey cv_X11_hasKey lk_X11_212 (ct_X11_hasKey E M j (M 86 (40 * i + (q : Int))) (M 87 (40 * i + (q : Int))) hj b2.1 b2.2 hJ) (by decide) (by decide) (by first | decide | (decide)) rfl (Nat.le_of_ble_eq_true rfl) (k_P (fun z41 q41 => ?_))
        refine s_if_eq (tgt := 51) C dX11_sharedBy_44 (by decide) (by rcases q41 with ⟨g, _⟩ | ⟨g, _⟩ <;> omega) (fun c44 => ?_) (fun c44 => ?_)
        · skip
          refine s_iconst C dX11_sharedBy_51 ?_
          refine s_iadd C dX11_sharedBy_52 ?_
          refine s_istore_n (lv' := [_, _, _, _, _]) C dX11_sharedBy_53 (by decide) rfl rfl ?_
          refine s_iinc (lv' := [_, _, _, _, _]) C dX11_sharedBy_54 rfl (by decide) rfl rfl rfl ?_
          refine s_goto (tgt := 8) C dX11_sharedBy_57 (by decide) ?_
          rw [show 40 * i + (q : Int) + 1 = 40 * i + ((q + 1 : Nat) : Int) by omega]
          have e9 : shB M i j (q + 1) = shB M i j q + (if bP (HasK M j (M 86 (40 * i + (q : Int))) (M 87 (40 * i + (q : Int)))) then 1 else 0) := rfl
          rcases q41 with ⟨g1, g2⟩ | ⟨g1, g2⟩
          · rw [bP_t g2, if_pos rfl] at e9
            first
              | exact absurd (g1.symm.trans c44) (by decide)
              | (rw [← e9]; exact ih8 (q + 1) (by omega) (by omega))
          · rw [bP_f g2, if_neg (by decide)] at e9
            first
              | exact absurd g1 c44
              | (rw [← e9]; exact ih8 (q + 1) (by omega) (by omega))
        · skip
          refine s_iconst C dX11_sharedBy_47 ?_
          refine s_goto (tgt := 52) C dX11_sharedBy_48 (by decide) ?_
          refine s_iadd C dX11_sharedBy_52 ?_
          refine s_istore_n (lv' := [_, _, _, _, _]) C dX11_sharedBy_53 (by decide) rfl rfl ?_
          refine s_iinc (lv' := [_, _, _, _, _]) C dX11_sharedBy_54 rfl (by decide) rfl rfl rfl ?_
          refine s_goto (tgt := 8) C dX11_sharedBy_57 (by decide) ?_
          rw [show 40 * i + (q : Int) + 1 = 40 * i + ((q + 1 : Nat) : Int) by omega]
          have e9 : shB M i j (q + 1) = shB M i j q + (if bP (HasK M j (M 86 (40 * i + (q : Int))) (M 87 (40 * i + (q : Int)))) then 1 else 0) := rfl
          rcases q41 with ⟨g1, g2⟩ | ⟨g1, g2⟩
          · rw [bP_t g2, if_pos rfl] at e9
            first
              | exact absurd (g1.symm.trans c44) (by decide)
              | (rw [← e9]; exact ih8 (q + 1) (by omega) (by omega))
          · rw [bP_f g2, if_neg (by decide)] at e9
            first
              | exact absurd g1 c44
              | (rw [← e9]; exact ih8 (q + 1) (by omega) (by omega))
  refine s_iconst C dX11_sharedBy_0 ?_
  refine s_istore_n (lv' := [_, _, _, _, _]) C dX11_sharedBy_1 (by decide) rfl rfl ?_
  refine s_bipush C dX11_sharedBy_2 (by decide) ?_
  refine s_iload_n C dX11_sharedBy_4 rfl ?_
  refine s_imul C dX11_sharedBy_5 ?_
  refine s_istore (lv' := [_, _, _, _, _]) C dX11_sharedBy_6 (by decide) rfl rfl ?_
  have h := L8 _ 0 (by omega) (Nat.lt_succ_self _)
  simp only [Int.natCast_zero, Int.add_zero] at h
  exact h

noncomputable def pR (M : Mm) (h d : Int) : Int := M 76 0 * (max (h - d) (-(h - d)) - 1) + M 76 1 * (4 - min 4 (shB M h d (M 88 h).toNat)) + (if M 84 h = M 84 d then 0 else M 76 3) + (if agn (M 89 d) h d then M 76 2 else 0)
theorem shB_le (M : Mm) (i j : Int) (k : Nat) : 0 ≤ shB M i j k ∧ shB M i j k ≤ (k : Int) := cntB_nn _ k
theorem pR_eq {M : Mm} {h d by0 sh : Int} {v : Int} (hb : by0 = max (h - d) (-(h - d))) (hs : sh = min 4 (shB M h d (M 88 h).toNat)) (hv : v = M 76 0 * (by0 - 1) + M 76 1 * (4 - sh)) : pR M h d = v + (if M 84 h = M 84 d then 0 else M 76 3) + (if agn (M 89 d) h d then M 76 2 else 0) := by
  unfold pR
  rw [hv, hb, hs]

set_option maxRecDepth 20000 in
set_option maxHeartbeats 4000000 in
theorem ct_X11_priceOf (E : Ev) (M : Mm) (h d : Int) (hh : 0 ≤ h ∧ h < 24) (hd : 0 ≤ d ∧ d < 24) (hK : KyB M h) (hJ : KyB M d) : Ct E yX11_priceOf cX11_priceOf 7 (some .int) 4 [zr E 66, zi h, zi d] M (pP M (fun z => z = pR M h d)) := by
  refine Ct.of (own := RX11) (lv0 := [some (zr E 66), some (zi h), some (zi d), none, none, none, none]) (by decide) rfl (Nat.le_of_ble_eq_true rfl) rfl (fun κ C => ?_)
  have L14 : ∀ (by0 : Int) (u3 u4 u5 u6 : Option Value) (hby : by0 = max (h - d) (-(h - d))), Gm E κ (pP M (fun z => z = pR M h d)) 7 14 [some (zr E 66), some (zi h), some (zi d), u3, u4, u5, u6] [zi by0] M := by
    intro by0 u3 u4 u5 u6 hby
    have L52 : ∀ (sh : Int) (u5 u6 : Option Value) (hsh : sh = min 4 (shB M h d (M 88 h).toNat)), Gm E κ (pP M (fun z => z = pR M h d)) 7 52 [some (zr E 66), some (zi h), some (zi d), some (zi by0), some (zi (shB M h d (M 88 h).toNat)), u5, u6] [zi sh, zi 4, zi (M 76 1), zi (M 76 0 * (by0 - 1))] M := by
      intro sh u5 u6 hsh
      have L83 : ∀ (v : Int) (u3 u4 u6 : Option Value) (hv : v = M 76 0 * (by0 - 1) + M 76 1 * (4 - sh) + (if M 84 h = M 84 d then 0 else M 76 3)), Gm E κ (pP M (fun z => z = pR M h d)) 7 83 [some (zr E 66), some (zi h), some (zi d), u3, u4, some (zi v), u6] [] M := by
        intro v u3 u4 u6 hv
        have L145 : ∀ (b : Int) (u3 u4 u6 : Option Value) (hb : (b = 1 ∧ agn (M 89 d) h d) ∨ (b = 0 ∧ ¬ agn (M 89 d) h d)), Gm E κ (pP M (fun z => z = pR M h d)) 7 145 [some (zr E 66), some (zi h), some (zi d), u3, u4, some (zi v), u6] [zi b] M := by
          intro b u3 u4 u6 hb
          refine s_istore (lv' := [_, _, _, _, _, _, _]) C dX11_priceOf_145 (by decide) rfl rfl ?_
          refine s_iload C dX11_priceOf_147 rfl ?_
          refine s_if_eq (tgt := 164) C dX11_priceOf_149 (by decide) (by clear hv; omega) (fun c149 => ?_) (fun c149 => ?_)
          · skip
            refine s_iload C dX11_priceOf_164 rfl ?_
            exact s_ireturn C dX11_priceOf_166 (⟨_, rfl, rfl, by
      rw [pR_eq hby hsh rfl, ← hv]
      rcases hb with ⟨g1, g2⟩ | ⟨g1, g2⟩
      · first
          | exact absurd (g1.symm.trans c149) (by decide)
          | rw [if_pos g2]
      · first
          | exact absurd g1 c149
          | (rw [if_neg g2]; omega)⟩)
          · skip
            refine s_iload C dX11_priceOf_152 rfl ?_
            refine s_aload_n C dX11_priceOf_154 rfl ?_
            refine s_getr (k := 14) (b := 76) C dX11_priceOf_155 fl_X11_38 (by decide) rfl (by decide) rfl ?_
            refine s_iconst C dX11_priceOf_158 ?_
            refine s_iaload (n := 4) C dX11_priceOf_159 (by decide) rfl rfl (by omega) (by omega) (by omega) (rfl) (fun r159 => ?_)
            refine s_iadd C dX11_priceOf_160 ?_
            refine s_goto (tgt := 166) C dX11_priceOf_161 (by decide) ?_
            exact s_ireturn C dX11_priceOf_166 (⟨_, rfl, rfl, by
      rw [pR_eq hby hsh rfl, ← hv]
      rcases hb with ⟨g1, g2⟩ | ⟨g1, g2⟩
      · first
          | exact absurd (g1.symm.trans c149) (by decide)
          | rw [if_pos g2]
      · first
          | exact absurd g1 c149
          | (rw [if_neg g2]; omega)⟩)
        refine s_aload_n C dX11_priceOf_83 rfl ?_
        refine s_getr (k := 31) (b := 89) C dX11_priceOf_84 fl_X11_81 (by decide) rfl (by decide) rfl ?_
        refine s_iload_n C dX11_priceOf_87 rfl ?_
        refine s_iaload (n := 24) C dX11_priceOf_88 (by decide) rfl rfl (by omega) (by omega) (by omega) (rfl) (fun r88 => ?_)
        refine s_iconst C dX11_priceOf_89 ?_
        refine s_icmp_eq (tgt := 103) C dX11_priceOf_90 (by decide) (by omega) (by omega) (fun c90 => ?_) (fun c90 => ?_)
        · skip
          refine s_iload_n C dX11_priceOf_103 rfl ?_
          refine s_iload_n C dX11_priceOf_104 rfl ?_
          refine s_icmp_gt (tgt := 140) C dX11_priceOf_105 (by decide) (by omega) (by omega) (fun c105 => ?_) (fun c105 => ?_)
          · skip
            refine s_iconst C dX11_priceOf_140 ?_
            refine s_goto (tgt := 145) C dX11_priceOf_141 (by decide) ?_
            first
              | exact L145 1 _ _ _ (Or.inl ⟨rfl, by omega⟩)
              | exact L145 0 _ _ _ (Or.inr ⟨rfl, by omega⟩)
          · skip
            refine s_aload_n C dX11_priceOf_108 rfl ?_
            refine s_getr (k := 31) (b := 89) C dX11_priceOf_109 fl_X11_81 (by decide) rfl (by decide) rfl ?_
            refine s_iload_n C dX11_priceOf_112 rfl ?_
            refine s_iaload (n := 24) C dX11_priceOf_113 (by decide) rfl rfl (by omega) (by omega) (by omega) (rfl) (fun r113 => ?_)
            refine s_iconst C dX11_priceOf_114 ?_
            refine s_icmp_ne (tgt := 125) C dX11_priceOf_115 (by decide) (by omega) (by omega) (fun c115 => ?_) (fun c115 => ?_)
            · skip
              refine s_aload_n C dX11_priceOf_125 rfl ?_
              refine s_getr (k := 31) (b := 89) C dX11_priceOf_126 fl_X11_81 (by decide) rfl (by decide) rfl ?_
              refine s_iload_n C dX11_priceOf_129 rfl ?_
              refine s_iaload (n := 24) C dX11_priceOf_130 (by decide) rfl rfl (by omega) (by omega) (by omega) (rfl) (fun r130 => ?_)
              refine s_iconst C dX11_priceOf_131 ?_
              refine s_icmp_ne (tgt := 144) C dX11_priceOf_132 (by decide) (by omega) (by omega) (fun c132 => ?_) (fun c132 => ?_)
              · skip
                refine s_iconst C dX11_priceOf_144 ?_
                first
                  | exact L145 1 _ _ _ (Or.inl ⟨rfl, by omega⟩)
                  | exact L145 0 _ _ _ (Or.inr ⟨rfl, by omega⟩)
              · skip
                refine s_iload_n C dX11_priceOf_135 rfl ?_
                refine s_iload_n C dX11_priceOf_136 rfl ?_
                refine s_icmp_ge (tgt := 144) C dX11_priceOf_137 (by decide) (by omega) (by omega) (fun c137 => ?_) (fun c137 => ?_)
                · skip
                  refine s_iconst C dX11_priceOf_144 ?_
                  first
                    | exact L145 1 _ _ _ (Or.inl ⟨rfl, by omega⟩)
                    | exact L145 0 _ _ _ (Or.inr ⟨rfl, by omega⟩)
                · skip
                  refine s_iconst C dX11_priceOf_140 ?_
                  refine s_goto (tgt := 145) C dX11_priceOf_141 (by decide) ?_
                  first
                    | exact L145 1 _ _ _ (Or.inl ⟨rfl, by omega⟩)
                    | exact L145 0 _ _ _ (Or.inr ⟨rfl, by omega⟩)
            · skip
              refine s_iload_n C dX11_priceOf_118 rfl ?_
              refine s_iload_n C dX11_priceOf_119 rfl ?_
              refine s_iconst C dX11_priceOf_120 ?_
              refine s_isub C dX11_priceOf_121 ?_
              refine s_icmp_ne (tgt := 140) C dX11_priceOf_122 (by decide) (by omega) (by omega) (fun c122 => ?_) (fun c122 => ?_)
              · skip
                refine s_iconst C dX11_priceOf_140 ?_
                refine s_goto (tgt := 145) C dX11_priceOf_141 (by decide) ?_
                first
                  | exact L145 1 _ _ _ (Or.inl ⟨rfl, by omega⟩)
                  | exact L145 0 _ _ _ (Or.inr ⟨rfl, by omega⟩)
              · skip
                refine s_aload_n C dX11_priceOf_125 rfl ?_
                refine s_getr (k := 31) (b := 89) C dX11_priceOf_126 fl_X11_81 (by decide) rfl (by decide) rfl ?_
                refine s_iload_n C dX11_priceOf_129 rfl ?_
                refine s_iaload (n := 24) C dX11_priceOf_130 (by decide) rfl rfl (by omega) (by omega) (by omega) (rfl) (fun r130 => ?_)
                refine s_iconst C dX11_priceOf_131 ?_
                refine s_icmp_ne (tgt := 144) C dX11_priceOf_132 (by decide) (by omega) (by omega) (fun c132 => ?_) (fun c132 => ?_)
                · skip
                  refine s_iconst C dX11_priceOf_144 ?_
                  first
                    | exact L145 1 _ _ _ (Or.inl ⟨rfl, by omega⟩)
                    | exact L145 0 _ _ _ (Or.inr ⟨rfl, by omega⟩)
                · skip
                  refine s_iload_n C dX11_priceOf_135 rfl ?_
                  refine s_iload_n C dX11_priceOf_136 rfl ?_
                  refine s_icmp_ge (tgt := 144) C dX11_priceOf_137 (by decide) (by omega) (by omega) (fun c137 => ?_) (fun c137 => ?_)
                  · skip
                    refine s_iconst C dX11_priceOf_144 ?_
                    first
                      | exact L145 1 _ _ _ (Or.inl ⟨rfl, by omega⟩)
                      | exact L145 0 _ _ _ (Or.inr ⟨rfl, by omega⟩)
                  · skip
                    refine s_iconst C dX11_priceOf_140 ?_
                    refine s_goto (tgt := 145) C dX11_priceOf_141 (by decide) ?_
                    first
                      | exact L145 1 _ _ _ (Or.inl ⟨rfl, by omega⟩)
                      | exact L145 0 _ _ _ (Or.inr ⟨rfl, by omega⟩)
        · skip
          refine s_aload_n C dX11_priceOf_93 rfl ?_
          refine s_getr (k := 31) (b := 89) C dX11_priceOf_94 fl_X11_81 (by decide) rfl (by decide) rfl ?_
          refine s_iload_n C dX11_priceOf_97 rfl ?_
          refine s_iaload (n := 24) C dX11_priceOf_98 (by decide) rfl rfl (by omega) (by omega) (by omega) (rfl) (fun r98 => ?_)
          refine s_iconst C dX11_priceOf_99 ?_
          refine s_icmp_ne (tgt := 108) C dX11_priceOf_100 (by decide) (by omega) (by omega) (fun c100 => ?_) (fun c100 => ?_)
          · skip
            refine s_aload_n C dX11_priceOf_108 rfl ?_
            refine s_getr (k := 31) (b := 89) C dX11_priceOf_109 fl_X11_81 (by decide) rfl (by decide) rfl ?_
            refine s_iload_n C dX11_priceOf_112 rfl ?_
            refine s_iaload (n := 24) C dX11_priceOf_113 (by decide) rfl rfl (by omega) (by omega) (by omega) (rfl) (fun r113 => ?_)
            refine s_iconst C dX11_priceOf_114 ?_
            refine s_icmp_ne (tgt := 125) C dX11_priceOf_115 (by decide) (by omega) (by omega) (fun c115 => ?_) (fun c115 => ?_)
            · skip
              refine s_aload_n C dX11_priceOf_125 rfl ?_
              refine s_getr (k := 31) (b := 89) C dX11_priceOf_126 fl_X11_81 (by decide) rfl (by decide) rfl ?_
              refine s_iload_n C dX11_priceOf_129 rfl ?_
              refine s_iaload (n := 24) C dX11_priceOf_130 (by decide) rfl rfl (by omega) (by omega) (by omega) (rfl) (fun r130 => ?_)
              refine s_iconst C dX11_priceOf_131 ?_
              refine s_icmp_ne (tgt := 144) C dX11_priceOf_132 (by decide) (by omega) (by omega) (fun c132 => ?_) (fun c132 => ?_)
              · skip
                refine s_iconst C dX11_priceOf_144 ?_
                first
                  | exact L145 1 _ _ _ (Or.inl ⟨rfl, by omega⟩)
                  | exact L145 0 _ _ _ (Or.inr ⟨rfl, by omega⟩)
              · skip
                refine s_iload_n C dX11_priceOf_135 rfl ?_
                refine s_iload_n C dX11_priceOf_136 rfl ?_
                refine s_icmp_ge (tgt := 144) C dX11_priceOf_137 (by decide) (by omega) (by omega) (fun c137 => ?_) (fun c137 => ?_)
                · skip
                  refine s_iconst C dX11_priceOf_144 ?_
                  first
                    | exact L145 1 _ _ _ (Or.inl ⟨rfl, by omega⟩)
                    | exact L145 0 _ _ _ (Or.inr ⟨rfl, by omega⟩)
                · skip
                  refine s_iconst C dX11_priceOf_140 ?_
                  refine s_goto (tgt := 145) C dX11_priceOf_141 (by decide) ?_
                  first
                    | exact L145 1 _ _ _ (Or.inl ⟨rfl, by omega⟩)
                    | exact L145 0 _ _ _ (Or.inr ⟨rfl, by omega⟩)
            · skip
              refine s_iload_n C dX11_priceOf_118 rfl ?_
              refine s_iload_n C dX11_priceOf_119 rfl ?_
              refine s_iconst C dX11_priceOf_120 ?_
              refine s_isub C dX11_priceOf_121 ?_
              refine s_icmp_ne (tgt := 140) C dX11_priceOf_122 (by decide) (by omega) (by omega) (fun c122 => ?_) (fun c122 => ?_)
              · skip
                refine s_iconst C dX11_priceOf_140 ?_
                refine s_goto (tgt := 145) C dX11_priceOf_141 (by decide) ?_
                first
                  | exact L145 1 _ _ _ (Or.inl ⟨rfl, by omega⟩)
                  | exact L145 0 _ _ _ (Or.inr ⟨rfl, by omega⟩)
              · skip
                refine s_aload_n C dX11_priceOf_125 rfl ?_
                refine s_getr (k := 31) (b := 89) C dX11_priceOf_126 fl_X11_81 (by decide) rfl (by decide) rfl ?_
                refine s_iload_n C dX11_priceOf_129 rfl ?_
                refine s_iaload (n := 24) C dX11_priceOf_130 (by decide) rfl rfl (by omega) (by omega) (by omega) (rfl) (fun r130 => ?_)
                refine s_iconst C dX11_priceOf_131 ?_
                refine s_icmp_ne (tgt := 144) C dX11_priceOf_132 (by decide) (by omega) (by omega) (fun c132 => ?_) (fun c132 => ?_)
                · skip
                  refine s_iconst C dX11_priceOf_144 ?_
                  first
                    | exact L145 1 _ _ _ (Or.inl ⟨rfl, by omega⟩)
                    | exact L145 0 _ _ _ (Or.inr ⟨rfl, by omega⟩)
                · skip
                  refine s_iload_n C dX11_priceOf_135 rfl ?_
                  refine s_iload_n C dX11_priceOf_136 rfl ?_
                  refine s_icmp_ge (tgt := 144) C dX11_priceOf_137 (by decide) (by omega) (by omega) (fun c137 => ?_) (fun c137 => ?_)
                  · skip
                    refine s_iconst C dX11_priceOf_144 ?_
                    first
                      | exact L145 1 _ _ _ (Or.inl ⟨rfl, by omega⟩)
                      | exact L145 0 _ _ _ (Or.inr ⟨rfl, by omega⟩)
                  · skip
                    refine s_iconst C dX11_priceOf_140 ?_
                    refine s_goto (tgt := 145) C dX11_priceOf_141 (by decide) ?_
                    first
                      | exact L145 1 _ _ _ (Or.inl ⟨rfl, by omega⟩)
                      | exact L145 0 _ _ _ (Or.inr ⟨rfl, by omega⟩)
          · skip
            refine s_iload_n C dX11_priceOf_103 rfl ?_
            refine s_iload_n C dX11_priceOf_104 rfl ?_
            refine s_icmp_gt (tgt := 140) C dX11_priceOf_105 (by decide) (by omega) (by omega) (fun c105 => ?_) (fun c105 => ?_)
            · skip
              refine s_iconst C dX11_priceOf_140 ?_
              refine s_goto (tgt := 145) C dX11_priceOf_141 (by decide) ?_
              first
                | exact L145 1 _ _ _ (Or.inl ⟨rfl, by omega⟩)
                | exact L145 0 _ _ _ (Or.inr ⟨rfl, by omega⟩)
            · skip
              refine s_aload_n C dX11_priceOf_108 rfl ?_
              refine s_getr (k := 31) (b := 89) C dX11_priceOf_109 fl_X11_81 (by decide) rfl (by decide) rfl ?_
              refine s_iload_n C dX11_priceOf_112 rfl ?_
              refine s_iaload (n := 24) C dX11_priceOf_113 (by decide) rfl rfl (by omega) (by omega) (by omega) (rfl) (fun r113 => ?_)
              refine s_iconst C dX11_priceOf_114 ?_
              refine s_icmp_ne (tgt := 125) C dX11_priceOf_115 (by decide) (by omega) (by omega) (fun c115 => ?_) (fun c115 => ?_)
              · skip
                refine s_aload_n C dX11_priceOf_125 rfl ?_
                refine s_getr (k := 31) (b := 89) C dX11_priceOf_126 fl_X11_81 (by decide) rfl (by decide) rfl ?_
                refine s_iload_n C dX11_priceOf_129 rfl ?_
                refine s_iaload (n := 24) C dX11_priceOf_130 (by decide) rfl rfl (by omega) (by omega) (by omega) (rfl) (fun r130 => ?_)
                refine s_iconst C dX11_priceOf_131 ?_
                refine s_icmp_ne (tgt := 144) C dX11_priceOf_132 (by decide) (by omega) (by omega) (fun c132 => ?_) (fun c132 => ?_)
                · skip
                  refine s_iconst C dX11_priceOf_144 ?_
                  first
                    | exact L145 1 _ _ _ (Or.inl ⟨rfl, by omega⟩)
                    | exact L145 0 _ _ _ (Or.inr ⟨rfl, by omega⟩)
                · skip
                  refine s_iload_n C dX11_priceOf_135 rfl ?_
                  refine s_iload_n C dX11_priceOf_136 rfl ?_
                  refine s_icmp_ge (tgt := 144) C dX11_priceOf_137 (by decide) (by omega) (by omega) (fun c137 => ?_) (fun c137 => ?_)
                  · skip
                    refine s_iconst C dX11_priceOf_144 ?_
                    first
                      | exact L145 1 _ _ _ (Or.inl ⟨rfl, by omega⟩)
                      | exact L145 0 _ _ _ (Or.inr ⟨rfl, by omega⟩)
                  · skip
                    refine s_iconst C dX11_priceOf_140 ?_
                    refine s_goto (tgt := 145) C dX11_priceOf_141 (by decide) ?_
                    first
                      | exact L145 1 _ _ _ (Or.inl ⟨rfl, by omega⟩)
                      | exact L145 0 _ _ _ (Or.inr ⟨rfl, by omega⟩)
              · skip
                refine s_iload_n C dX11_priceOf_118 rfl ?_
                refine s_iload_n C dX11_priceOf_119 rfl ?_
                refine s_iconst C dX11_priceOf_120 ?_
                refine s_isub C dX11_priceOf_121 ?_
                refine s_icmp_ne (tgt := 140) C dX11_priceOf_122 (by decide) (by omega) (by omega) (fun c122 => ?_) (fun c122 => ?_)
                · skip
                  refine s_iconst C dX11_priceOf_140 ?_
                  refine s_goto (tgt := 145) C dX11_priceOf_141 (by decide) ?_
                  first
                    | exact L145 1 _ _ _ (Or.inl ⟨rfl, by omega⟩)
                    | exact L145 0 _ _ _ (Or.inr ⟨rfl, by omega⟩)
                · skip
                  refine s_aload_n C dX11_priceOf_125 rfl ?_
                  refine s_getr (k := 31) (b := 89) C dX11_priceOf_126 fl_X11_81 (by decide) rfl (by decide) rfl ?_
                  refine s_iload_n C dX11_priceOf_129 rfl ?_
                  refine s_iaload (n := 24) C dX11_priceOf_130 (by decide) rfl rfl (by omega) (by omega) (by omega) (rfl) (fun r130 => ?_)
                  refine s_iconst C dX11_priceOf_131 ?_
                  refine s_icmp_ne (tgt := 144) C dX11_priceOf_132 (by decide) (by omega) (by omega) (fun c132 => ?_) (fun c132 => ?_)
                  · skip
                    refine s_iconst C dX11_priceOf_144 ?_
                    first
                      | exact L145 1 _ _ _ (Or.inl ⟨rfl, by omega⟩)
                      | exact L145 0 _ _ _ (Or.inr ⟨rfl, by omega⟩)
                  · skip
                    refine s_iload_n C dX11_priceOf_135 rfl ?_
                    refine s_iload_n C dX11_priceOf_136 rfl ?_
                    refine s_icmp_ge (tgt := 144) C dX11_priceOf_137 (by decide) (by omega) (by omega) (fun c137 => ?_) (fun c137 => ?_)
                    · skip
                      refine s_iconst C dX11_priceOf_144 ?_
                      first
                        | exact L145 1 _ _ _ (Or.inl ⟨rfl, by omega⟩)
                        | exact L145 0 _ _ _ (Or.inr ⟨rfl, by omega⟩)
                    · skip
                      refine s_iconst C dX11_priceOf_140 ?_
                      refine s_goto (tgt := 145) C dX11_priceOf_141 (by decide) ?_
                      first
                        | exact L145 1 _ _ _ (Or.inl ⟨rfl, by omega⟩)
                        | exact L145 0 _ _ _ (Or.inr ⟨rfl, by omega⟩)
      refine s_isub C dX11_priceOf_52 ?_
      refine s_imul C dX11_priceOf_53 ?_
      refine s_iadd C dX11_priceOf_54 ?_
      refine s_istore (lv' := [_, _, _, _, _, _, _]) C dX11_priceOf_55 (by decide) rfl rfl ?_
      refine s_aload_n C dX11_priceOf_57 rfl ?_
      refine s_getr (k := 22) (b := 84) C dX11_priceOf_58 fl_X11_62 (by decide) rfl (by decide) rfl ?_
      refine s_iload_n C dX11_priceOf_61 rfl ?_
      refine s_iaload (n := 24) C dX11_priceOf_62 (by decide) rfl rfl (by omega) (by omega) (by omega) (rfl) (fun r62 => ?_)
      refine s_aload_n C dX11_priceOf_63 rfl ?_
      refine s_getr (k := 22) (b := 84) C dX11_priceOf_64 fl_X11_62 (by decide) rfl (by decide) rfl ?_
      refine s_iload_n C dX11_priceOf_67 rfl ?_
      refine s_iaload (n := 24) C dX11_priceOf_68 (by decide) rfl rfl (by omega) (by omega) (by omega) (rfl) (fun r68 => ?_)
      refine s_icmp_eq (tgt := 83) C dX11_priceOf_69 (by decide) (by omega) (by omega) (fun c69 => ?_) (fun c69 => ?_)
      · skip
        exact L83 _ _ _ _ (by rw [if_pos c69]; omega)
      · skip
        refine s_iload C dX11_priceOf_72 rfl ?_
        refine s_aload_n C dX11_priceOf_74 rfl ?_
        refine s_getr (k := 14) (b := 76) C dX11_priceOf_75 fl_X11_38 (by decide) rfl (by decide) rfl ?_
        refine s_iconst C dX11_priceOf_78 ?_
        refine s_iaload (n := 4) C dX11_priceOf_79 (by decide) rfl rfl (by omega) (by omega) (by omega) (rfl) (fun r79 => ?_)
        refine s_iadd C dX11_priceOf_80 ?_
        refine s_istore (lv' := [_, _, _, _, _, _, _]) C dX11_priceOf_81 (by decide) rfl rfl ?_
        exact L83 _ _ _ _ (by rw [if_neg c69])
    refine s_istore_n (lv' := [_, _, _, _, _, _, _]) C dX11_priceOf_14 (by decide) rfl rfl ?_
    refine s_aload_n C dX11_priceOf_15 rfl ?_
    refine s_iload_n C dX11_priceOf_16 rfl ?_
    refine s_iload_n C dX11_priceOf_17 rfl ?_
    refine s_callV2 C dX11_priceOf_18 cy_X11_sharedBy cv_X11_sharedBy lk_X11_215 (ct_X11_sharedBy E M h d hh hd hK hJ) (by decide) (by decide) (by first | decide | (decide)) rfl (Nat.le_of_ble_eq_true rfl) (k_P (fun z18 q18 => ?_))
    subst q18
    have hle := shB_le M h d (M 88 h).toNat
    have hK1 := hK.1
    refine s_istore (lv' := [_, _, _, _, _, _, _]) C dX11_priceOf_21 (by decide) rfl rfl ?_
    refine s_aload_n C dX11_priceOf_23 rfl ?_
    refine s_getr (k := 14) (b := 76) C dX11_priceOf_24 fl_X11_38 (by decide) rfl (by decide) rfl ?_
    refine s_iconst C dX11_priceOf_27 ?_
    refine s_iaload (n := 4) C dX11_priceOf_28 (by decide) rfl rfl (by omega) (by omega) (by omega) (rfl) (fun r28 => ?_)
    refine s_iload_n C dX11_priceOf_29 rfl ?_
    refine s_iconst C dX11_priceOf_30 ?_
    refine s_isub C dX11_priceOf_31 ?_
    refine s_imul C dX11_priceOf_32 ?_
    refine s_aload_n C dX11_priceOf_33 rfl ?_
    refine s_getr (k := 14) (b := 76) C dX11_priceOf_34 fl_X11_38 (by decide) rfl (by decide) rfl ?_
    refine s_iconst C dX11_priceOf_37 ?_
    refine s_iaload (n := 4) C dX11_priceOf_38 (by decide) rfl rfl (by omega) (by omega) (by omega) (rfl) (fun r38 => ?_)
    refine s_iconst C dX11_priceOf_39 ?_
    refine s_iload C dX11_priceOf_40 rfl ?_
    refine s_iconst C dX11_priceOf_42 ?_
    refine s_icmp_le (tgt := 50) C dX11_priceOf_43 (by decide) (by omega) (by omega) (fun c43 => ?_) (fun c43 => ?_)
    · skip
      refine s_iload C dX11_priceOf_50 rfl ?_
      exact L52 _ _ _ (by omega)
    · skip
      refine s_iconst C dX11_priceOf_46 ?_
      refine s_goto (tgt := 52) C dX11_priceOf_47 (by decide) ?_
      exact L52 4 _ _ (by omega)
  refine s_iload_n C dX11_priceOf_0 rfl ?_
  refine s_iload_n C dX11_priceOf_1 rfl ?_
  refine s_icmp_le (tgt := 11) C dX11_priceOf_2 (by decide) (by omega) (by omega) (fun c2 => ?_) (fun c2 => ?_)
  · skip
    refine s_iload_n C dX11_priceOf_11 rfl ?_
    refine s_iload_n C dX11_priceOf_12 rfl ?_
    refine s_isub C dX11_priceOf_13 ?_
    exact L14 _ _ _ _ _ (by omega)
  · skip
    refine s_iload_n C dX11_priceOf_5 rfl ?_
    refine s_iload_n C dX11_priceOf_6 rfl ?_
    refine s_isub C dX11_priceOf_7 ?_
    refine s_goto (tgt := 14) C dX11_priceOf_8 (by decide) ?_
    exact L14 _ _ _ _ _ (by omega)
