theorem wD_Bd {w : Int → Int → Int} (hw : wOk w) {n : Int} (hn : 1 ≤ n ∧ n ≤ 24) : ∀ x ∈ wD n, Bd w 0 n x := by
  intro x hx
  obtain ⟨r, hr, hx2⟩ := List.mem_flatMap.mp hx
  obtain ⟨a, ha, b, hb, rfl⟩ := prd_mem.mp hx2
  have hr2 := mem_rgI.mp hr
  have b1 := (sD_Bd hw (h := r) (e := 0) (by omega) (by omega) (by omega) (by omega)).2 (by omega) a ha
  have b2 := (sD_Bd hw (h := r) (e := n - 1) (by omega) (by omega) (by omega) (by omega)).1 (by omega) b hb
  have b3 := Bd_one hw (d := r) (h := -1) (by omega) (by omega)
  rw [List.append_assoc]
  exact Bd_app b1 (by rw [show n = n - 1 + 1 by omega]; exact Bd_app' b2 b3)
theorem wD_Pw {w : Int → Int → Int} (hw : wOk w) {n : Int} (hn : 1 ≤ n ∧ n ≤ 24) : Pw w (wD n) := fun x hx => Bd_Pw (a := 0) (b := n) (by omega) (by omega) (by omega) (wD_Bd hw hn x hx)
theorem wC_sm {e : Nat} {M M' : Mm} (r1 : M' 15 = M 15) (r2 : M' 34 = M 34) (r3 : M' 41 = M 41) (r4 : M' (e + 6) = M (e + 6)) (r5 : M' 32 = M 32) (r6 : M' e = M e) : wC M' e = wC M e := by
  funext d h
  unfold wC
  rw [r6, r3, r5, r1, hC_sm r1 r2 r3 r4 r5]
theorem FrK_no {M : Mm} {e d : Nat} (hX : XI M e d) (c : M 0 14 = 0) : FrK M M e := ⟨Sm.rf M _, fun _ _ _ => rfl, c, hX.2.2.2.2.2.2.2.2.1 c, Or.inl rfl⟩
theorem FrK_yes {M N : Mm} {e d : Nat} (hX : XI M e d) (q : Sm M N [31, 32, 33, 34, 35, 36, 37, 38, 39] ∧ (∃ A, GI M A e (PG M e (M e 7) 0) ∧ Sm A N [33, 34]) ∧ (∀ s', 0 ≤ s' → s' < M e 7 → ∃ z, Fd7 M (e + 1) (wS M e s' 0) (wL M e s' 0) z ∧ N 32 s' = if 0 ≤ z then M 10 z else 0) ∧ (∀ a b, 0 ≤ b → b ≤ a → a < M e 7 → N 34 (a * 24 + b) = shL N a b ((N 31 8 + 63) / 64).toNat ∧ N 34 (b * 24 + a) = shL N a b ((N 31 8 + 63) / 64).toNat) ∧ ∀ a, 0 ≤ a → a < M e 7 → N 33 a = shL N a a ((N 31 8 + 63) / 64).toNat) : FrK M (mput (mput N 0 14 0) 0 15 1) e := by
  obtain ⟨q1, q2, q3, q4, q5⟩ := q
  have r0 : N 0 = M 0 := q1 0 (by decide)
  refine ⟨?_, fun k h1 h2 => ?_, ?_, ?_, Or.inr (by rw [mput_eq])⟩
  · intro a ha
    have h0 : a ≠ 0 := fun q => ha (by rw [q]; decide)
    rw [mput_ne h0, mput_ne h0]
    exact q1 a (fun q => ha (List.mem_cons_of_mem _ q))
  · rw [mput_nk h2, mput_nk h1, r0]
  · rw [mput_nk (by decide), mput_eq]
  · intro h1
    refine (Clo.of (P := KFr e) (KF_gather hX.he q1 q2 q3 q4 q5 hX.2.2.2.2.1)).sm (fun a ha => ?_)
    have h0 : a ≠ 0 := by
      intro q; subst q
      have := hX.he
      simp only [kL, List.mem_cons, List.not_mem_nil, or_false] at ha
      omega
    rw [mput_ne h0, mput_ne h0]
/-- rows of costs, up to head h and, of that one, up to d -/
def Gr1 (M A : Mm) (e : Nat) (h : Int) : Prop := Sm M A [44, 45] ∧ ∀ h', 0 ≤ h' → h' < h → A 45 h' = wC M e h' (-1) ∧ ∀ d, 0 ≤ d → d < M e 7 → h' ≠ d → A 44 (h' * 24 + d) = wC M e d h'
def Gr2 (M A : Mm) (e : Nat) (h d : Int) : Prop := Gr1 M A e h ∧ A 45 h = wC M e h (-1) ∧ ∀ d', 0 ≤ d' → d' < d → h ≠ d' → A 44 (h * 24 + d') = wC M e d' h
def Gr3 (M B : Mm) (e : Nat) (d : Int) : Prop := Sm M B [44, 45, 46, 47, 48, 49, 51] ∧ (1 ≤ M e 7 → Cg (wC M e) B 1152 (wD (M e 7))) ∧ ∀ d', 0 ≤ d' → d' < d → B 51 d' = rowH (B 48 1152) (B 49 1152) d'
theorem Gr2.next {M A : Mm} {e : Nat} {h : Int} (g : Gr2 M A e h (M e 7)) : Gr1 M A e (h + 1) := by
  refine ⟨g.1.1, fun h' a0 a1 => ?_⟩
  by_cases c : h' = h
  · subst c; exact ⟨g.2.1, fun d d0 d1 dn => g.2.2 d d0 d1 dn⟩
  · exact g.1.2 h' a0 (by omega)
theorem Gr1.put {M A : Mm} {e : Nat} {h v : Int} (g : Gr1 M A e h) (hv : v = wC M e h (-1)) : Gr2 M (mput A 45 h v) e h 0 := by
  refine ⟨⟨g.1.put (by decide), fun h' a0 a1 => ?_⟩, by rw [mput_eq]; exact hv, fun d' a b => by omega⟩
  rw [mput_nk (by omega), mput_ne (by decide)]
  exact g.2 h' a0 a1
theorem Gr2.skip {M A : Mm} {e : Nat} {h : Int} (g : Gr2 M A e h h) : Gr2 M A e h (h + 1) :=
  ⟨g.1, g.2.1, fun d' a b c => g.2.2 d' a (by omega) c⟩
theorem Gr2.put {M A : Mm} {e : Nat} {h d v : Int} (g : Gr2 M A e h d) (hh : 0 ≤ h ∧ h < 24) (hn : M e 7 ≤ 24) (hd : 0 ≤ d ∧ d < 24) (hv : v = wC M e d h) : Gr2 M (mput A 44 (h * 24 + d) v) e h (d + 1) := by
  refine ⟨⟨g.1.1.put (by decide), fun h' a0 a1 => ?_⟩, by rw [mput_ne (by decide)]; exact g.2.1, fun d' a b c => ?_⟩
  · rw [mput_ne (by decide)]
    refine ⟨(g.1.2 h' a0 a1).1, fun d2 b0 b1 b2 => ?_⟩
    rw [mput_nk (by omega)]
    exact (g.1.2 h' a0 a1).2 d2 b0 b1 b2
  · by_cases c2 : d' = d
    · subst c2; rw [mput_eq]; exact hv
    · rw [mput_nk (by omega)]; exact g.2.2 d' a (by omega) c
theorem Gr3.of {M A B : Mm} {e : Nat} (g : Sm M A [44, 45]) (s : Sm A B [46, 47, 48, 49]) (c : 1 ≤ M e 7 → Cg (wC M e) B 1152 (wD (M e 7))) : Gr3 M B e 0 :=
  ⟨g.tr s (by decide) (by decide), c, fun d' a b => by omega⟩
theorem Gr3.put {M B : Mm} {e : Nat} {d v : Int} (g : Gr3 M B e d) (hv : v = rowH (B 48 1152) (B 49 1152) d) : Gr3 M (mput B 51 d v) e (d + 1) := by
  refine ⟨g.1.put (by decide), fun h => ?_, fun d' a b => ?_⟩
  · unfold Cg
    rw [mput_ne (by decide), mput_ne (by decide), mput_ne (by decide), mput_ne (by decide)]
    exact g.2.1 h
  · rw [mput_ne (by decide : (48 : Nat) ≠ 51), mput_ne (by decide : (49 : Nat) ≠ 51)]
    by_cases c : d' = d
    · subst c; rw [mput_eq]; exact hv
    · rw [mput_nk c]; exact g.2.2 d' a (by omega)
theorem ct_grow_all (E : Ev) (w : Int → Int → Int) (hw : wOk w) (M : Mm) (n : Int) (hn : 0 ≤ n ∧ n ≤ 24) (h44 : ∀ h d, 0 ≤ h → h < n → 0 ≤ d → d < n → h ≠ d → M 44 (h * 24 + d) = w d h) (h45 : ∀ r, 0 ≤ r → r < n → M 45 r = w r (-1)) : Ct E yX1_grow cX1_grow 4 none 3 [zr E 43, zi n] M (pV (fun M' => Sm M M' [46, 47, 48, 49] ∧ (1 ≤ n → Cg w M' 1152 (wD n)))) := by
  by_cases h : n = 0
  · refine (ct_X1_grow_0 E M n h).mono ?_
    rintro r M' ⟨rfl, rfl⟩
    exact ⟨rfl, Sm.rf _ _, fun q => by omega⟩
  · refine (ct_X1_grow E w hw M n (by omega) h44 h45).mono ?_
    rintro r M' ⟨rfl, q1, q2⟩
    exact ⟨rfl, q1, fun _ => q2⟩
theorem BF_grown {M B N : Mm} {e d : Nat} (hX : XI M e d) (hK : KF e M) (g : Gr3 M B e (M e 7)) (q : N 51 = B 51 ∧ Sm B N [50, 52, 53, 54] ∧ N 50 4 = bRt (B 51) (M e 7) (M e 7).toNat ∧ ∀ i, 0 ≤ i → i < M e 7 → N 52 i = bHu (B 51) i (M e 7).toNat ∧ N 53 i = bFi (B 51) (M e 7) i (M e 7).toNat ∧ N 54 i = bSz (B 51) (M e 7) i (M e 7).toNat) : Sm M N [44, 45, 46, 47, 48, 49, 50, 51, 52, 53, 54] ∧ BF e N := by
  obtain ⟨g1, g2, g3⟩ := g
  obtain ⟨q1, q2, q3, q4⟩ := q
  have hs : Sm M N [44, 45, 46, 47, 48, 49, 50, 51, 52, 53, 54] := g1.tr q2 (by decide) (by decide)
  have he := hX.he
  refine ⟨hs, fun h1 => Clo.of ?_⟩
  have re : N e = M e := hs e (by rcases he with rfl | rfl <;> decide)
  have ew : wC N e = wC M e := wC_sm (hs 15 (by decide)) (hs 34 (by decide)) (hs 41 (by decide)) (hs (e + 6) (by rcases he with rfl | rfl <;> decide)) (hs 32 (by decide)) re
  have r6 : N 46 = B 46 := q2 46 (by decide)
  have r7 : N 47 = B 47 := q2 47 (by decide)
  have r8 : N 48 = B 48 := q2 48 (by decide)
  have r9 : N 49 = B 49 := q2 49 (by decide)
  rw [re] at h1
  refine ⟨by rw [ew]; exact hX.wOk hK, ?_, ?_, ?_, ?_⟩
  · unfold Cg; rw [ew, r6, r7, r8, r9, re]; exact g2 h1
  · rw [re, q1, r8, r9]; exact g3
  · rw [re, q1]; exact q3
  · rw [re, q1]; exact q4

theorem Frs_no {M N : Mm} {e d : Nat} (hX : XI M e d) (q : FrK M N e) (c : N 0 15 = 0) : Frs M N e := by
  have h := hX.frK q
  obtain ⟨f1, f2, f3, f4, f5⟩ := q
  exact ⟨fun a ha => f1 a (fun q => ha (by simp only [fRows, List.mem_cons, List.not_mem_nil, or_false] at q ⊢; omega)), f2, f3, c, f4, h.2.2.2.2.2.2.2.2.2 f3 c⟩
theorem Frs_yes {M N B : Mm} {e d : Nat} (hX : XI M e d) (q : FrK M N e) (g : Sm N B [44, 45, 46, 47, 48, 49, 50, 51, 52, 53, 54] ∧ BF e B) : Frs M (mput B 0 15 0) e := by
  have he := hX.he
  obtain ⟨f1, f2, f3, f4, f5⟩ := q
  obtain ⟨g1, g2⟩ := g
  have r0 : B 0 = N 0 := g1 0 (by decide)
  have hs : Sm M B fRows := f1.tr g1 (fun a q => by simp only [fRows, List.mem_cons, List.not_mem_nil, or_false] at q ⊢; omega) (fun a q => by simp only [fRows, List.mem_cons, List.not_mem_nil, or_false] at q ⊢; omega)
  refine ⟨hs.put (by decide), fun k h1 h2 => ?_, ?_, by rw [mput_eq], ?_, ?_⟩
  · rw [mput_nk h2, r0]; exact f2 k h1 h2
  · rw [mput_nk (by decide), r0]; exact f3
  · refine f4.sm (fun a ha => ?_)
    simp only [kL, List.mem_cons, List.not_mem_nil, or_false] at ha
    rw [mput_ne (by omega)]
    refine g1 a (fun q => ?_)
    simp only [List.mem_cons, List.not_mem_nil, or_false] at q
    omega
  · refine g2.sm (fun a ha => ?_)
    simp only [bL, List.mem_cons, List.not_mem_nil, or_false] at ha
    rw [mput_ne (by omega)]

set_option maxRecDepth 20000 in
set_option maxHeartbeats 4000000 in
theorem ct_X10_refreshKeys (E : Ev) (e d : Nat) (M : Mm) (hX : XI M e d)  : Ct E yX10_refreshKeys cX10_refreshKeys 1 none 4 [zr E 0] M (pV (fun M' => FrK M M' e)) := by
  refine Ct.of (own := RX10) (lv0 := [some (zr E 0)]) (by decide) rfl (Nat.le_of_ble_eq_true rfl) rfl (fun κ C => ?_)
  refine s_aload_n C dX10_refreshKeys_0 rfl ?_
  refine s_getz (k := 14) (j := 14) C dX10_refreshKeys_1 fl_X10_131 (by decide) rfl (by decide) rfl (rfl) (fun r1 => ?_)
  refine s_if_eq (tgt := 40) C dX10_refreshKeys_4 (by decide) (by omega) (fun c4 => ?_) (fun c4 => ?_)
  · skip
    exact s_return C dX10_refreshKeys_40 (⟨rfl, by first | exact FrK_no hX c4 | exact FrK_yes hX q27⟩)
  · skip
    refine s_aload_n C dX10_refreshKeys_7 rfl ?_
    refine s_getr (k := 8) (b := 31) C dX10_refreshKeys_8 fl_X10_55 (by decide) rfl (by decide) rfl ?_
    refine s_aload_n C dX10_refreshKeys_11 rfl ?_
    refine s_getd (k := 6) (j := 6) (b := e) C dX10_refreshKeys_12 fl_X10_45 (by decide) rfl (by decide) rfl (hX.2.1.1) ?_
    refine s_aload_n C dX10_refreshKeys_15 rfl ?_
    refine s_getr (k := 1) (b := 3) C dX10_refreshKeys_16 fl_X10_21 (by decide) rfl (by decide) rfl ?_
    refine s_aload_n C dX10_refreshKeys_19 rfl ?_
    refine s_getr (k := 2) (b := 7) C dX10_refreshKeys_20 fl_X10_25 (by decide) rfl (by decide) rfl ?_
    refine s_aload_n C dX10_refreshKeys_23 rfl ?_
    refine s_getr (k := 3) (b := 11) C dX10_refreshKeys_24 fl_X10_28 (by decide) rfl (by decide) rfl ?_
    refine s_callV4 C dX10_refreshKeys_27 cy_X2_gather cv_X2_gather lk_X10_212 (ct_X2_gather E e hX.he M hX.2.2.2.2.2.2.1.1 hX.2.2.2.1.1 hX.2.2.2.1.2.1 hX.2.2.2.1.2.2) (by decide) (by decide) (by first | decide | (decide)) rfl (Nat.le_of_ble_eq_true rfl) (k_V (fun M27 q27 => ?_))
    refine s_aload_n C dX10_refreshKeys_30 rfl ?_
    refine s_iconst C dX10_refreshKeys_31 ?_
    refine s_putz (k := 14) (j := 14) C dX10_refreshKeys_32 fp_X10_131 (by decide) rfl rfl rfl (by decide) ?_
    refine s_aload_n C dX10_refreshKeys_35 rfl ?_
    refine s_iconst C dX10_refreshKeys_36 ?_
    refine s_putz (k := 15) (j := 15) C dX10_refreshKeys_37 fp_X10_136 (by decide) rfl rfl rfl (by decide) ?_
    exact s_return C dX10_refreshKeys_40 (⟨rfl, by first | exact FrK_no hX c4 | exact FrK_yes hX q27⟩)

set_option maxRecDepth 20000 in
set_option maxHeartbeats 4000000 in
theorem ct_X10_growTree (E : Ev) (e d : Nat) (M : Mm) (hX : XI M e d) (hK : KF e M) : Ct E yX10_growTree cX10_growTree 4 none 4 [zr E 0] M (pV (fun M' => Sm M M' [44, 45, 46, 47, 48, 49, 50, 51, 52, 53, 54] ∧ BF e M')) := by
  refine Ct.of (own := RX10) (lv0 := [some (zr E 0), none, none, none]) (by decide) rfl (Nat.le_of_ble_eq_true rfl) rfl (fun κ C => ?_)
  have pk := fun i a b => hX.2.2.2.2.2.2.1.2.1.2.1 i a b
  have hn := hX.n
  obtain ⟨k1, k2, k3, k4⟩ := hK.rgs hn.2
  obtain ⟨l1, l2, l3, l4, l5, l6⟩ := lnT hX.he
  have he := hX.he
  have L99 : ∀ (n9 : Nat) (d2 : Int) (B : Mm) (u3 : Option Value) (hd : 0 ≤ d2 ∧ d2 ≤ M e 7) (hB : Gr3 M B e d2) (hm : (M e 7 - d2).toNat < n9), Gm E κ (pV (fun M' => Sm M M' [44, 45, 46, 47, 48, 49, 50, 51, 52, 53, 54] ∧ BF e M')) 4 99 [some (zr E 0), some (zi (M e 7)), some (zi d2), u3] [] B := by
    intro n9
    induction n9 with
    | zero => intro d2 B u3 hd hB hm; exact absurd hm (Nat.not_lt_zero _)
    | succ n9 ih99 =>
      intro d2 B u3 hd hB hm
      refine s_iload_n C dX10_growTree_99 rfl ?_
      refine s_iload_n C dX10_growTree_100 rfl ?_
      refine s_icmp_ge (tgt := 127) C dX10_growTree_101 (by decide) (by omega) (by omega) (fun c101 => ?_) (fun c101 => ?_)
      · skip
        refine s_aload_n C dX10_growTree_127 rfl ?_
        refine s_getr (k := 11) (b := 50) C dX10_growTree_128 fl_X10_76 (by decide) rfl (by decide) rfl ?_
        refine s_iload_n C dX10_growTree_131 rfl ?_
        refine s_callV1 C dX10_growTree_132 cy_X0_measure cv_X0_measure lk_X10_253 (ct_X0_measure E B (M e 7) hn) (by decide) (by decide) (by first | decide | (decide)) rfl (Nat.le_of_ble_eq_true rfl) (k_V (fun M132 q132 => ?_))
        exact s_return C dX10_growTree_135 (⟨rfl, by have c0 : d2 = M e 7 := (by omega); subst c0; exact BF_grown hX hK hB q132⟩)
      · skip
        refine s_aload_n C dX10_growTree_104 rfl ?_
        refine s_getr (k := 11) (b := 50) C dX10_growTree_105 fl_X10_76 (by decide) rfl (by decide) rfl ?_
        refine s_getr (k := 0) (b := 51) C dX10_growTree_108 fl_X10_181 (by decide) rfl (by decide) rfl ?_
        refine s_iload_n C dX10_growTree_111 rfl ?_
        refine s_aload_n C dX10_growTree_112 rfl ?_
        refine s_getr (k := 10) (b := 43) C dX10_growTree_113 fl_X10_69 (by decide) rfl (by decide) rfl ?_
        refine s_iload_n C dX10_growTree_116 rfl ?_
        have hnum := (hB.2.1 (by omega)).num (wD_Pw (hX.wOk hK) (by omega))
        refine s_callV1 C dX10_growTree_117 cy_X1_headOf cv_X1_headOf lk_X10_250 (ct_X1_headOf E B d2 (by omega) hnum.2.2.1.1 hnum.2.2.2.1) (by decide) (by decide) (by first | decide | (decide)) rfl (Nat.le_of_ble_eq_true rfl) (k_P (fun z117 q117 => ?_))
        refine s_iastore (n := 24) C dX10_growTree_120 (by decide) rfl rfl (by omega) (by omega) (by omega) (by rw [q117]; unfold rowH; split <;> omega) ?_
        refine s_iinc (lv' := [_, _, _, _]) C dX10_growTree_121 rfl (by decide) rfl rfl rfl ?_
        refine s_goto (tgt := 99) C dX10_growTree_124 (by decide) ?_
        exact ih99 _ _ _ (by omega) (hB.put q117) (by omega)
  have L10 : ∀ (n9 : Nat) (h : Int) (A : Mm) (u3 : Option Value) (hh : 0 ≤ h ∧ h ≤ M e 7) (hA : Gr1 M A e h) (hm : (M e 7 - h).toNat < n9), Gm E κ (pV (fun M' => Sm M M' [44, 45, 46, 47, 48, 49, 50, 51, 52, 53, 54] ∧ BF e M')) 4 10 [some (zr E 0), some (zi (M e 7)), some (zi h), u3] [] A := by
    intro n9
    induction n9 with
    | zero => intro h A u3 hh hA hm; exact absurd hm (Nat.not_lt_zero _)
    | succ n9 ih10 =>
      intro h A u3 hh hA hm
      have s0 : A 0 = M 0 := hA.1 0 (by first | decide | (rcases he with rfl | rfl <;> decide))
      have s15 : A 15 = M 15 := hA.1 15 (by first | decide | (rcases he with rfl | rfl <;> decide))
      have s41 : A 41 = M 41 := hA.1 41 (by first | decide | (rcases he with rfl | rfl <;> decide))
      have s32 : A 32 = M 32 := hA.1 32 (by first | decide | (rcases he with rfl | rfl <;> decide))
      have s34 : A 34 = M 34 := hA.1 34 (by first | decide | (rcases he with rfl | rfl <;> decide))
      have se : A e = M e := hA.1 e (by first | decide | (rcases he with rfl | rfl <;> decide))
      have s6 : A (e + 6) = M (e + 6) := hA.1 (e + 6) (by first | decide | (rcases he with rfl | rfl <;> decide))
      have L47 : ∀ (n9 : Nat) (d2 : Int) (B : Mm) (hd : 0 ≤ d2 ∧ d2 ≤ M e 7) (hB : Gr2 M B e h d2) (hlt : h < M e 7) (hm : (M e 7 - d2).toNat < n9), Gm E κ (pV (fun M' => Sm M M' [44, 45, 46, 47, 48, 49, 50, 51, 52, 53, 54] ∧ BF e M')) 4 47 [some (zr E 0), some (zi (M e 7)), some (zi h), some (zi d2)] [] B := by
        intro n9
        induction n9 with
        | zero => intro d2 B  hd hB hlt hm; exact absurd hm (Nat.not_lt_zero _)
        | succ n9 ih47 =>
          intro d2 B  hd hB hlt hm
          have t0 : B 0 = M 0 := hB.1.1 0 (by first | decide | (rcases he with rfl | rfl <;> decide))
          have t15 : B 15 = M 15 := hB.1.1 15 (by first | decide | (rcases he with rfl | rfl <;> decide))
          have t41 : B 41 = M 41 := hB.1.1 41 (by first | decide | (rcases he with rfl | rfl <;> decide))
          have t32 : B 32 = M 32 := hB.1.1 32 (by first | decide | (rcases he with rfl | rfl <;> decide))
          have t34 : B 34 = M 34 := hB.1.1 34 (by first | decide | (rcases he with rfl | rfl <;> decide))
          have te : B e = M e := hB.1.1 e (by first | decide | (rcases he with rfl | rfl <;> decide))
          have t6 : B (e + 6) = M (e + 6) := hB.1.1 (e + 6) (by first | decide | (rcases he with rfl | rfl <;> decide))
          refine s_iload_n C dX10_growTree_47 rfl ?_
          refine s_iload_n C dX10_growTree_48 rfl ?_
          refine s_icmp_ge (tgt := 83) C dX10_growTree_49 (by decide) (by omega) (by omega) (fun c49 => ?_) (fun c49 => ?_)
          · skip
            refine s_iinc (lv' := [_, _, _, _]) C dX10_growTree_83 rfl (by decide) rfl rfl rfl ?_
            refine s_goto (tgt := 10) C dX10_growTree_86 (by decide) ?_
            exact ih10 (h + 1) B _ (by omega) (by have c0 : d2 = M e 7 := (by omega); subst c0; exact hB.next) (by omega)
          · skip
            refine s_iload_n C dX10_growTree_52 rfl ?_
            refine s_iload_n C dX10_growTree_53 rfl ?_
            refine s_icmp_eq (tgt := 77) C dX10_growTree_54 (by decide) (by omega) (by omega) (fun c54 => ?_) (fun c54 => ?_)
            · skip
              refine s_iinc (lv' := [_, _, _, _]) C dX10_growTree_77 rfl (by decide) rfl rfl rfl ?_
              refine s_goto (tgt := 47) C dX10_growTree_80 (by decide) ?_
              first
                | exact ih47 _ _ (by omega) (hB.put (by omega) hn.2 (by omega) q73b) hlt (by omega)
                | exact ih47 _ _ (by omega) (by have c0 : h = d2 := (by omega); subst c0; exact hB.skip) hlt (by omega)
            · skip
              refine s_aload_n C dX10_growTree_57 rfl ?_
              refine s_getr (k := 10) (b := 43) C dX10_growTree_58 fl_X10_69 (by decide) rfl (by decide) rfl ?_
              refine s_getr (k := 0) (b := 44) C dX10_growTree_61 fl_X10_245 (by decide) rfl (by decide) rfl ?_
              refine s_iload_n C dX10_growTree_64 rfl ?_
              refine s_bipush C dX10_growTree_65 (by decide) ?_
              refine s_imul C dX10_growTree_67 ?_
              refine s_iload_n C dX10_growTree_68 rfl ?_
              refine s_iadd C dX10_growTree_69 ?_
              refine s_aload_n C dX10_growTree_70 rfl ?_
              refine s_iload_n C dX10_growTree_71 rfl ?_
              refine s_iload_n C dX10_growTree_72 rfl ?_
              refine s_callV2 C dX10_growTree_73 cy_X10_hangCost cv_X10_hangCost lk_X10_216 (ct_X10_hangCost E e he B (by rw [t0]; exact hX.2.1.1) h d2 (by omega) (by omega) (by rw [t41]; have := pk h (by omega) (by omega); omega) (by rw [t41]; have := pk d2 (by omega) (by omega); omega) (by rw [t41, t32]; have g1 := pk d2 (by omega) (by omega); have := k1 _ g1.1 g1.2; omega) (by rw [t41, t34]; have g1 := pk d2 (by omega) (by omega); have g2 := pk h (by omega) (by omega); have := k2 _ _ g2.1 g2.2 g1.1 g1.2; omega)) (by decide) (by decide) (by first | decide | (decide)) rfl (Nat.le_of_ble_eq_true rfl) (k_P (fun z73 q73 => ?_))
              have q73b : z73 = wC M e d2 h := by
                rw [q73, hC_sm t15 t34 t41 t6 t32]; unfold wC; rw [if_pos (by omega), if_neg c54]
              clear q73
              refine s_iastore (n := 576) C dX10_growTree_76 (by decide) rfl rfl (by omega) (by omega) (by omega) (by have := hX.wOk hK d2 h (by omega) (by omega) (by omega) (by omega); omega) ?_
              refine s_iinc (lv' := [_, _, _, _]) C dX10_growTree_77 rfl (by decide) rfl rfl rfl ?_
              refine s_goto (tgt := 47) C dX10_growTree_80 (by decide) ?_
              first
                | exact ih47 _ _ (by omega) (hB.put (by omega) hn.2 (by omega) q73b) hlt (by omega)
                | exact ih47 _ _ (by omega) (by have c0 : h = d2 := (by omega); subst c0; exact hB.skip) hlt (by omega)
      refine s_iload_n C dX10_growTree_10 rfl ?_
      refine s_iload_n C dX10_growTree_11 rfl ?_
      refine s_icmp_ge (tgt := 89) C dX10_growTree_12 (by decide) (by omega) (by omega) (fun c12 => ?_) (fun c12 => ?_)
      · skip
        refine s_aload_n C dX10_growTree_89 rfl ?_
        refine s_getr (k := 10) (b := 43) C dX10_growTree_90 fl_X10_69 (by decide) rfl (by decide) rfl ?_
        refine s_iload_n C dX10_growTree_93 rfl ?_
        refine s_callV1 C dX10_growTree_94 cy_X1_grow cv_X1_grow lk_X10_247 (ct_grow_all E (wC M e) (hX.wOk hK) A (M e 7) hn (fun h1 d1 a0 a1 b0 b1 c => (hA.2 h1 a0 (by omega)).2 d1 b0 b1 c) (fun r a0 a1 => (hA.2 r a0 (by omega)).1)) (by decide) (by decide) (by first | decide | (decide)) rfl (Nat.le_of_ble_eq_true rfl) (k_V (fun M94 q94 => ?_))
        refine s_iconst C dX10_growTree_97 ?_
        refine s_istore_n (lv' := [_, _, _, _]) C dX10_growTree_98 (by decide) rfl rfl ?_
        exact L99 _ 0 _ _ (by omega) (Gr3.of hA.1 q94.1 q94.2) (Nat.lt_succ_self _)
      · skip
        refine s_aload_n C dX10_growTree_15 rfl ?_
        refine s_getr (k := 10) (b := 43) C dX10_growTree_16 fl_X10_69 (by decide) rfl (by decide) rfl ?_
        refine s_getr (k := 1) (b := 45) C dX10_growTree_19 fl_X10_236 (by decide) rfl (by decide) rfl ?_
        refine s_iload_n C dX10_growTree_22 rfl ?_
        refine s_aload_n C dX10_growTree_23 rfl ?_
        refine s_iload_n C dX10_growTree_24 rfl ?_
        refine s_callV1 C dX10_growTree_25 cy_X10_kindAt cv_X10_kindAt lk_X10_239 (ct_X10_kindAt E A h (by omega) (by rw [s41]; have := pk h (by omega) (by omega); omega)) (by decide) (by decide) (by first | decide | (decide)) rfl (Nat.le_of_ble_eq_true rfl) (k_P (fun z25 q25 => ?_))
        rw [s32, s41] at q25
        subst q25
        refine s_callS1 C dX10_growTree_28 cy_X10_isBound cs_X10_isBound lk_X10_242 (ct_X10_isBound E A (M 32 (M 41 h)) (by have := pk h (by omega) (by omega); have := k1 (M 41 h) (by omega) (by omega); omega)) (by decide) (Nat.le_of_ble_eq_true rfl) (k_P (fun z28 q28 => ?_))
        have k28 : (z28 = 1 ∧ (M 32 (M 41 h) = 1 ∨ M 32 (M 41 h) = 2 ∨ M 32 (M 41 h) = 3)) ∨ (z28 = 0 ∧ ¬ (M 32 (M 41 h) = 1 ∨ M 32 (M 41 h) = 2 ∨ M 32 (M 41 h) = 3)) := q28
        clear q28
        refine s_if_eq (tgt := 43) C dX10_growTree_31 (by decide) (by omega) (fun c31 => ?_) (fun c31 => ?_)
        · skip
          refine s_iconst C dX10_growTree_43 ?_
          refine s_iastore (n := 24) C dX10_growTree_44 (by decide) rfl rfl (by omega) (by omega) (by omega) (by omega) ?_
          refine s_iconst C dX10_growTree_45 ?_
          refine s_istore_n (lv' := [_, _, _, _]) C dX10_growTree_46 (by decide) rfl rfl ?_
          exact L47 _ 0 _ (by omega) (hA.put (by
            unfold wC
            rw [if_neg (by omega)]
            first
              | (rw [if_pos (by omega)]; done)
              | (rw [if_neg (by omega)]; done))) (by omega) (Nat.lt_succ_self _)
        · skip
          refine s_aload_n C dX10_growTree_34 rfl ?_
          refine s_getr (k := 4) (b := 15) C dX10_growTree_35 fl_X10_31 (by decide) rfl (by decide) rfl ?_
          refine s_iconst C dX10_growTree_38 ?_
          refine s_iaload (n := 4) (z := M 15 2) C dX10_growTree_39 (by decide) rfl rfl (by omega) (by omega) (by omega) (by rw [s15]) (fun r39 => ?_)
          refine s_goto (tgt := 44) C dX10_growTree_40 (by decide) ?_
          refine s_iastore (n := 24) C dX10_growTree_44 (by decide) rfl rfl (by omega) (by omega) (by omega) (by omega) ?_
          refine s_iconst C dX10_growTree_45 ?_
          refine s_istore_n (lv' := [_, _, _, _]) C dX10_growTree_46 (by decide) rfl rfl ?_
          exact L47 _ 0 _ (by omega) (hA.put (by
            unfold wC
            rw [if_neg (by omega)]
            first
              | (rw [if_pos (by omega)]; done)
              | (rw [if_neg (by omega)]; done))) (by omega) (Nat.lt_succ_self _)
  refine s_aload_n C dX10_growTree_0 rfl ?_
  refine s_getd (k := 6) (j := 6) (b := e) C dX10_growTree_1 fl_X10_45 (by decide) rfl (by decide) rfl (hX.2.1.1) ?_
  refine s_geti (k := 7) (j := 7) C dX10_growTree_4 fl_X10_149 (by first | (rcases hX.he with rfl | rfl <;> decide)) (by first | (rcases hX.he with rfl | rfl <;> decide)) (by decide) rfl (rfl) (fun r4 => ?_)
  refine s_istore_n (lv' := [_, _, _, _]) C dX10_growTree_7 (by decide) rfl rfl ?_
  refine s_iconst C dX10_growTree_8 ?_
  refine s_istore_n (lv' := [_, _, _, _]) C dX10_growTree_9 (by decide) rfl rfl ?_
  exact L10 _ 0 M _ (by omega) ⟨Sm.rf M _, fun h1 a b => by omega⟩ (Nat.lt_succ_self _)

set_option maxRecDepth 20000 in
set_option maxHeartbeats 4000000 in
theorem ct_X10_refresh (E : Ev) (e d : Nat) (M : Mm) (hX : XI M e d)  : Ct E yX10_refresh cX10_refresh 1 none 5 [zr E 0] M (pV (fun M' => Frs M M' e)) := by
  refine Ct.of (own := RX10) (lv0 := [some (zr E 0)]) (by decide) rfl (Nat.le_of_ble_eq_true rfl) rfl (fun κ C => ?_)
  refine s_aload_n C dX10_refresh_0 rfl ?_
  refine s_callV0 C dX10_refresh_1 cy_X10_refreshKeys cv_X10_refreshKeys lk_X10_202 (ct_X10_refreshKeys E e d M hX) (by decide) (by decide) (by first | decide | (decide)) rfl (Nat.le_of_ble_eq_true rfl) (k_V (fun M1 q1 => ?_))
  have hX1 := hX.frK q1
  refine s_aload_n C dX10_refresh_4 rfl ?_
  refine s_getz (k := 15) (j := 15) C dX10_refresh_5 fl_X10_136 (by decide) rfl (by decide) rfl (rfl) (fun r5 => ?_)
  refine s_if_eq (tgt := 20) C dX10_refresh_8 (by decide) (by omega) (fun c8 => ?_) (fun c8 => ?_)
  · skip
    exact s_return C dX10_refresh_20 (⟨rfl, by first | exact Frs_no hX q1 c8 | exact Frs_yes hX q1 q12⟩)
  · skip
    refine s_aload_n C dX10_refresh_11 rfl ?_
    refine s_callV0 C dX10_refresh_12 cy_X10_growTree cv_X10_growTree lk_X10_233 (ct_X10_growTree E e d M1 hX1 q1.2.2.2.1) (by decide) (by decide) (by first | decide | (decide)) rfl (Nat.le_of_ble_eq_true rfl) (k_V (fun M12 q12 => ?_))
    refine s_aload_n C dX10_refresh_15 rfl ?_
    refine s_iconst C dX10_refresh_16 ?_
    refine s_putz (k := 15) (j := 15) C dX10_refresh_17 fp_X10_136 (by decide) rfl rfl rfl (by decide) ?_
    exact s_return C dX10_refresh_20 (⟨rfl, by first | exact Frs_no hX q1 c8 | exact Frs_yes hX q1 q12⟩)
