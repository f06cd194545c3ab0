/-- the reference's tape holds what the class's does -/
def TpR (N M : Mm) (n : Int) : Prop := ∀ p, 0 ≤ p → p < n → (0 ≤ N 2 p ∧ N 2 p ≤ 255) ∧ M 67 p = sb (N 2 p)
/-- what reads() tells: the class's scan of N is rScan N t -/
def rdP (N M M' : Mm) (t : Nat) (n z : Int) : Prop := (z = -1 ∧ rScan N t 16 0 ≠ 0 ∧ Sm M M' [66, 80, 81, 82, 83] ∧ (∀ k : Int, k ≠ 26 → k ≠ 27 → M' 66 k = M 66 k) ∧ M' 66 26 = rScan N t 16 0 ∧ M' 66 27 = rScan N t 16 1) ∨ (z = rScan N t t 7 ∧ rScan N t 16 0 = 0 ∧ rScan N t 16 1 = -1 ∧ 1 ≤ z ∧ Sm M M' [80, 81, 82, 83] ∧ TX t (rScan N t) n ∧ TMt t (rScan N t) M' (-1) ∧ ∀ s, 0 ≤ s → s < z → M' 82 s = rScan N t (t + 5) s)
theorem rd_fault {N M A : Mm} {t : Nat} {k : Nat} {n v p : Int} (hn : N 1 1 = n) (hk : (k : Int) ≤ n) (hv : v ≠ 0) (h0 : SS t N k 16 0 = v) (h1 : SS t N k 16 1 = p) (hA : Sm M A [80, 81, 82, 83]) : rdP N M (mput (mput A 66 26 v) 66 27 p) t n (-1) := by
  obtain ⟨e0, e1⟩ := SS_f (n := n.toNat) (by omega) (by omega) hv h0 h1
  refine Or.inl ⟨rfl, by rw [e0]; exact hv, ?_, fun k a b => ?_, ?_, ?_⟩
  · intro a ha
    have a1 : a ≠ 66 := fun q => ha (by rw [q]; decide)
    rw [mput_ne a1, mput_ne a1]
    exact hA a (fun q => ha (List.mem_cons_of_mem _ q))
  · rw [mput_nk b, mput_nk a, hA 66 (by decide)]
  · rw [mput_nk (by decide), mput_eq, e0]
  · rw [mput_eq, e1]
theorem rd_end {N : Mm} {t : Nat} {k : Nat} {n : Int} (hn : N 1 1 = n) (hk : (k : Int) = n) (h0 : SS t N k 16 0 = 0) : (SS t N k 16 3 ≠ 0 ∨ SS t N k t 7 = 0 → rScan N t 16 0 = 6 ∧ rScan N t 16 1 = n) ∧ (¬ (SS t N k 16 3 ≠ 0 ∨ SS t N k t 7 = 0) → rScan N t = SS t N k) := by
  unfold SS at *
  unfold rScan sFin
  rw [hn, show n.toNat = k by omega]
  refine ⟨fun h => ?_, fun h => ?_⟩
  · rw [if_pos ⟨h0, h⟩]
    unfold sNote
    exact ⟨by rw [mput_nk (by decide), mput_eq], by rw [mput_eq]⟩
  · rw [if_neg (fun q => h q.2)]
theorem TMt.keep {t : Nat} {S A A' : Mm} {ex : Int} (m : TMt t S A ex) (h1 : A' 80 = A 80) (h2 : A' 81 = A 81) (h3 : A' 83 = A 83) : TMt t S A' ex := by
  unfold TMt
  rw [h1, h2, h3]
  exact m

theorem LR_words {t : Nat} {S : Mm} {k : Int} (h : TX t S k) (h7 : 1 ≤ S t 7) : S t 6 ≤ 40 * (S t 7 - 1) + S (t + 5) (S t 7 - 1) := by
  obtain ⟨h1, h2, h3, h4, h5⟩ := h
  have k1 := h4 (S t 7 - 1) (by omega) (by omega)
  have hl := k1.2.2.2 (by omega)
  omega

set_option maxRecDepth 20000 in
set_option maxHeartbeats 4000000 in
theorem ct_X11_reads (E : Ev) (N M : Mm) (t : Nat) (ht : t = 17 ∨ t = 24) (n : Int) (hn3 : 0 ≤ n ∧ n ≤ 3000) (hNn : N 1 1 = n) (hTp : TpR N M n) : Ct E yX11_reads cX11_reads 11 (some .int) 1 [zr E 66, zi n] M (pI (fun z M' => rdP N M M' t n z)) := by
  refine Ct.of (own := RX11) (lv0 := [some (zr E 66), some (zi n), none, none, none, none, none, none, none, none, none]) (by decide) rfl (Nat.le_of_ble_eq_true rfl) rfl (fun κ C => ?_)
  have L16 : ∀ (n9 : Nat) (k : Nat) (se o pa li tu : Int) (A : Mm) (u8 u9 u10 : Option Value) (hk : (k : Int) ≤ n) (hL : LR t (SS t N k) se o pa li tu (k : Int)) (hX : TX t (SS t N k) (k : Int)) (hM : TMt t (SS t N k) A (-1)) (hC : ∀ s, 0 ≤ s → s < se → A 82 s = (SS t N k) (t + 5) s) (hw : (SS t N k) 16 2 = 0 ∨ ((SS t N k) 16 2 = 1 ∧ ((k : Int) < n → ¬ ofM (M 67 (k : Int))))) (hA : Sm M A [80, 81, 82, 83]) (hm : (n - (k : Int)).toNat < n9), Gm E κ (pI (fun z M' => rdP N M M' t n z)) 11 16 [some (zr E 66), some (zi n), some (zi se), some (zi o), some (zi pa), some (zi li), some (zi tu), some (zi (k : Int)), u8, u9, u10] [] A := by
    intro n9
    induction n9 with
    | zero => intro k se o pa li tu A u8 u9 u10 hk hL hX hM hC hw hA hm; exact absurd hm (Nat.not_lt_zero _)
    | succ n9 ih16 =>
      intro k se o pa li tu A u8 u9 u10 hk hL hX hM hC hw hA hm
      have hN := hL.num
      have h00 := hL.1.1
      have a67 : A 67 = M 67 := hA 67 (by decide)
      have L169 : ∀ (n9 : Nat) (k2 : Nat) (sz pa2 : Int) (A2 : Mm) (u5 u8 : Option Value) (hk2 : (k : Int) < (k2 : Int) ∧ (k2 : Int) ≤ n) (hI : InW t (SS t N k2) se o pa2 sz (k2 : Int)) (hX2 : TX t (SS t N k2) (k2 : Int)) (hM2 : TMt t (SS t N k2) A2 (SS t N k2 t 6 - 1)) (hC2 : ∀ s, 0 ≤ s → s < se → A2 82 s = SS t N k2 (t + 5) s) (hA2 : Sm M A2 [80, 81, 82, 83]) (hm : (n - (k2 : Int)).toNat < n9), Gm E κ (pI (fun z M' => rdP N M M' t n z)) 11 169 [some (zr E 66), some (zi n), some (zi se), some (zi o), some (zi pa2), u5, some (zi 0), some (zi (k2 : Int)), u8, some (zi (40 * se + o)), some (zi sz)] [] A2 := by
        intro n9
        induction n9 with
        | zero => intro k2 sz pa2 A2 u5 u8 hk2 hI hX2 hM2 hC2 hA2 hm; exact absurd hm (Nat.not_lt_zero _)
        | succ n9 ih169 =>
          intro k2 sz pa2 A2 u5 u8 hk2 hI hX2 hM2 hC2 hA2 hm
          have b67 : A2 67 = M 67 := hA2 67 (by decide)
          have hI1 := hI.1.1
          have hI9 := hI.2.2.2.2.2.2.2.2.2
          have hI8 := hI.2.2.2.2.2.2.2.2.1
          have hI7 := hI.2.2.2.2.2.2.2.1
          have hI6 := hI.2.2.2.2.2.2.1
          have hI2 := hI.2.2.1
          refine s_goto (tgt := 105) C dX11_reads_169 (by decide) ?_
          refine s_iload C dX11_reads_105 rfl ?_
          refine s_iload_n C dX11_reads_107 rfl ?_
          refine s_icmp_ge (tgt := 172) C dX11_reads_108 (by decide) (by omega) (by omega) (fun c108 => ?_) (fun c108 => ?_)
          · skip
            have hbds : (0 ≤ se ∧ se < 24) ∧ (0 ≤ o ∧ o < 40) := by
              first
                | exact ⟨hI9, hI8⟩
                | omega
            refine s_aload_n C dX11_reads_172 rfl ?_
            refine s_getr (k := 19) (b := 81) C dX11_reads_173 fl_X11_53 (by decide) rfl (by decide) rfl ?_
            refine s_iload C dX11_reads_176 rfl ?_
            refine s_iload C dX11_reads_178 rfl ?_
            refine s_iastore (n := 960) C dX11_reads_180 (by decide) rfl rfl (by omega) (by omega) (by omega) (by first | omega | decide) ?_
            refine s_iinc (lv' := [_, _, _, _, _, _, _, _, _, _, _]) C dX11_reads_181 rfl (by decide) rfl rfl rfl ?_
            refine s_iconst C dX11_reads_184 ?_
            refine s_istore (lv' := [_, _, _, _, _, _, _, _, _, _, _]) C dX11_reads_185 (by decide) rfl rfl ?_
            refine s_goto (tgt := 16) C dX11_reads_187 (by decide) ?_
            first
              | (have h5 := hI.2.2.2.1
                 have h3 := hI.2.2.2.2.1
                 exact ih16 k2 se (o + 1) pa2 0 0 _ _ _ _ (by omega) (hI.out (by omega)) hX2 (hM2.done hX2 (by omega) (by rw [mput_ne (by decide)]) (by rw [mput_ne (by decide)]) (fun x => by rw [mput_at, h3, show SS t N k2 t 7 - 1 = se by omega, h5, show o + 1 - 1 = o by omega])) (fun s a b => by rw [mput_ne (by decide)]; exact hC2 s a b) (Or.inr ⟨hI.2.1.1, fun hlt => by
                   first
                     | (exfalso; omega)
                     | (have g := q118.n c121
                        rw [b67] at g
                        exact g)⟩) (hA2.put (by decide)) (by omega))
              | (exfalso; omega)
              | (exfalso
                 have g := q118.n c121
                 first
                   | (rw [a67] at g; exact g (q33.y c36))
                   | (rw [mput_ne (by decide), a67] at g; exact g (q33.y c36)))
          · skip
            refine s_aload_n C dX11_reads_111 rfl ?_
            refine s_getr (k := 0) (b := 67) C dX11_reads_112 fl_X11_7 (by decide) rfl (by decide) rfl ?_
            refine s_iload C dX11_reads_115 rfl ?_
            refine s_baload (n := 3000) C dX11_reads_117 (by decide) rfl rfl (by omega) (by omega) (by omega) (rfl) (fun r117 => ?_)
            refine s_callS1 C dX11_reads_118 cy_X11_isOfWord cs_X11_isOfWord lk_X11_143 (ct_X11_isOfWord E _ _ (by omega)) (by decide) (Nat.le_of_ble_eq_true rfl) (k_P (fun z118 q118 => ?_))
            refine s_if_eq (tgt := 172) C dX11_reads_121 (by decide) (by have := q118.b; omega) (fun c121 => ?_) (fun c121 => ?_)
            · skip
              have hbds : (0 ≤ se ∧ se < 24) ∧ (0 ≤ o ∧ o < 40) := by
                first
                  | exact ⟨hI9, hI8⟩
                  | omega
              refine s_aload_n C dX11_reads_172 rfl ?_
              refine s_getr (k := 19) (b := 81) C dX11_reads_173 fl_X11_53 (by decide) rfl (by decide) rfl ?_
              refine s_iload C dX11_reads_176 rfl ?_
              refine s_iload C dX11_reads_178 rfl ?_
              refine s_iastore (n := 960) C dX11_reads_180 (by decide) rfl rfl (by omega) (by omega) (by omega) (by first | omega | decide) ?_
              refine s_iinc (lv' := [_, _, _, _, _, _, _, _, _, _, _]) C dX11_reads_181 rfl (by decide) rfl rfl rfl ?_
              refine s_iconst C dX11_reads_184 ?_
              refine s_istore (lv' := [_, _, _, _, _, _, _, _, _, _, _]) C dX11_reads_185 (by decide) rfl rfl ?_
              refine s_goto (tgt := 16) C dX11_reads_187 (by decide) ?_
              first
                | (have h5 := hI.2.2.2.1
                   have h3 := hI.2.2.2.2.1
                   exact ih16 k2 se (o + 1) pa2 0 0 _ _ _ _ (by omega) (hI.out (by omega)) hX2 (hM2.done hX2 (by omega) (by rw [mput_ne (by decide)]) (by rw [mput_ne (by decide)]) (fun x => by rw [mput_at, h3, show SS t N k2 t 7 - 1 = se by omega, h5, show o + 1 - 1 = o by omega])) (fun s a b => by rw [mput_ne (by decide)]; exact hC2 s a b) (Or.inr ⟨hI.2.1.1, fun hlt => by
                     first
                       | (exfalso; omega)
                       | (have g := q118.n c121
                          rw [b67] at g
                          exact g)⟩) (hA2.put (by decide)) (by omega))
                | (exfalso; omega)
                | (exfalso
                   have g := q118.n c121
                   first
                     | (rw [a67] at g; exact g (q33.y c36))
                     | (rw [mput_ne (by decide), a67] at g; exact g (q33.y c36)))
            · skip
              refine s_iload C dX11_reads_124 rfl ?_
              refine s_bipush C dX11_reads_126 (by decide) ?_
              refine s_icmp_ne (tgt := 139) C dX11_reads_128 (by decide) (by omega) (by omega) (fun c128 => ?_) (fun c128 => ?_)
              · skip
                have hbds : (0 ≤ se ∧ se < 24) ∧ (0 ≤ o ∧ o < 40) := by
                  first
                    | exact ⟨hI9, hI8⟩
                    | omega
                refine s_aload_n C dX11_reads_139 rfl ?_
                refine s_getr (k := 18) (b := 80) C dX11_reads_140 fl_X11_50 (by decide) rfl (by decide) rfl ?_
                refine s_bipush C dX11_reads_143 (by decide) ?_
                refine s_iload C dX11_reads_145 rfl ?_
                refine s_imul C dX11_reads_147 ?_
                refine s_iload C dX11_reads_148 rfl ?_
                refine s_iadd C dX11_reads_150 ?_
                refine s_aload_n C dX11_reads_151 rfl ?_
                refine s_getr (k := 0) (b := 67) C dX11_reads_152 fl_X11_7 (by decide) rfl (by decide) rfl ?_
                refine s_iload C dX11_reads_155 rfl ?_
                refine s_baload (n := 3000) C dX11_reads_157 (by decide) rfl rfl (by omega) (by omega) (by omega) (rfl) (fun r157 => ?_)
                refine s_callS1 C dX11_reads_158 cy_X11_small cs_X11_small lk_X11_147 (ct_X11_small E _ _ (by omega)) (by decide) (Nat.le_of_ble_eq_true rfl) (k_P (fun z158 q158 => ?_))
                refine s_i2b C dX11_reads_161 ?_
                refine s_bastore (n := 15360) C dX11_reads_162 (by decide) rfl rfl (by omega) (by omega) (by omega) (by have := zb_rg z158; omega) (by have := zb_rg z158; omega) ?_
                refine s_iinc (lv' := [_, _, _, _, _, _, _, _, _, _, _]) C dX11_reads_163 rfl (by decide) rfl rfl rfl ?_
                refine s_iinc (lv' := [_, _, _, _, _, _, _, _, _, _, _]) C dX11_reads_166 rfl (by decide) rfl rfl rfl ?_
                first
                  | (have hof := q118.y c121
                     rw [b67] at hof q158
                     have hb2 := (hTp (k2 : Int) (by omega) (by omega))
                     obtain ⟨dh1, dh2, dh3⟩ := chr hb2.1
                     rw [← hb2.2] at dh1 dh2
                     have hSs2 := SS_s ht hI1 (k := k2)
                     have hz : zb z158 = low (N 2 (k2 : Int)) := by rw [q158, zb_id (low_b (by omega)), dh2 hof]
                     have h3 := hI.2.2.2.2.1
                     have hst := st_letter ht (S := SS t N k2) (p := (k2 : Int)) (b := low (N 2 (k2 : Int))) hI.2.1.1 (by omega) (dh1.mp hof)
                     rw [← hSs2] at hst
                     have hpos := hI.2.2.2.2.2.1
                     have h5 := hI.2.2.2.1
                     rw [hz, show (k2 : Int) + 1 = ((k2 + 1 : Nat) : Int) by omega]
                     exact ih169 (k2 + 1) (sz + 1) pa2 _ _ _ (by omega) (hI.ltr c128 hst) (hX2.ltr hI2.2 (by omega) (by omega) hst).1 (hM2.ltr hX2 (by omega) (by omega) (by omega) hst (by rw [mput_ne (by decide)]) (by rw [mput_ne (by decide)]) (fun x => by rw [mput_at, show 16 * (40 * (SS t N k2 t 7 - 1) + (SS t N k2 (t + 5) (SS t N k2 t 7 - 1) - 1)) + SS t N k2 (t + 3) (SS t N k2 t 6 - 1) = 16 * (40 * se + o) + sz from by rw [show SS t N k2 t 7 - 1 = se by omega, h5, h3]; omega])) (fun s a b => by rw [mput_ne (by decide), hC2 s a b, hst.2.2.2.2.2.2.1]) (hA2.put (by decide)) (by omega))
                  | (have hof := q33.y c36
                     have ho := c72
                     obtain ⟨t0, s24⟩ := hN.2.2.2.2.2 ho
                     rw [a67] at q158
                     have hz : zb z158 = low (N 2 (k : Int)) := by rw [q158, zb_id (low_b (by omega)), ch2 hof]
                     have h3 := hL.2.1
                     have h7 := hL.2.2.1
                     have h5 := hL.2.2.2.1 ho
                     rw [if_neg ho] at h3 h7
                     have hst := st_word ht (S := SS t N k) (p := (k : Int)) (b := low (N 2 (k : Int))) h00 (by rcases hw with g | ⟨_, g⟩; exact g; exact absurd (q33.y c36) (g (by omega))) h3 (by rw [show SS t N k t 7 - 1 = se by omega, h5]; omega) (ch1.mp hof)
                     rw [← hSs] at hst
                     have hlast := (hX.2.2.2.1 se (by omega) (by omega)).2.2.2 (by omega)
                     have hfw := hX.2.2.2.2
                     have h6le : SS t N k t 6 < 40 * SS t N k t 7 := by have := LR_words hX (by omega); rw [show SS t N k t 7 - 1 = se by omega, h5] at this; omega
                     subst t0
                     rw [hz, show (k : Int) + 1 = ((k + 1 : Nat) : Int) by omega]
                     exact L169 _ (k + 1) 1 pa _ _ _ (by omega) (hL.word hX ho (by omega) hst) (hX.wrd (by omega) (by omega) (by rw [show SS t N k t 7 - 1 = se by omega, h5]; omega) h6le hst) (by rw [hst.2.1.1, show SS t N k t 6 + 1 - 1 = SS t N k t 6 by omega]; exact hM.wrd hX (by omega) hst (by rw [mput_ne (by decide)]) (by rw [mput_ne (by decide)]) (by rw [show SS t N k t 7 - 1 = se by omega, h5]; omega) (fun x => by rw [mput_at, show SS t N k t 7 - 1 = se by omega, h5])) (fun s a b => by rw [mput_ne (by decide), hC s a b, hst.2.2.2.2.2.2.1, if_neg (by omega)]) (hA.put (by decide)) (Nat.lt_succ_self _))
                  | (have hof := q33.y c36
                     have ho := c72
                     subst ho
                     rw [mput_ne (by decide), a67] at q158
                     have hz : zb z158 = low (N 2 (k : Int)) := by rw [q158, zb_id (low_b (by omega)), ch2 hof]
                     have h3 := hL.2.1
                     have h7 := hL.2.2.1
                     rw [if_pos rfl] at h3 h7
                     have hst := st_first ht (S := SS t N k) (p := (k : Int)) (b := low (N 2 (k : Int))) h00 (by rcases hw with g | ⟨_, g⟩; exact g; exact absurd (q33.y c36) (g (by omega))) h3 (by omega) (ch1.mp hof)
                     rw [← hSs] at hst
                     have hI0 := hL.first hX (by omega) hst
                     have hpa : (if SS t N k 16 5 = 0 then SS t N k 16 6 else SS t N k 16 6 + 1) = (if tu = 0 then pa else pa + 1) := by rw [hL.2.2.2.2.1.1, hL.2.2.2.2.1.2]
                     rw [hpa] at hst
                     rw [hz, show (k : Int) + 1 = ((k + 1 : Nat) : Int) by omega]
                     have key : ∀ pv, pv = (if tu = 0 then pa else pa + 1) → TMt t (SS t N (k + 1)) (mput (mput A 83 se pv) 80 (16 * (40 * se + 0) + 0) (low (N 2 (k : Int)))) (SS t N (k + 1) t 6 - 1) := fun pv hpv => by
                       rw [hst.2.1.1, show SS t N k t 6 + 1 - 1 = SS t N k t 6 by omega]
                       exact hM.fst hX (by omega) hst (by rw [mput_ne (by decide), mput_ne (by decide)]) (fun x => by rw [mput_at, mput_ne (by decide), h7]) (fun x => by rw [mput_ne (by decide), mput_at, h7, hpv])
                     first
                       | (rw [if_pos c77] at hI0 key
                          exact L169 _ (k + 1) 1 pa _ _ _ (by omega) hI0 (hX.fst (by omega) (by omega) hst) (key pa rfl) (fun s a b => by rw [mput_ne (by decide), mput_ne (by decide), hC s a b, hst.2.2.2.2.2.2.1, if_neg (by omega)]) ((hA.put (by decide)).put (by decide)) (Nat.lt_succ_self _))
                       | (rw [if_neg c77] at hI0 key
                          exact L169 _ (k + 1) 1 (pa + 1) _ _ _ (by omega) hI0 (hX.fst (by omega) (by omega) hst) (key (pa + 1) rfl) (fun s a b => by rw [mput_ne (by decide), mput_ne (by decide), hC s a b, hst.2.2.2.2.2.2.1, if_neg (by omega)]) ((hA.put (by decide)).put (by decide)) (Nat.lt_succ_self _)))
              · skip
                refine s_aload_n C dX11_reads_131 rfl ?_
                refine s_iconst C dX11_reads_132 ?_
                refine s_iload C dX11_reads_133 rfl ?_
                refine s_callV2 C dX11_reads_135 cy_X11_wrong cv_X11_wrong lk_X11_189 (ct_X11_wrong E _ 2 _ (by decide) (by omega)) (by decide) (by decide) (by first | decide | (decide)) rfl (Nat.le_of_ble_eq_true rfl) (k_I (fun z135 M135 q135 => ?_))
                obtain ⟨z135e, q135⟩ := q135
                subst z135e
                exact s_ireturn C dX11_reads_138 (⟨_, rfl, by
      first
        | (exfalso; omega)
        | (subst q135
           have hb2 := (hTp (k2 : Int) (by omega) (by omega))
           obtain ⟨dh1, dh2, dh3⟩ := chr hb2.1
           rw [← hb2.2] at dh1
           have hSs2 := SS_s ht hI1 (k := k2)
           have hof := q118.y c121
           rw [b67] at hof
           have hf := st_f2 ht (S := SS t N k2) (p := (k2 : Int)) (b := low (N 2 (k2 : Int))) hI.2.1.1 (by have := hI.2.2.2.2.1; omega) (dh1.mp hof)
           rw [← hSs2] at hf
           exact rd_fault hNn (k := k2 + 1) (by omega) (by decide) hf.1 hf.2 hA2)⟩)
      refine s_iload C dX11_reads_16 rfl ?_
      refine s_iload_n C dX11_reads_18 rfl ?_
      refine s_icmp_ge (tgt := 319) C dX11_reads_19 (by decide) (by omega) (by omega) (fun c19 => ?_) (fun c19 => ?_)
      · skip
        have hkn : (k : Int) = n := by omega
        have hre := rd_end hNn hkn h00
        have h3 := hL.2.1
        have h7 := hL.2.2.1
        refine s_iload_n C dX11_reads_319 rfl ?_
        refine s_if_gt (tgt := 327) C dX11_reads_320 (by decide) (by omega) (fun c320 => ?_) (fun c320 => ?_)
        · skip
          refine s_aload_n C dX11_reads_327 rfl ?_
          refine s_bipush C dX11_reads_328 (by decide) ?_
          refine s_iload_n C dX11_reads_330 rfl ?_
          refine s_callV2 C dX11_reads_331 cy_X11_wrong cv_X11_wrong lk_X11_189 (ct_X11_wrong E A 6 n (by decide) (by omega)) (by decide) (by decide) (by first | decide | (decide)) rfl (Nat.le_of_ble_eq_true rfl) (k_I (fun z331 M331 q331 => ?_))
          obtain ⟨z331e, q331⟩ := q331
          subst z331e
          subst q331
          refine s_goto (tgt := 338) C dX11_reads_334 (by decide) ?_
          exact s_ireturn C dX11_reads_338 (⟨_, rfl, by
      first
        | (have hcond : SS t N k 16 3 ≠ 0 ∨ SS t N k t 7 = 0 := by
             by_cases ho : o = 0
             · rw [if_pos ho] at h7; right; omega
             · rw [if_neg ho] at h3; left; omega
           obtain ⟨f1, f2⟩ := hre.1 hcond
           refine Or.inl ⟨rfl, by rw [f1]; decide, ?_, fun q a b => ?_, ?_, ?_⟩
           · intro a ha
             have a1 : a ≠ 66 := fun q => ha (by rw [q]; decide)
             rw [mput_ne a1, mput_ne a1]
             exact hA a (fun q => ha (List.mem_cons_of_mem _ q))
           · rw [mput_nk b, mput_nk a, hA 66 (by decide)]
           · rw [mput_nk (by decide), mput_eq, f1]
           · rw [mput_eq, f2])
        | (have ho : o = 0 := by omega
           rw [if_pos ho] at h7 h3
           have f := hre.2 (by omega)
           refine Or.inr ⟨?_, ?_, ?_, by omega, hA, ?_, ?_, ?_⟩
           · rw [f]; exact h7.symm
           · rw [f]; exact h00
           · rw [f]; exact hL.1.2
           · rw [f, ← hkn]; exact hX
           · rw [f]; exact hM
           · rw [f]; exact fun s a b => hC s a b)⟩)
        · skip
          refine s_iload_n C dX11_reads_323 rfl ?_
          refine s_if_ne (tgt := 337) C dX11_reads_324 (by decide) (by omega) (fun c324 => ?_) (fun c324 => ?_)
          · skip
            refine s_iload_n C dX11_reads_337 rfl ?_
            exact s_ireturn C dX11_reads_338 (⟨_, rfl, by
      first
        | (have hcond : SS t N k 16 3 ≠ 0 ∨ SS t N k t 7 = 0 := by
             by_cases ho : o = 0
             · rw [if_pos ho] at h7; right; omega
             · rw [if_neg ho] at h3; left; omega
           obtain ⟨f1, f2⟩ := hre.1 hcond
           refine Or.inl ⟨rfl, by rw [f1]; decide, ?_, fun q a b => ?_, ?_, ?_⟩
           · intro a ha
             have a1 : a ≠ 66 := fun q => ha (by rw [q]; decide)
             rw [mput_ne a1, mput_ne a1]
             exact hA a (fun q => ha (List.mem_cons_of_mem _ q))
           · rw [mput_nk b, mput_nk a, hA 66 (by decide)]
           · rw [mput_nk (by decide), mput_eq, f1]
           · rw [mput_eq, f2])
        | (have ho : o = 0 := by omega
           rw [if_pos ho] at h7 h3
           have f := hre.2 (by omega)
           refine Or.inr ⟨?_, ?_, ?_, by omega, hA, ?_, ?_, ?_⟩
           · rw [f]; exact h7.symm
           · rw [f]; exact h00
           · rw [f]; exact hL.1.2
           · rw [f, ← hkn]; exact hX
           · rw [f]; exact hM
           · rw [f]; exact fun s a b => hC s a b)⟩)
          · skip
            refine s_aload_n C dX11_reads_327 rfl ?_
            refine s_bipush C dX11_reads_328 (by decide) ?_
            refine s_iload_n C dX11_reads_330 rfl ?_
            refine s_callV2 C dX11_reads_331 cy_X11_wrong cv_X11_wrong lk_X11_189 (ct_X11_wrong E A 6 n (by decide) (by omega)) (by decide) (by decide) (by first | decide | (decide)) rfl (Nat.le_of_ble_eq_true rfl) (k_I (fun z331 M331 q331 => ?_))
            obtain ⟨z331e, q331⟩ := q331
            subst z331e
            subst q331
            refine s_goto (tgt := 338) C dX11_reads_334 (by decide) ?_
            exact s_ireturn C dX11_reads_338 (⟨_, rfl, by
      first
        | (have hcond : SS t N k 16 3 ≠ 0 ∨ SS t N k t 7 = 0 := by
             by_cases ho : o = 0
             · rw [if_pos ho] at h7; right; omega
             · rw [if_neg ho] at h3; left; omega
           obtain ⟨f1, f2⟩ := hre.1 hcond
           refine Or.inl ⟨rfl, by rw [f1]; decide, ?_, fun q a b => ?_, ?_, ?_⟩
           · intro a ha
             have a1 : a ≠ 66 := fun q => ha (by rw [q]; decide)
             rw [mput_ne a1, mput_ne a1]
             exact hA a (fun q => ha (List.mem_cons_of_mem _ q))
           · rw [mput_nk b, mput_nk a, hA 66 (by decide)]
           · rw [mput_nk (by decide), mput_eq, f1]
           · rw [mput_eq, f2])
        | (have ho : o = 0 := by omega
           rw [if_pos ho] at h7 h3
           have f := hre.2 (by omega)
           refine Or.inr ⟨?_, ?_, ?_, by omega, hA, ?_, ?_, ?_⟩
           · rw [f]; exact h7.symm
           · rw [f]; exact h00
           · rw [f]; exact hL.1.2
           · rw [f, ← hkn]; exact hX
           · rw [f]; exact hM
           · rw [f]; exact fun s a b => hC s a b)⟩)
      · skip
        have hb := (hTp (k : Int) (by omega) (by omega))
        obtain ⟨ch1, ch2, ch3⟩ := chr hb.1
        rw [← hb.2] at ch1 ch2 ch3
        have hSs := SS_s ht h00 (k := k)
        refine s_aload_n C dX11_reads_22 rfl ?_
        refine s_getr (k := 0) (b := 67) C dX11_reads_23 fl_X11_7 (by decide) rfl (by decide) rfl ?_
        refine s_iload C dX11_reads_26 rfl ?_
        refine s_baload (n := 3000) (z := M 67 (k : Int)) C dX11_reads_28 (by decide) rfl rfl (by omega) (by omega) (by omega) (by rw [a67]) (fun r28 => ?_)
        refine s_istore (lv' := [_, _, _, _, _, _, _, _, _, _, _]) C dX11_reads_29 (by decide) rfl rfl ?_
        refine s_iload C dX11_reads_31 rfl ?_
        refine s_callS1 C dX11_reads_33 cy_X11_isOfWord cs_X11_isOfWord lk_X11_143 (ct_X11_isOfWord E A (M 67 (k : Int)) (by omega)) (by decide) (Nat.le_of_ble_eq_true rfl) (k_P (fun z33 q33 => ?_))
        refine s_if_eq (tgt := 190) C dX11_reads_36 (by decide) (by have := q33.b; omega) (fun c36 => ?_) (fun c36 => ?_)
        · skip
          refine s_iload C dX11_reads_190 rfl ?_
          refine s_bipush C dX11_reads_192 (by decide) ?_
          refine s_icmp_eq (tgt := 211) C dX11_reads_194 (by decide) (by omega) (by omega) (fun c194 => ?_) (fun c194 => ?_)
          · skip
            have hbv : low (N 2 (k : Int)) = 46 ∨ low (N 2 (k : Int)) = 33 ∨ low (N 2 (k : Int)) = 63 := by
              first
                | exact Or.inl ((ch3 46 (by omega)).mp c194)
                | exact Or.inr (Or.inl ((ch3 33 (by omega)).mp c201))
                | exact Or.inr (Or.inr ((ch3 63 (by omega)).mp c208))
            refine s_iload_n C dX11_reads_211 rfl ?_
            refine s_if_ne (tgt := 223) C dX11_reads_212 (by decide) (by omega) (fun c212 => ?_) (fun c212 => ?_)
            · skip
              refine s_aload_n C dX11_reads_223 rfl ?_
              refine s_getr (k := 20) (b := 82) C dX11_reads_224 fl_X11_56 (by decide) rfl (by decide) rfl ?_
              refine s_iload_n C dX11_reads_227 rfl ?_
              refine s_iload_n C dX11_reads_228 rfl ?_
              refine s_iastore (n := 24) C dX11_reads_229 (by decide) rfl rfl (by have := hN.2.2.2.2.2 c212; omega) (by have := hN.2.2.2.2.2 c212; omega) (by have := hN.2.2.2.2.2 c212; omega) (by omega) ?_
              refine s_iinc (lv' := [_, _, _, _, _, _, _, _, _, _, _]) C dX11_reads_230 rfl (by decide) rfl rfl rfl ?_
              refine s_iconst C dX11_reads_233 ?_
              refine s_istore_n (lv' := [_, _, _, _, _, _, _, _, _, _, _]) C dX11_reads_234 (by decide) rfl rfl ?_
              refine s_iconst C dX11_reads_235 ?_
              refine s_istore (lv' := [_, _, _, _, _, _, _, _, _, _, _]) C dX11_reads_236 (by decide) rfl rfl ?_
              refine s_goto (tgt := 313) C dX11_reads_238 (by decide) ?_
              refine s_iinc (lv' := [_, _, _, _, _, _, _, _, _, _, _]) C dX11_reads_313 rfl (by decide) rfl rfl rfl ?_
              refine s_goto (tgt := 16) C dX11_reads_316 (by decide) ?_
              rw [show (k : Int) + 1 = ((k + 1 : Nat) : Int) by omega]
              first
                | (have ho := c212
                   have h3 := hL.2.1
                   have h5 := hL.2.2.2.1 ho
                   rw [if_neg ho] at h3
                   have q := st_end ht (S := SS t N k) (p := (k : Int)) h3 hbv
                   rw [← hSs] at q
                   exact ih16 (k + 1) (se + 1) 0 pa 0 tu _ _ _ _ (by omega) (hL.endS ho (by omega) q) (hX.mrk q) ((TMt.mrk hX hM q).keep (by rw [mput_ne (by decide)]) (by rw [mput_ne (by decide)]) (by rw [mput_ne (by decide)])) (fun s a b => by
                     rw [q.2.2.2.2.2.2.1]
                     by_cases cs : s = se
                     · subst cs; rw [mput_eq]; exact h5.symm
                     · rw [mput_nk cs]; exact hC s a (by omega)) (Or.inl (by rw [q.1]; first | rfl | (unfold gLin; split <;> rfl))) (hA.put (by decide)) (by omega))
                | (have q := st_lin ht (S := SS t N k) (p := (k : Int)) ((ch3 10 (by omega)).mp c245)
                   rw [← hSs] at q
                   first
                     | exact ih16 (k + 1) se o pa (li + 1) 1 _ _ _ _ (by omega) (hL.lin (by omega) q (by rw [if_pos ⟨by omega, c258, by omega⟩])) (hX.mrk q) (TMt.mrk hX hM q) (fun s a b => by rw [hC s a b, q.2.2.2.2.2.2.1]) (Or.inl (by rw [q.1]; first | rfl | (unfold gLin; split <;> rfl))) hA (by omega)
                     | exact ih16 (k + 1) se o pa (li + 1) tu _ _ _ _ (by omega) (hL.lin (by omega) q (by rw [if_neg (by omega)])) (hX.mrk q) (TMt.mrk hX hM q) (fun s a b => by rw [hC s a b, q.2.2.2.2.2.2.1]) (Or.inl (by rw [q.1]; first | rfl | (unfold gLin; split <;> rfl))) hA (by omega)
                     | exact ih16 (k + 1) se o pa (li + 1) tu _ _ _ _ (by omega) (hL.lin (by omega) q (by rw [if_neg (fun g => c258 g.2.1)])) (hX.mrk q) (TMt.mrk hX hM q) (fun s a b => by rw [hC s a b, q.2.2.2.2.2.2.1]) (Or.inl (by rw [q.1]; first | rfl | (unfold gLin; split <;> rfl))) hA (by omega)
                     | exact ih16 (k + 1) se o pa (li + 1) tu _ _ _ _ (by omega) (hL.lin (by omega) q (by rw [if_neg (fun g => by omega)])) (hX.mrk q) (TMt.mrk hX hM q) (fun s a b => by rw [hC s a b, q.2.2.2.2.2.2.1]) (Or.inl (by rw [q.1]; first | rfl | (unfold gLin; split <;> rfl))) hA (by omega))
                | (have hbc : low (N 2 (k : Int)) = 44 ∨ low (N 2 (k : Int)) = 58 ∨ low (N 2 (k : Int)) = 59 := by
                     first
                       | exact Or.inl ((ch3 44 (by omega)).mp c275)
                       | exact Or.inr (Or.inr ((ch3 59 (by omega)).mp c282))
                       | exact Or.inr (Or.inl ((ch3 58 (by omega)).mp c289))
                   have q := st_com ht (S := SS t N k) (p := (k : Int)) hbc
                   rw [← hSs] at q
                   exact ih16 (k + 1) se o pa 0 tu _ _ _ _ (by omega) (hL.com (by omega) q) (hX.mrk q) (TMt.mrk hX hM q) (fun s a b => by rw [hC s a b, q.2.2.2.2.2.2.1]) (Or.inl (by rw [q.1]; first | rfl | (unfold gLin; split <;> rfl))) hA (by omega))
                | (have q := st_blk ht (S := SS t N k) (p := (k : Int)) ((ch3 32 (by omega)).mp c302)
                   rw [← hSs] at q
                   exact ih16 (k + 1) se o pa li tu _ _ _ _ (by omega) (hL.blk q) (hX.mrk q) (TMt.mrk hX hM q) (fun s a b => by rw [hC s a b, q.2.2.2.2.2.2.1]) (Or.inl (by rw [q.1]; first | rfl | (unfold gLin; split <;> rfl))) hA (by omega))
            · skip
              refine s_aload_n C dX11_reads_215 rfl ?_
              refine s_iconst C dX11_reads_216 ?_
              refine s_iload C dX11_reads_217 rfl ?_
              refine s_callV2 C dX11_reads_219 cy_X11_wrong cv_X11_wrong lk_X11_189 (ct_X11_wrong E A 5 (k : Int) (by decide) (by omega)) (by decide) (by decide) (by first | decide | (decide)) rfl (Nat.le_of_ble_eq_true rfl) (k_I (fun z219 M219 q219 => ?_))
              obtain ⟨z219e, q219⟩ := q219
              subst z219e
              exact s_ireturn C dX11_reads_222 (⟨_, rfl, by
      subst q219
      have h3 := hL.2.1
      rw [if_pos c212] at h3
      have hf := st_f5 ht (S := SS t N k) (p := (k : Int)) h3 hbv
      rw [← hSs] at hf
      exact rd_fault hNn (k := k + 1) (by omega) (by decide) hf.1 hf.2 hA⟩)
          · skip
            refine s_iload C dX11_reads_197 rfl ?_
            refine s_bipush C dX11_reads_199 (by decide) ?_
            refine s_icmp_eq (tgt := 211) C dX11_reads_201 (by decide) (by omega) (by omega) (fun c201 => ?_) (fun c201 => ?_)
            · skip
              have hbv : low (N 2 (k : Int)) = 46 ∨ low (N 2 (k : Int)) = 33 ∨ low (N 2 (k : Int)) = 63 := by
                first
                  | exact Or.inl ((ch3 46 (by omega)).mp c194)
                  | exact Or.inr (Or.inl ((ch3 33 (by omega)).mp c201))
                  | exact Or.inr (Or.inr ((ch3 63 (by omega)).mp c208))
              refine s_iload_n C dX11_reads_211 rfl ?_
              refine s_if_ne (tgt := 223) C dX11_reads_212 (by decide) (by omega) (fun c212 => ?_) (fun c212 => ?_)
              · skip
                refine s_aload_n C dX11_reads_223 rfl ?_
                refine s_getr (k := 20) (b := 82) C dX11_reads_224 fl_X11_56 (by decide) rfl (by decide) rfl ?_
                refine s_iload_n C dX11_reads_227 rfl ?_
                refine s_iload_n C dX11_reads_228 rfl ?_
                refine s_iastore (n := 24) C dX11_reads_229 (by decide) rfl rfl (by have := hN.2.2.2.2.2 c212; omega) (by have := hN.2.2.2.2.2 c212; omega) (by have := hN.2.2.2.2.2 c212; omega) (by omega) ?_
                refine s_iinc (lv' := [_, _, _, _, _, _, _, _, _, _, _]) C dX11_reads_230 rfl (by decide) rfl rfl rfl ?_
                refine s_iconst C dX11_reads_233 ?_
                refine s_istore_n (lv' := [_, _, _, _, _, _, _, _, _, _, _]) C dX11_reads_234 (by decide) rfl rfl ?_
                refine s_iconst C dX11_reads_235 ?_
                refine s_istore (lv' := [_, _, _, _, _, _, _, _, _, _, _]) C dX11_reads_236 (by decide) rfl rfl ?_
                refine s_goto (tgt := 313) C dX11_reads_238 (by decide) ?_
                refine s_iinc (lv' := [_, _, _, _, _, _, _, _, _, _, _]) C dX11_reads_313 rfl (by decide) rfl rfl rfl ?_
                refine s_goto (tgt := 16) C dX11_reads_316 (by decide) ?_
                rw [show (k : Int) + 1 = ((k + 1 : Nat) : Int) by omega]
                first
                  | (have ho := c212
                     have h3 := hL.2.1
                     have h5 := hL.2.2.2.1 ho
                     rw [if_neg ho] at h3
                     have q := st_end ht (S := SS t N k) (p := (k : Int)) h3 hbv
                     rw [← hSs] at q
                     exact ih16 (k + 1) (se + 1) 0 pa 0 tu _ _ _ _ (by omega) (hL.endS ho (by omega) q) (hX.mrk q) ((TMt.mrk hX hM q).keep (by rw [mput_ne (by decide)]) (by rw [mput_ne (by decide)]) (by rw [mput_ne (by decide)])) (fun s a b => by
                       rw [q.2.2.2.2.2.2.1]
                       by_cases cs : s = se
                       · subst cs; rw [mput_eq]; exact h5.symm
                       · rw [mput_nk cs]; exact hC s a (by omega)) (Or.inl (by rw [q.1]; first | rfl | (unfold gLin; split <;> rfl))) (hA.put (by decide)) (by omega))
                  | (have q := st_lin ht (S := SS t N k) (p := (k : Int)) ((ch3 10 (by omega)).mp c245)
                     rw [← hSs] at q
                     first
                       | exact ih16 (k + 1) se o pa (li + 1) 1 _ _ _ _ (by omega) (hL.lin (by omega) q (by rw [if_pos ⟨by omega, c258, by omega⟩])) (hX.mrk q) (TMt.mrk hX hM q) (fun s a b => by rw [hC s a b, q.2.2.2.2.2.2.1]) (Or.inl (by rw [q.1]; first | rfl | (unfold gLin; split <;> rfl))) hA (by omega)
                       | exact ih16 (k + 1) se o pa (li + 1) tu _ _ _ _ (by omega) (hL.lin (by omega) q (by rw [if_neg (by omega)])) (hX.mrk q) (TMt.mrk hX hM q) (fun s a b => by rw [hC s a b, q.2.2.2.2.2.2.1]) (Or.inl (by rw [q.1]; first | rfl | (unfold gLin; split <;> rfl))) hA (by omega)
                       | exact ih16 (k + 1) se o pa (li + 1) tu _ _ _ _ (by omega) (hL.lin (by omega) q (by rw [if_neg (fun g => c258 g.2.1)])) (hX.mrk q) (TMt.mrk hX hM q) (fun s a b => by rw [hC s a b, q.2.2.2.2.2.2.1]) (Or.inl (by rw [q.1]; first | rfl | (unfold gLin; split <;> rfl))) hA (by omega)
                       | exact ih16 (k + 1) se o pa (li + 1) tu _ _ _ _ (by omega) (hL.lin (by omega) q (by rw [if_neg (fun g => by omega)])) (hX.mrk q) (TMt.mrk hX hM q) (fun s a b => by rw [hC s a b, q.2.2.2.2.2.2.1]) (Or.inl (by rw [q.1]; first | rfl | (unfold gLin; split <;> rfl))) hA (by omega))
                  | (have hbc : low (N 2 (k : Int)) = 44 ∨ low (N 2 (k : Int)) = 58 ∨ low (N 2 (k : Int)) = 59 := by
                       first
                         | exact Or.inl ((ch3 44 (by omega)).mp c275)
                         | exact Or.inr (Or.inr ((ch3 59 (by omega)).mp c282))
                         | exact Or.inr (Or.inl ((ch3 58 (by omega)).mp c289))
                     have q := st_com ht (S := SS t N k) (p := (k : Int)) hbc
                     rw [← hSs] at q
                     exact ih16 (k + 1) se o pa 0 tu _ _ _ _ (by omega) (hL.com (by omega) q) (hX.mrk q) (TMt.mrk hX hM q) (fun s a b => by rw [hC s a b, q.2.2.2.2.2.2.1]) (Or.inl (by rw [q.1]; first | rfl | (unfold gLin; split <;> rfl))) hA (by omega))
                  | (have q := st_blk ht (S := SS t N k) (p := (k : Int)) ((ch3 32 (by omega)).mp c302)
                     rw [← hSs] at q
                     exact ih16 (k + 1) se o pa li tu _ _ _ _ (by omega) (hL.blk q) (hX.mrk q) (TMt.mrk hX hM q) (fun s a b => by rw [hC s a b, q.2.2.2.2.2.2.1]) (Or.inl (by rw [q.1]; first | rfl | (unfold gLin; split <;> rfl))) hA (by omega))
              · skip
                refine s_aload_n C dX11_reads_215 rfl ?_
                refine s_iconst C dX11_reads_216 ?_
                refine s_iload C dX11_reads_217 rfl ?_
                refine s_callV2 C dX11_reads_219 cy_X11_wrong cv_X11_wrong lk_X11_189 (ct_X11_wrong E A 5 (k : Int) (by decide) (by omega)) (by decide) (by decide) (by first | decide | (decide)) rfl (Nat.le_of_ble_eq_true rfl) (k_I (fun z219 M219 q219 => ?_))
                obtain ⟨z219e, q219⟩ := q219
                subst z219e
                exact s_ireturn C dX11_reads_222 (⟨_, rfl, by
      subst q219
      have h3 := hL.2.1
      rw [if_pos c212] at h3
      have hf := st_f5 ht (S := SS t N k) (p := (k : Int)) h3 hbv
      rw [← hSs] at hf
      exact rd_fault hNn (k := k + 1) (by omega) (by decide) hf.1 hf.2 hA⟩)
            · skip
              refine s_iload C dX11_reads_204 rfl ?_
              refine s_bipush C dX11_reads_206 (by decide) ?_
              refine s_icmp_ne (tgt := 241) C dX11_reads_208 (by decide) (by omega) (by omega) (fun c208 => ?_) (fun c208 => ?_)
              · skip
                refine s_iload C dX11_reads_241 rfl ?_
                refine s_bipush C dX11_reads_243 (by decide) ?_
                refine s_icmp_ne (tgt := 271) C dX11_reads_245 (by decide) (by omega) (by omega) (fun c245 => ?_) (fun c245 => ?_)
                · skip
                  refine s_iload C dX11_reads_271 rfl ?_
                  refine s_bipush C dX11_reads_273 (by decide) ?_
                  refine s_icmp_eq (tgt := 292) C dX11_reads_275 (by decide) (by omega) (by omega) (fun c275 => ?_) (fun c275 => ?_)
                  · skip
                    refine s_iconst C dX11_reads_292 ?_
                    refine s_istore (lv' := [_, _, _, _, _, _, _, _, _, _, _]) C dX11_reads_293 (by decide) rfl rfl ?_
                    refine s_goto (tgt := 313) C dX11_reads_295 (by decide) ?_
                    refine s_iinc (lv' := [_, _, _, _, _, _, _, _, _, _, _]) C dX11_reads_313 rfl (by decide) rfl rfl rfl ?_
                    refine s_goto (tgt := 16) C dX11_reads_316 (by decide) ?_
                    rw [show (k : Int) + 1 = ((k + 1 : Nat) : Int) by omega]
                    first
                      | (have ho := c212
                         have h3 := hL.2.1
                         have h5 := hL.2.2.2.1 ho
                         rw [if_neg ho] at h3
                         have q := st_end ht (S := SS t N k) (p := (k : Int)) h3 hbv
                         rw [← hSs] at q
                         exact ih16 (k + 1) (se + 1) 0 pa 0 tu _ _ _ _ (by omega) (hL.endS ho (by omega) q) (hX.mrk q) ((TMt.mrk hX hM q).keep (by rw [mput_ne (by decide)]) (by rw [mput_ne (by decide)]) (by rw [mput_ne (by decide)])) (fun s a b => by
                           rw [q.2.2.2.2.2.2.1]
                           by_cases cs : s = se
                           · subst cs; rw [mput_eq]; exact h5.symm
                           · rw [mput_nk cs]; exact hC s a (by omega)) (Or.inl (by rw [q.1]; first | rfl | (unfold gLin; split <;> rfl))) (hA.put (by decide)) (by omega))
                      | (have q := st_lin ht (S := SS t N k) (p := (k : Int)) ((ch3 10 (by omega)).mp c245)
                         rw [← hSs] at q
                         first
                           | exact ih16 (k + 1) se o pa (li + 1) 1 _ _ _ _ (by omega) (hL.lin (by omega) q (by rw [if_pos ⟨by omega, c258, by omega⟩])) (hX.mrk q) (TMt.mrk hX hM q) (fun s a b => by rw [hC s a b, q.2.2.2.2.2.2.1]) (Or.inl (by rw [q.1]; first | rfl | (unfold gLin; split <;> rfl))) hA (by omega)
                           | exact ih16 (k + 1) se o pa (li + 1) tu _ _ _ _ (by omega) (hL.lin (by omega) q (by rw [if_neg (by omega)])) (hX.mrk q) (TMt.mrk hX hM q) (fun s a b => by rw [hC s a b, q.2.2.2.2.2.2.1]) (Or.inl (by rw [q.1]; first | rfl | (unfold gLin; split <;> rfl))) hA (by omega)
                           | exact ih16 (k + 1) se o pa (li + 1) tu _ _ _ _ (by omega) (hL.lin (by omega) q (by rw [if_neg (fun g => c258 g.2.1)])) (hX.mrk q) (TMt.mrk hX hM q) (fun s a b => by rw [hC s a b, q.2.2.2.2.2.2.1]) (Or.inl (by rw [q.1]; first | rfl | (unfold gLin; split <;> rfl))) hA (by omega)
                           | exact ih16 (k + 1) se o pa (li + 1) tu _ _ _ _ (by omega) (hL.lin (by omega) q (by rw [if_neg (fun g => by omega)])) (hX.mrk q) (TMt.mrk hX hM q) (fun s a b => by rw [hC s a b, q.2.2.2.2.2.2.1]) (Or.inl (by rw [q.1]; first | rfl | (unfold gLin; split <;> rfl))) hA (by omega))
                      | (have hbc : low (N 2 (k : Int)) = 44 ∨ low (N 2 (k : Int)) = 58 ∨ low (N 2 (k : Int)) = 59 := by
                           first
                             | exact Or.inl ((ch3 44 (by omega)).mp c275)
                             | exact Or.inr (Or.inr ((ch3 59 (by omega)).mp c282))
                             | exact Or.inr (Or.inl ((ch3 58 (by omega)).mp c289))
                         have q := st_com ht (S := SS t N k) (p := (k : Int)) hbc
                         rw [← hSs] at q
                         exact ih16 (k + 1) se o pa 0 tu _ _ _ _ (by omega) (hL.com (by omega) q) (hX.mrk q) (TMt.mrk hX hM q) (fun s a b => by rw [hC s a b, q.2.2.2.2.2.2.1]) (Or.inl (by rw [q.1]; first | rfl | (unfold gLin; split <;> rfl))) hA (by omega))
                      | (have q := st_blk ht (S := SS t N k) (p := (k : Int)) ((ch3 32 (by omega)).mp c302)
                         rw [← hSs] at q
                         exact ih16 (k + 1) se o pa li tu _ _ _ _ (by omega) (hL.blk q) (hX.mrk q) (TMt.mrk hX hM q) (fun s a b => by rw [hC s a b, q.2.2.2.2.2.2.1]) (Or.inl (by rw [q.1]; first | rfl | (unfold gLin; split <;> rfl))) hA (by omega))
                  · skip
                    refine s_iload C dX11_reads_278 rfl ?_
                    refine s_bipush C dX11_reads_280 (by decide) ?_
                    refine s_icmp_eq (tgt := 292) C dX11_reads_282 (by decide) (by omega) (by omega) (fun c282 => ?_) (fun c282 => ?_)
                    · skip
                      refine s_iconst C dX11_reads_292 ?_
                      refine s_istore (lv' := [_, _, _, _, _, _, _, _, _, _, _]) C dX11_reads_293 (by decide) rfl rfl ?_
                      refine s_goto (tgt := 313) C dX11_reads_295 (by decide) ?_
                      refine s_iinc (lv' := [_, _, _, _, _, _, _, _, _, _, _]) C dX11_reads_313 rfl (by decide) rfl rfl rfl ?_
                      refine s_goto (tgt := 16) C dX11_reads_316 (by decide) ?_
                      rw [show (k : Int) + 1 = ((k + 1 : Nat) : Int) by omega]
                      first
                        | (have ho := c212
                           have h3 := hL.2.1
                           have h5 := hL.2.2.2.1 ho
                           rw [if_neg ho] at h3
                           have q := st_end ht (S := SS t N k) (p := (k : Int)) h3 hbv
                           rw [← hSs] at q
                           exact ih16 (k + 1) (se + 1) 0 pa 0 tu _ _ _ _ (by omega) (hL.endS ho (by omega) q) (hX.mrk q) ((TMt.mrk hX hM q).keep (by rw [mput_ne (by decide)]) (by rw [mput_ne (by decide)]) (by rw [mput_ne (by decide)])) (fun s a b => by
                             rw [q.2.2.2.2.2.2.1]
                             by_cases cs : s = se
                             · subst cs; rw [mput_eq]; exact h5.symm
                             · rw [mput_nk cs]; exact hC s a (by omega)) (Or.inl (by rw [q.1]; first | rfl | (unfold gLin; split <;> rfl))) (hA.put (by decide)) (by omega))
                        | (have q := st_lin ht (S := SS t N k) (p := (k : Int)) ((ch3 10 (by omega)).mp c245)
                           rw [← hSs] at q
                           first
                             | exact ih16 (k + 1) se o pa (li + 1) 1 _ _ _ _ (by omega) (hL.lin (by omega) q (by rw [if_pos ⟨by omega, c258, by omega⟩])) (hX.mrk q) (TMt.mrk hX hM q) (fun s a b => by rw [hC s a b, q.2.2.2.2.2.2.1]) (Or.inl (by rw [q.1]; first | rfl | (unfold gLin; split <;> rfl))) hA (by omega)
                             | exact ih16 (k + 1) se o pa (li + 1) tu _ _ _ _ (by omega) (hL.lin (by omega) q (by rw [if_neg (by omega)])) (hX.mrk q) (TMt.mrk hX hM q) (fun s a b => by rw [hC s a b, q.2.2.2.2.2.2.1]) (Or.inl (by rw [q.1]; first | rfl | (unfold gLin; split <;> rfl))) hA (by omega)
                             | exact ih16 (k + 1) se o pa (li + 1) tu _ _ _ _ (by omega) (hL.lin (by omega) q (by rw [if_neg (fun g => c258 g.2.1)])) (hX.mrk q) (TMt.mrk hX hM q) (fun s a b => by rw [hC s a b, q.2.2.2.2.2.2.1]) (Or.inl (by rw [q.1]; first | rfl | (unfold gLin; split <;> rfl))) hA (by omega)
                             | exact ih16 (k + 1) se o pa (li + 1) tu _ _ _ _ (by omega) (hL.lin (by omega) q (by rw [if_neg (fun g => by omega)])) (hX.mrk q) (TMt.mrk hX hM q) (fun s a b => by rw [hC s a b, q.2.2.2.2.2.2.1]) (Or.inl (by rw [q.1]; first | rfl | (unfold gLin; split <;> rfl))) hA (by omega))
                        | (have hbc : low (N 2 (k : Int)) = 44 ∨ low (N 2 (k : Int)) = 58 ∨ low (N 2 (k : Int)) = 59 := by
                             first
                               | exact Or.inl ((ch3 44 (by omega)).mp c275)
                               | exact Or.inr (Or.inr ((ch3 59 (by omega)).mp c282))
                               | exact Or.inr (Or.inl ((ch3 58 (by omega)).mp c289))
                           have q := st_com ht (S := SS t N k) (p := (k : Int)) hbc
                           rw [← hSs] at q
                           exact ih16 (k + 1) se o pa 0 tu _ _ _ _ (by omega) (hL.com (by omega) q) (hX.mrk q) (TMt.mrk hX hM q) (fun s a b => by rw [hC s a b, q.2.2.2.2.2.2.1]) (Or.inl (by rw [q.1]; first | rfl | (unfold gLin; split <;> rfl))) hA (by omega))
                        | (have q := st_blk ht (S := SS t N k) (p := (k : Int)) ((ch3 32 (by omega)).mp c302)
                           rw [← hSs] at q
                           exact ih16 (k + 1) se o pa li tu _ _ _ _ (by omega) (hL.blk q) (hX.mrk q) (TMt.mrk hX hM q) (fun s a b => by rw [hC s a b, q.2.2.2.2.2.2.1]) (Or.inl (by rw [q.1]; first | rfl | (unfold gLin; split <;> rfl))) hA (by omega))
                    · skip
                      refine s_iload C dX11_reads_285 rfl ?_
                      refine s_bipush C dX11_reads_287 (by decide) ?_
                      refine s_icmp_ne (tgt := 298) C dX11_reads_289 (by decide) (by omega) (by omega) (fun c289 => ?_) (fun c289 => ?_)
                      · skip
                        refine s_iload C dX11_reads_298 rfl ?_
                        refine s_bipush C dX11_reads_300 (by decide) ?_
                        refine s_icmp_eq (tgt := 313) C dX11_reads_302 (by decide) (by omega) (by omega) (fun c302 => ?_) (fun c302 => ?_)
                        · skip
                          refine s_iinc (lv' := [_, _, _, _, _, _, _, _, _, _, _]) C dX11_reads_313 rfl (by decide) rfl rfl rfl ?_
                          refine s_goto (tgt := 16) C dX11_reads_316 (by decide) ?_
                          rw [show (k : Int) + 1 = ((k + 1 : Nat) : Int) by omega]
                          first
                            | (have ho := c212
                               have h3 := hL.2.1
                               have h5 := hL.2.2.2.1 ho
                               rw [if_neg ho] at h3
                               have q := st_end ht (S := SS t N k) (p := (k : Int)) h3 hbv
                               rw [← hSs] at q
                               exact ih16 (k + 1) (se + 1) 0 pa 0 tu _ _ _ _ (by omega) (hL.endS ho (by omega) q) (hX.mrk q) ((TMt.mrk hX hM q).keep (by rw [mput_ne (by decide)]) (by rw [mput_ne (by decide)]) (by rw [mput_ne (by decide)])) (fun s a b => by
                                 rw [q.2.2.2.2.2.2.1]
                                 by_cases cs : s = se
                                 · subst cs; rw [mput_eq]; exact h5.symm
                                 · rw [mput_nk cs]; exact hC s a (by omega)) (Or.inl (by rw [q.1]; first | rfl | (unfold gLin; split <;> rfl))) (hA.put (by decide)) (by omega))
                            | (have q := st_lin ht (S := SS t N k) (p := (k : Int)) ((ch3 10 (by omega)).mp c245)
                               rw [← hSs] at q
                               first
                                 | exact ih16 (k + 1) se o pa (li + 1) 1 _ _ _ _ (by omega) (hL.lin (by omega) q (by rw [if_pos ⟨by omega, c258, by omega⟩])) (hX.mrk q) (TMt.mrk hX hM q) (fun s a b => by rw [hC s a b, q.2.2.2.2.2.2.1]) (Or.inl (by rw [q.1]; first | rfl | (unfold gLin; split <;> rfl))) hA (by omega)
                                 | exact ih16 (k + 1) se o pa (li + 1) tu _ _ _ _ (by omega) (hL.lin (by omega) q (by rw [if_neg (by omega)])) (hX.mrk q) (TMt.mrk hX hM q) (fun s a b => by rw [hC s a b, q.2.2.2.2.2.2.1]) (Or.inl (by rw [q.1]; first | rfl | (unfold gLin; split <;> rfl))) hA (by omega)
                                 | exact ih16 (k + 1) se o pa (li + 1) tu _ _ _ _ (by omega) (hL.lin (by omega) q (by rw [if_neg (fun g => c258 g.2.1)])) (hX.mrk q) (TMt.mrk hX hM q) (fun s a b => by rw [hC s a b, q.2.2.2.2.2.2.1]) (Or.inl (by rw [q.1]; first | rfl | (unfold gLin; split <;> rfl))) hA (by omega)
                                 | exact ih16 (k + 1) se o pa (li + 1) tu _ _ _ _ (by omega) (hL.lin (by omega) q (by rw [if_neg (fun g => by omega)])) (hX.mrk q) (TMt.mrk hX hM q) (fun s a b => by rw [hC s a b, q.2.2.2.2.2.2.1]) (Or.inl (by rw [q.1]; first | rfl | (unfold gLin; split <;> rfl))) hA (by omega))
                            | (have hbc : low (N 2 (k : Int)) = 44 ∨ low (N 2 (k : Int)) = 58 ∨ low (N 2 (k : Int)) = 59 := by
                                 first
                                   | exact Or.inl ((ch3 44 (by omega)).mp c275)
                                   | exact Or.inr (Or.inr ((ch3 59 (by omega)).mp c282))
                                   | exact Or.inr (Or.inl ((ch3 58 (by omega)).mp c289))
                               have q := st_com ht (S := SS t N k) (p := (k : Int)) hbc
                               rw [← hSs] at q
                               exact ih16 (k + 1) se o pa 0 tu _ _ _ _ (by omega) (hL.com (by omega) q) (hX.mrk q) (TMt.mrk hX hM q) (fun s a b => by rw [hC s a b, q.2.2.2.2.2.2.1]) (Or.inl (by rw [q.1]; first | rfl | (unfold gLin; split <;> rfl))) hA (by omega))
                            | (have q := st_blk ht (S := SS t N k) (p := (k : Int)) ((ch3 32 (by omega)).mp c302)
                               rw [← hSs] at q
                               exact ih16 (k + 1) se o pa li tu _ _ _ _ (by omega) (hL.blk q) (hX.mrk q) (TMt.mrk hX hM q) (fun s a b => by rw [hC s a b, q.2.2.2.2.2.2.1]) (Or.inl (by rw [q.1]; first | rfl | (unfold gLin; split <;> rfl))) hA (by omega))
                        · skip
                          refine s_aload_n C dX11_reads_305 rfl ?_
                          refine s_iconst C dX11_reads_306 ?_
                          refine s_iload C dX11_reads_307 rfl ?_
                          refine s_callV2 C dX11_reads_309 cy_X11_wrong cv_X11_wrong lk_X11_189 (ct_X11_wrong E A 1 (k : Int) (by decide) (by omega)) (by decide) (by decide) (by first | decide | (decide)) rfl (Nat.le_of_ble_eq_true rfl) (k_I (fun z309 M309 q309 => ?_))
                          obtain ⟨z309e, q309⟩ := q309
                          subst z309e
                          exact s_ireturn C dX11_reads_312 (⟨_, rfl, by
      subst q309
      have hf := st_f1 ht (S := SS t N k) (p := (k : Int)) (b := low (N 2 (k : Int))) (fun g => q33.n c36 (ch1.mpr g)) (fun g => c302 ((ch3 32 (by omega)).mpr g)) (fun g => c245 ((ch3 10 (by omega)).mpr g)) (fun g => by rcases g with g | g | g; exact c275 ((ch3 44 (by omega)).mpr g); exact c289 ((ch3 58 (by omega)).mpr g); exact c282 ((ch3 59 (by omega)).mpr g)) (fun g => by rcases g with g | g | g; exact c194 ((ch3 46 (by omega)).mpr g); exact c201 ((ch3 33 (by omega)).mpr g); exact c208 ((ch3 63 (by omega)).mpr g))
      rw [← hSs] at hf
      exact rd_fault hNn (k := k + 1) (by omega) (by decide) hf.1 hf.2 hA⟩)
                      · skip
                        refine s_iconst C dX11_reads_292 ?_
                        refine s_istore (lv' := [_, _, _, _, _, _, _, _, _, _, _]) C dX11_reads_293 (by decide) rfl rfl ?_
                        refine s_goto (tgt := 313) C dX11_reads_295 (by decide) ?_
                        refine s_iinc (lv' := [_, _, _, _, _, _, _, _, _, _, _]) C dX11_reads_313 rfl (by decide) rfl rfl rfl ?_
                        refine s_goto (tgt := 16) C dX11_reads_316 (by decide) ?_
                        rw [show (k : Int) + 1 = ((k + 1 : Nat) : Int) by omega]
                        first
                          | (have ho := c212
                             have h3 := hL.2.1
                             have h5 := hL.2.2.2.1 ho
                             rw [if_neg ho] at h3
                             have q := st_end ht (S := SS t N k) (p := (k : Int)) h3 hbv
                             rw [← hSs] at q
                             exact ih16 (k + 1) (se + 1) 0 pa 0 tu _ _ _ _ (by omega) (hL.endS ho (by omega) q) (hX.mrk q) ((TMt.mrk hX hM q).keep (by rw [mput_ne (by decide)]) (by rw [mput_ne (by decide)]) (by rw [mput_ne (by decide)])) (fun s a b => by
                               rw [q.2.2.2.2.2.2.1]
                               by_cases cs : s = se
                               · subst cs; rw [mput_eq]; exact h5.symm
                               · rw [mput_nk cs]; exact hC s a (by omega)) (Or.inl (by rw [q.1]; first | rfl | (unfold gLin; split <;> rfl))) (hA.put (by decide)) (by omega))
                          | (have q := st_lin ht (S := SS t N k) (p := (k : Int)) ((ch3 10 (by omega)).mp c245)
                             rw [← hSs] at q
                             first
                               | exact ih16 (k + 1) se o pa (li + 1) 1 _ _ _ _ (by omega) (hL.lin (by omega) q (by rw [if_pos ⟨by omega, c258, by omega⟩])) (hX.mrk q) (TMt.mrk hX hM q) (fun s a b => by rw [hC s a b, q.2.2.2.2.2.2.1]) (Or.inl (by rw [q.1]; first | rfl | (unfold gLin; split <;> rfl))) hA (by omega)
                               | exact ih16 (k + 1) se o pa (li + 1) tu _ _ _ _ (by omega) (hL.lin (by omega) q (by rw [if_neg (by omega)])) (hX.mrk q) (TMt.mrk hX hM q) (fun s a b => by rw [hC s a b, q.2.2.2.2.2.2.1]) (Or.inl (by rw [q.1]; first | rfl | (unfold gLin; split <;> rfl))) hA (by omega)
                               | exact ih16 (k + 1) se o pa (li + 1) tu _ _ _ _ (by omega) (hL.lin (by omega) q (by rw [if_neg (fun g => c258 g.2.1)])) (hX.mrk q) (TMt.mrk hX hM q) (fun s a b => by rw [hC s a b, q.2.2.2.2.2.2.1]) (Or.inl (by rw [q.1]; first | rfl | (unfold gLin; split <;> rfl))) hA (by omega)
                               | exact ih16 (k + 1) se o pa (li + 1) tu _ _ _ _ (by omega) (hL.lin (by omega) q (by rw [if_neg (fun g => by omega)])) (hX.mrk q) (TMt.mrk hX hM q) (fun s a b => by rw [hC s a b, q.2.2.2.2.2.2.1]) (Or.inl (by rw [q.1]; first | rfl | (unfold gLin; split <;> rfl))) hA (by omega))
                          | (have hbc : low (N 2 (k : Int)) = 44 ∨ low (N 2 (k : Int)) = 58 ∨ low (N 2 (k : Int)) = 59 := by
                               first
                                 | exact Or.inl ((ch3 44 (by omega)).mp c275)
                                 | exact Or.inr (Or.inr ((ch3 59 (by omega)).mp c282))
                                 | exact Or.inr (Or.inl ((ch3 58 (by omega)).mp c289))
                             have q := st_com ht (S := SS t N k) (p := (k : Int)) hbc
                             rw [← hSs] at q
                             exact ih16 (k + 1) se o pa 0 tu _ _ _ _ (by omega) (hL.com (by omega) q) (hX.mrk q) (TMt.mrk hX hM q) (fun s a b => by rw [hC s a b, q.2.2.2.2.2.2.1]) (Or.inl (by rw [q.1]; first | rfl | (unfold gLin; split <;> rfl))) hA (by omega))
                          | (have q := st_blk ht (S := SS t N k) (p := (k : Int)) ((ch3 32 (by omega)).mp c302)
                             rw [← hSs] at q
                             exact ih16 (k + 1) se o pa li tu _ _ _ _ (by omega) (hL.blk q) (hX.mrk q) (TMt.mrk hX hM q) (fun s a b => by rw [hC s a b, q.2.2.2.2.2.2.1]) (Or.inl (by rw [q.1]; first | rfl | (unfold gLin; split <;> rfl))) hA (by omega))
                · skip
                  refine s_iinc (lv' := [_, _, _, _, _, _, _, _, _, _, _]) C dX11_reads_248 rfl (by decide) rfl rfl rfl ?_
                  refine s_iload C dX11_reads_251 rfl ?_
                  refine s_iconst C dX11_reads_253 ?_
                  refine s_icmp_lt (tgt := 313) C dX11_reads_254 (by decide) (by omega) (by omega) (fun c254 => ?_) (fun c254 => ?_)
                  · skip
                    refine s_iinc (lv' := [_, _, _, _, _, _, _, _, _, _, _]) C dX11_reads_313 rfl (by decide) rfl rfl rfl ?_
                    refine s_goto (tgt := 16) C dX11_reads_316 (by decide) ?_
                    rw [show (k : Int) + 1 = ((k + 1 : Nat) : Int) by omega]
                    first
                      | (have ho := c212
                         have h3 := hL.2.1
                         have h5 := hL.2.2.2.1 ho
                         rw [if_neg ho] at h3
                         have q := st_end ht (S := SS t N k) (p := (k : Int)) h3 hbv
                         rw [← hSs] at q
                         exact ih16 (k + 1) (se + 1) 0 pa 0 tu _ _ _ _ (by omega) (hL.endS ho (by omega) q) (hX.mrk q) ((TMt.mrk hX hM q).keep (by rw [mput_ne (by decide)]) (by rw [mput_ne (by decide)]) (by rw [mput_ne (by decide)])) (fun s a b => by
                           rw [q.2.2.2.2.2.2.1]
                           by_cases cs : s = se
                           · subst cs; rw [mput_eq]; exact h5.symm
                           · rw [mput_nk cs]; exact hC s a (by omega)) (Or.inl (by rw [q.1]; first | rfl | (unfold gLin; split <;> rfl))) (hA.put (by decide)) (by omega))
                      | (have q := st_lin ht (S := SS t N k) (p := (k : Int)) ((ch3 10 (by omega)).mp c245)
                         rw [← hSs] at q
                         first
                           | exact ih16 (k + 1) se o pa (li + 1) 1 _ _ _ _ (by omega) (hL.lin (by omega) q (by rw [if_pos ⟨by omega, c258, by omega⟩])) (hX.mrk q) (TMt.mrk hX hM q) (fun s a b => by rw [hC s a b, q.2.2.2.2.2.2.1]) (Or.inl (by rw [q.1]; first | rfl | (unfold gLin; split <;> rfl))) hA (by omega)
                           | exact ih16 (k + 1) se o pa (li + 1) tu _ _ _ _ (by omega) (hL.lin (by omega) q (by rw [if_neg (by omega)])) (hX.mrk q) (TMt.mrk hX hM q) (fun s a b => by rw [hC s a b, q.2.2.2.2.2.2.1]) (Or.inl (by rw [q.1]; first | rfl | (unfold gLin; split <;> rfl))) hA (by omega)
                           | exact ih16 (k + 1) se o pa (li + 1) tu _ _ _ _ (by omega) (hL.lin (by omega) q (by rw [if_neg (fun g => c258 g.2.1)])) (hX.mrk q) (TMt.mrk hX hM q) (fun s a b => by rw [hC s a b, q.2.2.2.2.2.2.1]) (Or.inl (by rw [q.1]; first | rfl | (unfold gLin; split <;> rfl))) hA (by omega)
                           | exact ih16 (k + 1) se o pa (li + 1) tu _ _ _ _ (by omega) (hL.lin (by omega) q (by rw [if_neg (fun g => by omega)])) (hX.mrk q) (TMt.mrk hX hM q) (fun s a b => by rw [hC s a b, q.2.2.2.2.2.2.1]) (Or.inl (by rw [q.1]; first | rfl | (unfold gLin; split <;> rfl))) hA (by omega))
                      | (have hbc : low (N 2 (k : Int)) = 44 ∨ low (N 2 (k : Int)) = 58 ∨ low (N 2 (k : Int)) = 59 := by
                           first
                             | exact Or.inl ((ch3 44 (by omega)).mp c275)
                             | exact Or.inr (Or.inr ((ch3 59 (by omega)).mp c282))
                             | exact Or.inr (Or.inl ((ch3 58 (by omega)).mp c289))
                         have q := st_com ht (S := SS t N k) (p := (k : Int)) hbc
                         rw [← hSs] at q
                         exact ih16 (k + 1) se o pa 0 tu _ _ _ _ (by omega) (hL.com (by omega) q) (hX.mrk q) (TMt.mrk hX hM q) (fun s a b => by rw [hC s a b, q.2.2.2.2.2.2.1]) (Or.inl (by rw [q.1]; first | rfl | (unfold gLin; split <;> rfl))) hA (by omega))
                      | (have q := st_blk ht (S := SS t N k) (p := (k : Int)) ((ch3 32 (by omega)).mp c302)
                         rw [← hSs] at q
                         exact ih16 (k + 1) se o pa li tu _ _ _ _ (by omega) (hL.blk q) (hX.mrk q) (TMt.mrk hX hM q) (fun s a b => by rw [hC s a b, q.2.2.2.2.2.2.1]) (Or.inl (by rw [q.1]; first | rfl | (unfold gLin; split <;> rfl))) hA (by omega))
                  · skip
                    refine s_iload_n C dX11_reads_257 rfl ?_
                    refine s_if_ne (tgt := 313) C dX11_reads_258 (by decide) (by omega) (fun c258 => ?_) (fun c258 => ?_)
                    · skip
                      refine s_iinc (lv' := [_, _, _, _, _, _, _, _, _, _, _]) C dX11_reads_313 rfl (by decide) rfl rfl rfl ?_
                      refine s_goto (tgt := 16) C dX11_reads_316 (by decide) ?_
                      rw [show (k : Int) + 1 = ((k + 1 : Nat) : Int) by omega]
                      first
                        | (have ho := c212
                           have h3 := hL.2.1
                           have h5 := hL.2.2.2.1 ho
                           rw [if_neg ho] at h3
                           have q := st_end ht (S := SS t N k) (p := (k : Int)) h3 hbv
                           rw [← hSs] at q
                           exact ih16 (k + 1) (se + 1) 0 pa 0 tu _ _ _ _ (by omega) (hL.endS ho (by omega) q) (hX.mrk q) ((TMt.mrk hX hM q).keep (by rw [mput_ne (by decide)]) (by rw [mput_ne (by decide)]) (by rw [mput_ne (by decide)])) (fun s a b => by
                             rw [q.2.2.2.2.2.2.1]
                             by_cases cs : s = se
                             · subst cs; rw [mput_eq]; exact h5.symm
                             · rw [mput_nk cs]; exact hC s a (by omega)) (Or.inl (by rw [q.1]; first | rfl | (unfold gLin; split <;> rfl))) (hA.put (by decide)) (by omega))
                        | (have q := st_lin ht (S := SS t N k) (p := (k : Int)) ((ch3 10 (by omega)).mp c245)
                           rw [← hSs] at q
                           first
                             | exact ih16 (k + 1) se o pa (li + 1) 1 _ _ _ _ (by omega) (hL.lin (by omega) q (by rw [if_pos ⟨by omega, c258, by omega⟩])) (hX.mrk q) (TMt.mrk hX hM q) (fun s a b => by rw [hC s a b, q.2.2.2.2.2.2.1]) (Or.inl (by rw [q.1]; first | rfl | (unfold gLin; split <;> rfl))) hA (by omega)
                             | exact ih16 (k + 1) se o pa (li + 1) tu _ _ _ _ (by omega) (hL.lin (by omega) q (by rw [if_neg (by omega)])) (hX.mrk q) (TMt.mrk hX hM q) (fun s a b => by rw [hC s a b, q.2.2.2.2.2.2.1]) (Or.inl (by rw [q.1]; first | rfl | (unfold gLin; split <;> rfl))) hA (by omega)
                             | exact ih16 (k + 1) se o pa (li + 1) tu _ _ _ _ (by omega) (hL.lin (by omega) q (by rw [if_neg (fun g => c258 g.2.1)])) (hX.mrk q) (TMt.mrk hX hM q) (fun s a b => by rw [hC s a b, q.2.2.2.2.2.2.1]) (Or.inl (by rw [q.1]; first | rfl | (unfold gLin; split <;> rfl))) hA (by omega)
                             | exact ih16 (k + 1) se o pa (li + 1) tu _ _ _ _ (by omega) (hL.lin (by omega) q (by rw [if_neg (fun g => by omega)])) (hX.mrk q) (TMt.mrk hX hM q) (fun s a b => by rw [hC s a b, q.2.2.2.2.2.2.1]) (Or.inl (by rw [q.1]; first | rfl | (unfold gLin; split <;> rfl))) hA (by omega))
                        | (have hbc : low (N 2 (k : Int)) = 44 ∨ low (N 2 (k : Int)) = 58 ∨ low (N 2 (k : Int)) = 59 := by
                             first
                               | exact Or.inl ((ch3 44 (by omega)).mp c275)
                               | exact Or.inr (Or.inr ((ch3 59 (by omega)).mp c282))
                               | exact Or.inr (Or.inl ((ch3 58 (by omega)).mp c289))
                           have q := st_com ht (S := SS t N k) (p := (k : Int)) hbc
                           rw [← hSs] at q
                           exact ih16 (k + 1) se o pa 0 tu _ _ _ _ (by omega) (hL.com (by omega) q) (hX.mrk q) (TMt.mrk hX hM q) (fun s a b => by rw [hC s a b, q.2.2.2.2.2.2.1]) (Or.inl (by rw [q.1]; first | rfl | (unfold gLin; split <;> rfl))) hA (by omega))
                        | (have q := st_blk ht (S := SS t N k) (p := (k : Int)) ((ch3 32 (by omega)).mp c302)
                           rw [← hSs] at q
                           exact ih16 (k + 1) se o pa li tu _ _ _ _ (by omega) (hL.blk q) (hX.mrk q) (TMt.mrk hX hM q) (fun s a b => by rw [hC s a b, q.2.2.2.2.2.2.1]) (Or.inl (by rw [q.1]; first | rfl | (unfold gLin; split <;> rfl))) hA (by omega))
                    · skip
                      refine s_iload_n C dX11_reads_261 rfl ?_
                      refine s_if_le (tgt := 313) C dX11_reads_262 (by decide) (by omega) (fun c262 => ?_) (fun c262 => ?_)
                      · skip
                        refine s_iinc (lv' := [_, _, _, _, _, _, _, _, _, _, _]) C dX11_reads_313 rfl (by decide) rfl rfl rfl ?_
                        refine s_goto (tgt := 16) C dX11_reads_316 (by decide) ?_
                        rw [show (k : Int) + 1 = ((k + 1 : Nat) : Int) by omega]
                        first
                          | (have ho := c212
                             have h3 := hL.2.1
                             have h5 := hL.2.2.2.1 ho
                             rw [if_neg ho] at h3
                             have q := st_end ht (S := SS t N k) (p := (k : Int)) h3 hbv
                             rw [← hSs] at q
                             exact ih16 (k + 1) (se + 1) 0 pa 0 tu _ _ _ _ (by omega) (hL.endS ho (by omega) q) (hX.mrk q) ((TMt.mrk hX hM q).keep (by rw [mput_ne (by decide)]) (by rw [mput_ne (by decide)]) (by rw [mput_ne (by decide)])) (fun s a b => by
                               rw [q.2.2.2.2.2.2.1]
                               by_cases cs : s = se
                               · subst cs; rw [mput_eq]; exact h5.symm
                               · rw [mput_nk cs]; exact hC s a (by omega)) (Or.inl (by rw [q.1]; first | rfl | (unfold gLin; split <;> rfl))) (hA.put (by decide)) (by omega))
                          | (have q := st_lin ht (S := SS t N k) (p := (k : Int)) ((ch3 10 (by omega)).mp c245)
                             rw [← hSs] at q
                             first
                               | exact ih16 (k + 1) se o pa (li + 1) 1 _ _ _ _ (by omega) (hL.lin (by omega) q (by rw [if_pos ⟨by omega, c258, by omega⟩])) (hX.mrk q) (TMt.mrk hX hM q) (fun s a b => by rw [hC s a b, q.2.2.2.2.2.2.1]) (Or.inl (by rw [q.1]; first | rfl | (unfold gLin; split <;> rfl))) hA (by omega)
                               | exact ih16 (k + 1) se o pa (li + 1) tu _ _ _ _ (by omega) (hL.lin (by omega) q (by rw [if_neg (by omega)])) (hX.mrk q) (TMt.mrk hX hM q) (fun s a b => by rw [hC s a b, q.2.2.2.2.2.2.1]) (Or.inl (by rw [q.1]; first | rfl | (unfold gLin; split <;> rfl))) hA (by omega)
                               | exact ih16 (k + 1) se o pa (li + 1) tu _ _ _ _ (by omega) (hL.lin (by omega) q (by rw [if_neg (fun g => c258 g.2.1)])) (hX.mrk q) (TMt.mrk hX hM q) (fun s a b => by rw [hC s a b, q.2.2.2.2.2.2.1]) (Or.inl (by rw [q.1]; first | rfl | (unfold gLin; split <;> rfl))) hA (by omega)
                               | exact ih16 (k + 1) se o pa (li + 1) tu _ _ _ _ (by omega) (hL.lin (by omega) q (by rw [if_neg (fun g => by omega)])) (hX.mrk q) (TMt.mrk hX hM q) (fun s a b => by rw [hC s a b, q.2.2.2.2.2.2.1]) (Or.inl (by rw [q.1]; first | rfl | (unfold gLin; split <;> rfl))) hA (by omega))
                          | (have hbc : low (N 2 (k : Int)) = 44 ∨ low (N 2 (k : Int)) = 58 ∨ low (N 2 (k : Int)) = 59 := by
                               first
                                 | exact Or.inl ((ch3 44 (by omega)).mp c275)
                                 | exact Or.inr (Or.inr ((ch3 59 (by omega)).mp c282))
                                 | exact Or.inr (Or.inl ((ch3 58 (by omega)).mp c289))
                             have q := st_com ht (S := SS t N k) (p := (k : Int)) hbc
                             rw [← hSs] at q
                             exact ih16 (k + 1) se o pa 0 tu _ _ _ _ (by omega) (hL.com (by omega) q) (hX.mrk q) (TMt.mrk hX hM q) (fun s a b => by rw [hC s a b, q.2.2.2.2.2.2.1]) (Or.inl (by rw [q.1]; first | rfl | (unfold gLin; split <;> rfl))) hA (by omega))
                          | (have q := st_blk ht (S := SS t N k) (p := (k : Int)) ((ch3 32 (by omega)).mp c302)
                             rw [← hSs] at q
                             exact ih16 (k + 1) se o pa li tu _ _ _ _ (by omega) (hL.blk q) (hX.mrk q) (TMt.mrk hX hM q) (fun s a b => by rw [hC s a b, q.2.2.2.2.2.2.1]) (Or.inl (by rw [q.1]; first | rfl | (unfold gLin; split <;> rfl))) hA (by omega))
                      · skip
                        refine s_iconst C dX11_reads_265 ?_
                        refine s_istore (lv' := [_, _, _, _, _, _, _, _, _, _, _]) C dX11_reads_266 (by decide) rfl rfl ?_
                        refine s_goto (tgt := 313) C dX11_reads_268 (by decide) ?_
                        refine s_iinc (lv' := [_, _, _, _, _, _, _, _, _, _, _]) C dX11_reads_313 rfl (by decide) rfl rfl rfl ?_
                        refine s_goto (tgt := 16) C dX11_reads_316 (by decide) ?_
                        rw [show (k : Int) + 1 = ((k + 1 : Nat) : Int) by omega]
                        first
                          | (have ho := c212
                             have h3 := hL.2.1
                             have h5 := hL.2.2.2.1 ho
                             rw [if_neg ho] at h3
                             have q := st_end ht (S := SS t N k) (p := (k : Int)) h3 hbv
                             rw [← hSs] at q
                             exact ih16 (k + 1) (se + 1) 0 pa 0 tu _ _ _ _ (by omega) (hL.endS ho (by omega) q) (hX.mrk q) ((TMt.mrk hX hM q).keep (by rw [mput_ne (by decide)]) (by rw [mput_ne (by decide)]) (by rw [mput_ne (by decide)])) (fun s a b => by
                               rw [q.2.2.2.2.2.2.1]
                               by_cases cs : s = se
                               · subst cs; rw [mput_eq]; exact h5.symm
                               · rw [mput_nk cs]; exact hC s a (by omega)) (Or.inl (by rw [q.1]; first | rfl | (unfold gLin; split <;> rfl))) (hA.put (by decide)) (by omega))
                          | (have q := st_lin ht (S := SS t N k) (p := (k : Int)) ((ch3 10 (by omega)).mp c245)
                             rw [← hSs] at q
                             first
                               | exact ih16 (k + 1) se o pa (li + 1) 1 _ _ _ _ (by omega) (hL.lin (by omega) q (by rw [if_pos ⟨by omega, c258, by omega⟩])) (hX.mrk q) (TMt.mrk hX hM q) (fun s a b => by rw [hC s a b, q.2.2.2.2.2.2.1]) (Or.inl (by rw [q.1]; first | rfl | (unfold gLin; split <;> rfl))) hA (by omega)
                               | exact ih16 (k + 1) se o pa (li + 1) tu _ _ _ _ (by omega) (hL.lin (by omega) q (by rw [if_neg (by omega)])) (hX.mrk q) (TMt.mrk hX hM q) (fun s a b => by rw [hC s a b, q.2.2.2.2.2.2.1]) (Or.inl (by rw [q.1]; first | rfl | (unfold gLin; split <;> rfl))) hA (by omega)
                               | exact ih16 (k + 1) se o pa (li + 1) tu _ _ _ _ (by omega) (hL.lin (by omega) q (by rw [if_neg (fun g => c258 g.2.1)])) (hX.mrk q) (TMt.mrk hX hM q) (fun s a b => by rw [hC s a b, q.2.2.2.2.2.2.1]) (Or.inl (by rw [q.1]; first | rfl | (unfold gLin; split <;> rfl))) hA (by omega)
                               | exact ih16 (k + 1) se o pa (li + 1) tu _ _ _ _ (by omega) (hL.lin (by omega) q (by rw [if_neg (fun g => by omega)])) (hX.mrk q) (TMt.mrk hX hM q) (fun s a b => by rw [hC s a b, q.2.2.2.2.2.2.1]) (Or.inl (by rw [q.1]; first | rfl | (unfold gLin; split <;> rfl))) hA (by omega))
                          | (have hbc : low (N 2 (k : Int)) = 44 ∨ low (N 2 (k : Int)) = 58 ∨ low (N 2 (k : Int)) = 59 := by
                               first
                                 | exact Or.inl ((ch3 44 (by omega)).mp c275)
                                 | exact Or.inr (Or.inr ((ch3 59 (by omega)).mp c282))
                                 | exact Or.inr (Or.inl ((ch3 58 (by omega)).mp c289))
                             have q := st_com ht (S := SS t N k) (p := (k : Int)) hbc
                             rw [← hSs] at q
                             exact ih16 (k + 1) se o pa 0 tu _ _ _ _ (by omega) (hL.com (by omega) q) (hX.mrk q) (TMt.mrk hX hM q) (fun s a b => by rw [hC s a b, q.2.2.2.2.2.2.1]) (Or.inl (by rw [q.1]; first | rfl | (unfold gLin; split <;> rfl))) hA (by omega))
                          | (have q := st_blk ht (S := SS t N k) (p := (k : Int)) ((ch3 32 (by omega)).mp c302)
                             rw [← hSs] at q
                             exact ih16 (k + 1) se o pa li tu _ _ _ _ (by omega) (hL.blk q) (hX.mrk q) (TMt.mrk hX hM q) (fun s a b => by rw [hC s a b, q.2.2.2.2.2.2.1]) (Or.inl (by rw [q.1]; first | rfl | (unfold gLin; split <;> rfl))) hA (by omega))
              · skip
                have hbv : low (N 2 (k : Int)) = 46 ∨ low (N 2 (k : Int)) = 33 ∨ low (N 2 (k : Int)) = 63 := by
                  first
                    | exact Or.inl ((ch3 46 (by omega)).mp c194)
                    | exact Or.inr (Or.inl ((ch3 33 (by omega)).mp c201))
                    | exact Or.inr (Or.inr ((ch3 63 (by omega)).mp c208))
                refine s_iload_n C dX11_reads_211 rfl ?_
                refine s_if_ne (tgt := 223) C dX11_reads_212 (by decide) (by omega) (fun c212 => ?_) (fun c212 => ?_)
                · skip
                  refine s_aload_n C dX11_reads_223 rfl ?_
                  refine s_getr (k := 20) (b := 82) C dX11_reads_224 fl_X11_56 (by decide) rfl (by decide) rfl ?_
                  refine s_iload_n C dX11_reads_227 rfl ?_
                  refine s_iload_n C dX11_reads_228 rfl ?_
                  refine s_iastore (n := 24) C dX11_reads_229 (by decide) rfl rfl (by have := hN.2.2.2.2.2 c212; omega) (by have := hN.2.2.2.2.2 c212; omega) (by have := hN.2.2.2.2.2 c212; omega) (by omega) ?_
                  refine s_iinc (lv' := [_, _, _, _, _, _, _, _, _, _, _]) C dX11_reads_230 rfl (by decide) rfl rfl rfl ?_
                  refine s_iconst C dX11_reads_233 ?_
                  refine s_istore_n (lv' := [_, _, _, _, _, _, _, _, _, _, _]) C dX11_reads_234 (by decide) rfl rfl ?_
                  refine s_iconst C dX11_reads_235 ?_
                  refine s_istore (lv' := [_, _, _, _, _, _, _, _, _, _, _]) C dX11_reads_236 (by decide) rfl rfl ?_
                  refine s_goto (tgt := 313) C dX11_reads_238 (by decide) ?_
                  refine s_iinc (lv' := [_, _, _, _, _, _, _, _, _, _, _]) C dX11_reads_313 rfl (by decide) rfl rfl rfl ?_
                  refine s_goto (tgt := 16) C dX11_reads_316 (by decide) ?_
                  rw [show (k : Int) + 1 = ((k + 1 : Nat) : Int) by omega]
                  first
                    | (have ho := c212
                       have h3 := hL.2.1
                       have h5 := hL.2.2.2.1 ho
                       rw [if_neg ho] at h3
                       have q := st_end ht (S := SS t N k) (p := (k : Int)) h3 hbv
                       rw [← hSs] at q
                       exact ih16 (k + 1) (se + 1) 0 pa 0 tu _ _ _ _ (by omega) (hL.endS ho (by omega) q) (hX.mrk q) ((TMt.mrk hX hM q).keep (by rw [mput_ne (by decide)]) (by rw [mput_ne (by decide)]) (by rw [mput_ne (by decide)])) (fun s a b => by
                         rw [q.2.2.2.2.2.2.1]
                         by_cases cs : s = se
                         · subst cs; rw [mput_eq]; exact h5.symm
                         · rw [mput_nk cs]; exact hC s a (by omega)) (Or.inl (by rw [q.1]; first | rfl | (unfold gLin; split <;> rfl))) (hA.put (by decide)) (by omega))
                    | (have q := st_lin ht (S := SS t N k) (p := (k : Int)) ((ch3 10 (by omega)).mp c245)
                       rw [← hSs] at q
                       first
                         | exact ih16 (k + 1) se o pa (li + 1) 1 _ _ _ _ (by omega) (hL.lin (by omega) q (by rw [if_pos ⟨by omega, c258, by omega⟩])) (hX.mrk q) (TMt.mrk hX hM q) (fun s a b => by rw [hC s a b, q.2.2.2.2.2.2.1]) (Or.inl (by rw [q.1]; first | rfl | (unfold gLin; split <;> rfl))) hA (by omega)
                         | exact ih16 (k + 1) se o pa (li + 1) tu _ _ _ _ (by omega) (hL.lin (by omega) q (by rw [if_neg (by omega)])) (hX.mrk q) (TMt.mrk hX hM q) (fun s a b => by rw [hC s a b, q.2.2.2.2.2.2.1]) (Or.inl (by rw [q.1]; first | rfl | (unfold gLin; split <;> rfl))) hA (by omega)
                         | exact ih16 (k + 1) se o pa (li + 1) tu _ _ _ _ (by omega) (hL.lin (by omega) q (by rw [if_neg (fun g => c258 g.2.1)])) (hX.mrk q) (TMt.mrk hX hM q) (fun s a b => by rw [hC s a b, q.2.2.2.2.2.2.1]) (Or.inl (by rw [q.1]; first | rfl | (unfold gLin; split <;> rfl))) hA (by omega)
                         | exact ih16 (k + 1) se o pa (li + 1) tu _ _ _ _ (by omega) (hL.lin (by omega) q (by rw [if_neg (fun g => by omega)])) (hX.mrk q) (TMt.mrk hX hM q) (fun s a b => by rw [hC s a b, q.2.2.2.2.2.2.1]) (Or.inl (by rw [q.1]; first | rfl | (unfold gLin; split <;> rfl))) hA (by omega))
                    | (have hbc : low (N 2 (k : Int)) = 44 ∨ low (N 2 (k : Int)) = 58 ∨ low (N 2 (k : Int)) = 59 := by
                         first
                           | exact Or.inl ((ch3 44 (by omega)).mp c275)
                           | exact Or.inr (Or.inr ((ch3 59 (by omega)).mp c282))
                           | exact Or.inr (Or.inl ((ch3 58 (by omega)).mp c289))
                       have q := st_com ht (S := SS t N k) (p := (k : Int)) hbc
                       rw [← hSs] at q
                       exact ih16 (k + 1) se o pa 0 tu _ _ _ _ (by omega) (hL.com (by omega) q) (hX.mrk q) (TMt.mrk hX hM q) (fun s a b => by rw [hC s a b, q.2.2.2.2.2.2.1]) (Or.inl (by rw [q.1]; first | rfl | (unfold gLin; split <;> rfl))) hA (by omega))
                    | (have q := st_blk ht (S := SS t N k) (p := (k : Int)) ((ch3 32 (by omega)).mp c302)
                       rw [← hSs] at q
                       exact ih16 (k + 1) se o pa li tu _ _ _ _ (by omega) (hL.blk q) (hX.mrk q) (TMt.mrk hX hM q) (fun s a b => by rw [hC s a b, q.2.2.2.2.2.2.1]) (Or.inl (by rw [q.1]; first | rfl | (unfold gLin; split <;> rfl))) hA (by omega))
                · skip
                  refine s_aload_n C dX11_reads_215 rfl ?_
                  refine s_iconst C dX11_reads_216 ?_
                  refine s_iload C dX11_reads_217 rfl ?_
                  refine s_callV2 C dX11_reads_219 cy_X11_wrong cv_X11_wrong lk_X11_189 (ct_X11_wrong E A 5 (k : Int) (by decide) (by omega)) (by decide) (by decide) (by first | decide | (decide)) rfl (Nat.le_of_ble_eq_true rfl) (k_I (fun z219 M219 q219 => ?_))
                  obtain ⟨z219e, q219⟩ := q219
                  subst z219e
                  exact s_ireturn C dX11_reads_222 (⟨_, rfl, by
      subst q219
      have h3 := hL.2.1
      rw [if_pos c212] at h3
      have hf := st_f5 ht (S := SS t N k) (p := (k : Int)) h3 hbv
      rw [← hSs] at hf
      exact rd_fault hNn (k := k + 1) (by omega) (by decide) hf.1 hf.2 hA⟩)
        · skip
          refine s_iload_n C dX11_reads_39 rfl ?_
          refine s_if_ne (tgt := 57) C dX11_reads_40 (by decide) (by omega) (fun c40 => ?_) (fun c40 => ?_)
          · skip
            refine s_iload_n C dX11_reads_57 rfl ?_
            refine s_bipush C dX11_reads_58 (by decide) ?_
            refine s_icmp_ne (tgt := 71) C dX11_reads_60 (by decide) (by omega) (by omega) (fun c60 => ?_) (fun c60 => ?_)
            · skip
              refine s_iload_n C dX11_reads_71 rfl ?_
              refine s_if_ne (tgt := 94) C dX11_reads_72 (by decide) (by omega) (fun c72 => ?_) (fun c72 => ?_)
              · skip
                refine s_bipush C dX11_reads_94 (by decide) ?_
                refine s_iload_n C dX11_reads_96 rfl ?_
                refine s_imul C dX11_reads_97 ?_
                refine s_iload_n C dX11_reads_98 rfl ?_
                refine s_iadd C dX11_reads_99 ?_
                refine s_istore (lv' := [_, _, _, _, _, _, _, _, _, _, _]) C dX11_reads_100 (by decide) rfl rfl ?_
                refine s_iconst C dX11_reads_102 ?_
                refine s_istore (lv' := [_, _, _, _, _, _, _, _, _, _, _]) C dX11_reads_103 (by decide) rfl rfl ?_
                refine s_iload C dX11_reads_105 rfl ?_
                refine s_iload_n C dX11_reads_107 rfl ?_
                refine s_icmp_ge (tgt := 172) C dX11_reads_108 (by decide) (by omega) (by omega) (fun c108 => ?_) (fun c108 => ?_)
                · skip
                  have hbds : (0 ≤ se ∧ se < 24) ∧ (0 ≤ o ∧ o < 40) := by
                    first
                      | exact ⟨hI9, hI8⟩
                      | omega
                  refine s_aload_n C dX11_reads_172 rfl ?_
                  refine s_getr (k := 19) (b := 81) C dX11_reads_173 fl_X11_53 (by decide) rfl (by decide) rfl ?_
                  refine s_iload C dX11_reads_176 rfl ?_
                  refine s_iload C dX11_reads_178 rfl ?_
                  refine s_iastore (n := 960) C dX11_reads_180 (by decide) rfl rfl (by omega) (by omega) (by omega) (by first | omega | decide) ?_
                  refine s_iinc (lv' := [_, _, _, _, _, _, _, _, _, _, _]) C dX11_reads_181 rfl (by decide) rfl rfl rfl ?_
                  refine s_iconst C dX11_reads_184 ?_
                  refine s_istore (lv' := [_, _, _, _, _, _, _, _, _, _, _]) C dX11_reads_185 (by decide) rfl rfl ?_
                  refine s_goto (tgt := 16) C dX11_reads_187 (by decide) ?_
                  first
                    | (have h5 := hI.2.2.2.1
                       have h3 := hI.2.2.2.2.1
                       exact ih16 k2 se (o + 1) pa2 0 0 _ _ _ _ (by omega) (hI.out (by omega)) hX2 (hM2.done hX2 (by omega) (by rw [mput_ne (by decide)]) (by rw [mput_ne (by decide)]) (fun x => by rw [mput_at, h3, show SS t N k2 t 7 - 1 = se by omega, h5, show o + 1 - 1 = o by omega])) (fun s a b => by rw [mput_ne (by decide)]; exact hC2 s a b) (Or.inr ⟨hI.2.1.1, fun hlt => by
                         first
                           | (exfalso; omega)
                           | (have g := q118.n c121
                              rw [b67] at g
                              exact g)⟩) (hA2.put (by decide)) (by omega))
                    | (exfalso; omega)
                    | (exfalso
                       have g := q118.n c121
                       first
                         | (rw [a67] at g; exact g (q33.y c36))
                         | (rw [mput_ne (by decide), a67] at g; exact g (q33.y c36)))
                · skip
                  refine s_aload_n C dX11_reads_111 rfl ?_
                  refine s_getr (k := 0) (b := 67) C dX11_reads_112 fl_X11_7 (by decide) rfl (by decide) rfl ?_
                  refine s_iload C dX11_reads_115 rfl ?_
                  refine s_baload (n := 3000) C dX11_reads_117 (by decide) rfl rfl (by omega) (by omega) (by omega) (rfl) (fun r117 => ?_)
                  refine s_callS1 C dX11_reads_118 cy_X11_isOfWord cs_X11_isOfWord lk_X11_143 (ct_X11_isOfWord E _ _ (by omega)) (by decide) (Nat.le_of_ble_eq_true rfl) (k_P (fun z118 q118 => ?_))
                  refine s_if_eq (tgt := 172) C dX11_reads_121 (by decide) (by have := q118.b; omega) (fun c121 => ?_) (fun c121 => ?_)
                  · skip
                    have hbds : (0 ≤ se ∧ se < 24) ∧ (0 ≤ o ∧ o < 40) := by
                      first
                        | exact ⟨hI9, hI8⟩
                        | omega
                    refine s_aload_n C dX11_reads_172 rfl ?_
                    refine s_getr (k := 19) (b := 81) C dX11_reads_173 fl_X11_53 (by decide) rfl (by decide) rfl ?_
                    refine s_iload C dX11_reads_176 rfl ?_
                    refine s_iload C dX11_reads_178 rfl ?_
                    refine s_iastore (n := 960) C dX11_reads_180 (by decide) rfl rfl (by omega) (by omega) (by omega) (by first | omega | decide) ?_
                    refine s_iinc (lv' := [_, _, _, _, _, _, _, _, _, _, _]) C dX11_reads_181 rfl (by decide) rfl rfl rfl ?_
                    refine s_iconst C dX11_reads_184 ?_
                    refine s_istore (lv' := [_, _, _, _, _, _, _, _, _, _, _]) C dX11_reads_185 (by decide) rfl rfl ?_
                    refine s_goto (tgt := 16) C dX11_reads_187 (by decide) ?_
                    first
                      | (have h5 := hI.2.2.2.1
                         have h3 := hI.2.2.2.2.1
                         exact ih16 k2 se (o + 1) pa2 0 0 _ _ _ _ (by omega) (hI.out (by omega)) hX2 (hM2.done hX2 (by omega) (by rw [mput_ne (by decide)]) (by rw [mput_ne (by decide)]) (fun x => by rw [mput_at, h3, show SS t N k2 t 7 - 1 = se by omega, h5, show o + 1 - 1 = o by omega])) (fun s a b => by rw [mput_ne (by decide)]; exact hC2 s a b) (Or.inr ⟨hI.2.1.1, fun hlt => by
                           first
                             | (exfalso; omega)
                             | (have g := q118.n c121
                                rw [b67] at g
                                exact g)⟩) (hA2.put (by decide)) (by omega))
                      | (exfalso; omega)
                      | (exfalso
                         have g := q118.n c121
                         first
                           | (rw [a67] at g; exact g (q33.y c36))
                           | (rw [mput_ne (by decide), a67] at g; exact g (q33.y c36)))
                  · skip
                    refine s_iload C dX11_reads_124 rfl ?_
                    refine s_bipush C dX11_reads_126 (by decide) ?_
                    refine s_icmp_ne (tgt := 139) C dX11_reads_128 (by decide) (by omega) (by omega) (fun c128 => ?_) (fun c128 => ?_)
                    · skip
                      have hbds : (0 ≤ se ∧ se < 24) ∧ (0 ≤ o ∧ o < 40) := by
                        first
                          | exact ⟨hI9, hI8⟩
                          | omega
                      refine s_aload_n C dX11_reads_139 rfl ?_
                      refine s_getr (k := 18) (b := 80) C dX11_reads_140 fl_X11_50 (by decide) rfl (by decide) rfl ?_
                      refine s_bipush C dX11_reads_143 (by decide) ?_
                      refine s_iload C dX11_reads_145 rfl ?_
                      refine s_imul C dX11_reads_147 ?_
                      refine s_iload C dX11_reads_148 rfl ?_
                      refine s_iadd C dX11_reads_150 ?_
                      refine s_aload_n C dX11_reads_151 rfl ?_
                      refine s_getr (k := 0) (b := 67) C dX11_reads_152 fl_X11_7 (by decide) rfl (by decide) rfl ?_
                      refine s_iload C dX11_reads_155 rfl ?_
                      refine s_baload (n := 3000) C dX11_reads_157 (by decide) rfl rfl (by omega) (by omega) (by omega) (rfl) (fun r157 => ?_)
                      refine s_callS1 C dX11_reads_158 cy_X11_small cs_X11_small lk_X11_147 (ct_X11_small E _ _ (by omega)) (by decide) (Nat.le_of_ble_eq_true rfl) (k_P (fun z158 q158 => ?_))
                      refine s_i2b C dX11_reads_161 ?_
                      refine s_bastore (n := 15360) C dX11_reads_162 (by decide) rfl rfl (by omega) (by omega) (by omega) (by have := zb_rg z158; omega) (by have := zb_rg z158; omega) ?_
                      refine s_iinc (lv' := [_, _, _, _, _, _, _, _, _, _, _]) C dX11_reads_163 rfl (by decide) rfl rfl rfl ?_
                      refine s_iinc (lv' := [_, _, _, _, _, _, _, _, _, _, _]) C dX11_reads_166 rfl (by decide) rfl rfl rfl ?_
                      first
                        | (have hof := q118.y c121
                           rw [b67] at hof q158
                           have hb2 := (hTp (k2 : Int) (by omega) (by omega))
                           obtain ⟨dh1, dh2, dh3⟩ := chr hb2.1
                           rw [← hb2.2] at dh1 dh2
                           have hSs2 := SS_s ht hI1 (k := k2)
                           have hz : zb z158 = low (N 2 (k2 : Int)) := by rw [q158, zb_id (low_b (by omega)), dh2 hof]
                           have h3 := hI.2.2.2.2.1
                           have hst := st_letter ht (S := SS t N k2) (p := (k2 : Int)) (b := low (N 2 (k2 : Int))) hI.2.1.1 (by omega) (dh1.mp hof)
                           rw [← hSs2] at hst
                           have hpos := hI.2.2.2.2.2.1
                           have h5 := hI.2.2.2.1
                           rw [hz, show (k2 : Int) + 1 = ((k2 + 1 : Nat) : Int) by omega]
                           exact ih169 (k2 + 1) (sz + 1) pa2 _ _ _ (by omega) (hI.ltr c128 hst) (hX2.ltr hI2.2 (by omega) (by omega) hst).1 (hM2.ltr hX2 (by omega) (by omega) (by omega) hst (by rw [mput_ne (by decide)]) (by rw [mput_ne (by decide)]) (fun x => by rw [mput_at, show 16 * (40 * (SS t N k2 t 7 - 1) + (SS t N k2 (t + 5) (SS t N k2 t 7 - 1) - 1)) + SS t N k2 (t + 3) (SS t N k2 t 6 - 1) = 16 * (40 * se + o) + sz from by rw [show SS t N k2 t 7 - 1 = se by omega, h5, h3]; omega])) (fun s a b => by rw [mput_ne (by decide), hC2 s a b, hst.2.2.2.2.2.2.1]) (hA2.put (by decide)) (by omega))
                        | (have hof := q33.y c36
                           have ho := c72
                           obtain ⟨t0, s24⟩ := hN.2.2.2.2.2 ho
                           rw [a67] at q158
                           have hz : zb z158 = low (N 2 (k : Int)) := by rw [q158, zb_id (low_b (by omega)), ch2 hof]
                           have h3 := hL.2.1
                           have h7 := hL.2.2.1
                           have h5 := hL.2.2.2.1 ho
                           rw [if_neg ho] at h3 h7
                           have hst := st_word ht (S := SS t N k) (p := (k : Int)) (b := low (N 2 (k : Int))) h00 (by rcases hw with g | ⟨_, g⟩; exact g; exact absurd (q33.y c36) (g (by omega))) h3 (by rw [show SS t N k t 7 - 1 = se by omega, h5]; omega) (ch1.mp hof)
                           rw [← hSs] at hst
                           have hlast := (hX.2.2.2.1 se (by omega) (by omega)).2.2.2 (by omega)
                           have hfw := hX.2.2.2.2
                           have h6le : SS t N k t 6 < 40 * SS t N k t 7 := by have := LR_words hX (by omega); rw [show SS t N k t 7 - 1 = se by omega, h5] at this; omega
                           subst t0
                           rw [hz, show (k : Int) + 1 = ((k + 1 : Nat) : Int) by omega]
                           exact L169 _ (k + 1) 1 pa _ _ _ (by omega) (hL.word hX ho (by omega) hst) (hX.wrd (by omega) (by omega) (by rw [show SS t N k t 7 - 1 = se by omega, h5]; omega) h6le hst) (by rw [hst.2.1.1, show SS t N k t 6 + 1 - 1 = SS t N k t 6 by omega]; exact hM.wrd hX (by omega) hst (by rw [mput_ne (by decide)]) (by rw [mput_ne (by decide)]) (by rw [show SS t N k t 7 - 1 = se by omega, h5]; omega) (fun x => by rw [mput_at, show SS t N k t 7 - 1 = se by omega, h5])) (fun s a b => by rw [mput_ne (by decide), hC s a b, hst.2.2.2.2.2.2.1, if_neg (by omega)]) (hA.put (by decide)) (Nat.lt_succ_self _))
                        | (have hof := q33.y c36
                           have ho := c72
                           subst ho
                           rw [mput_ne (by decide), a67] at q158
                           have hz : zb z158 = low (N 2 (k : Int)) := by rw [q158, zb_id (low_b (by omega)), ch2 hof]
                           have h3 := hL.2.1
                           have h7 := hL.2.2.1
                           rw [if_pos rfl] at h3 h7
                           have hst := st_first ht (S := SS t N k) (p := (k : Int)) (b := low (N 2 (k : Int))) h00 (by rcases hw with g | ⟨_, g⟩; exact g; exact absurd (q33.y c36) (g (by omega))) h3 (by omega) (ch1.mp hof)
                           rw [← hSs] at hst
                           have hI0 := hL.first hX (by omega) hst
                           have hpa : (if SS t N k 16 5 = 0 then SS t N k 16 6 else SS t N k 16 6 + 1) = (if tu = 0 then pa else pa + 1) := by rw [hL.2.2.2.2.1.1, hL.2.2.2.2.1.2]
                           rw [hpa] at hst
                           rw [hz, show (k : Int) + 1 = ((k + 1 : Nat) : Int) by omega]
                           have key : ∀ pv, pv = (if tu = 0 then pa else pa + 1) → TMt t (SS t N (k + 1)) (mput (mput A 83 se pv) 80 (16 * (40 * se + 0) + 0) (low (N 2 (k : Int)))) (SS t N (k + 1) t 6 - 1) := fun pv hpv => by
                             rw [hst.2.1.1, show SS t N k t 6 + 1 - 1 = SS t N k t 6 by omega]
                             exact hM.fst hX (by omega) hst (by rw [mput_ne (by decide), mput_ne (by decide)]) (fun x => by rw [mput_at, mput_ne (by decide), h7]) (fun x => by rw [mput_ne (by decide), mput_at, h7, hpv])
                           first
                             | (rw [if_pos c77] at hI0 key
                                exact L169 _ (k + 1) 1 pa _ _ _ (by omega) hI0 (hX.fst (by omega) (by omega) hst) (key pa rfl) (fun s a b => by rw [mput_ne (by decide), mput_ne (by decide), hC s a b, hst.2.2.2.2.2.2.1, if_neg (by omega)]) ((hA.put (by decide)).put (by decide)) (Nat.lt_succ_self _))
                             | (rw [if_neg c77] at hI0 key
                                exact L169 _ (k + 1) 1 (pa + 1) _ _ _ (by omega) hI0 (hX.fst (by omega) (by omega) hst) (key (pa + 1) rfl) (fun s a b => by rw [mput_ne (by decide), mput_ne (by decide), hC s a b, hst.2.2.2.2.2.2.1, if_neg (by omega)]) ((hA.put (by decide)).put (by decide)) (Nat.lt_succ_self _)))
                    · skip
                      refine s_aload_n C dX11_reads_131 rfl ?_
                      refine s_iconst C dX11_reads_132 ?_
                      refine s_iload C dX11_reads_133 rfl ?_
                      refine s_callV2 C dX11_reads_135 cy_X11_wrong cv_X11_wrong lk_X11_189 (ct_X11_wrong E _ 2 _ (by decide) (by omega)) (by decide) (by decide) (by first | decide | (decide)) rfl (Nat.le_of_ble_eq_true rfl) (k_I (fun z135 M135 q135 => ?_))
                      obtain ⟨z135e, q135⟩ := q135
                      subst z135e
                      exact s_ireturn C dX11_reads_138 (⟨_, rfl, by
      first
        | (exfalso; omega)
        | (subst q135
           have hb2 := (hTp (k2 : Int) (by omega) (by omega))
           obtain ⟨dh1, dh2, dh3⟩ := chr hb2.1
           rw [← hb2.2] at dh1
           have hSs2 := SS_s ht hI1 (k := k2)
           have hof := q118.y c121
           rw [b67] at hof
           have hf := st_f2 ht (S := SS t N k2) (p := (k2 : Int)) (b := low (N 2 (k2 : Int))) hI.2.1.1 (by have := hI.2.2.2.2.1; omega) (dh1.mp hof)
           rw [← hSs2] at hf
           exact rd_fault hNn (k := k2 + 1) (by omega) (by decide) hf.1 hf.2 hA2)⟩)
              · skip
                refine s_iload C dX11_reads_75 rfl ?_
                refine s_if_eq (tgt := 83) C dX11_reads_77 (by decide) (by omega) (fun c77 => ?_) (fun c77 => ?_)
                · skip
                  refine s_iconst C dX11_reads_83 ?_
                  refine s_istore (lv' := [_, _, _, _, _, _, _, _, _, _, _]) C dX11_reads_84 (by decide) rfl rfl ?_
                  refine s_aload_n C dX11_reads_86 rfl ?_
                  refine s_getr (k := 21) (b := 83) C dX11_reads_87 fl_X11_59 (by decide) rfl (by decide) rfl ?_
                  refine s_iload_n C dX11_reads_90 rfl ?_
                  refine s_iload C dX11_reads_91 rfl ?_
                  refine s_iastore (n := 24) C dX11_reads_93 (by decide) rfl rfl (by omega) (by omega) (by omega) (by omega) ?_
                  refine s_bipush C dX11_reads_94 (by decide) ?_
                  refine s_iload_n C dX11_reads_96 rfl ?_
                  refine s_imul C dX11_reads_97 ?_
                  refine s_iload_n C dX11_reads_98 rfl ?_
                  refine s_iadd C dX11_reads_99 ?_
                  refine s_istore (lv' := [_, _, _, _, _, _, _, _, _, _, _]) C dX11_reads_100 (by decide) rfl rfl ?_
                  refine s_iconst C dX11_reads_102 ?_
                  refine s_istore (lv' := [_, _, _, _, _, _, _, _, _, _, _]) C dX11_reads_103 (by decide) rfl rfl ?_
                  refine s_iload C dX11_reads_105 rfl ?_
                  refine s_iload_n C dX11_reads_107 rfl ?_
                  refine s_icmp_ge (tgt := 172) C dX11_reads_108 (by decide) (by omega) (by omega) (fun c108 => ?_) (fun c108 => ?_)
                  · skip
                    have hbds : (0 ≤ se ∧ se < 24) ∧ (0 ≤ o ∧ o < 40) := by
                      first
                        | exact ⟨hI9, hI8⟩
                        | omega
                    refine s_aload_n C dX11_reads_172 rfl ?_
                    refine s_getr (k := 19) (b := 81) C dX11_reads_173 fl_X11_53 (by decide) rfl (by decide) rfl ?_
                    refine s_iload C dX11_reads_176 rfl ?_
                    refine s_iload C dX11_reads_178 rfl ?_
                    refine s_iastore (n := 960) C dX11_reads_180 (by decide) rfl rfl (by omega) (by omega) (by omega) (by first | omega | decide) ?_
                    refine s_iinc (lv' := [_, _, _, _, _, _, _, _, _, _, _]) C dX11_reads_181 rfl (by decide) rfl rfl rfl ?_
                    refine s_iconst C dX11_reads_184 ?_
                    refine s_istore (lv' := [_, _, _, _, _, _, _, _, _, _, _]) C dX11_reads_185 (by decide) rfl rfl ?_
                    refine s_goto (tgt := 16) C dX11_reads_187 (by decide) ?_
                    first
                      | (have h5 := hI.2.2.2.1
                         have h3 := hI.2.2.2.2.1
                         exact ih16 k2 se (o + 1) pa2 0 0 _ _ _ _ (by omega) (hI.out (by omega)) hX2 (hM2.done hX2 (by omega) (by rw [mput_ne (by decide)]) (by rw [mput_ne (by decide)]) (fun x => by rw [mput_at, h3, show SS t N k2 t 7 - 1 = se by omega, h5, show o + 1 - 1 = o by omega])) (fun s a b => by rw [mput_ne (by decide)]; exact hC2 s a b) (Or.inr ⟨hI.2.1.1, fun hlt => by
                           first
                             | (exfalso; omega)
                             | (have g := q118.n c121
                                rw [b67] at g
                                exact g)⟩) (hA2.put (by decide)) (by omega))
                      | (exfalso; omega)
                      | (exfalso
                         have g := q118.n c121
                         first
                           | (rw [a67] at g; exact g (q33.y c36))
                           | (rw [mput_ne (by decide), a67] at g; exact g (q33.y c36)))
                  · skip
                    refine s_aload_n C dX11_reads_111 rfl ?_
                    refine s_getr (k := 0) (b := 67) C dX11_reads_112 fl_X11_7 (by decide) rfl (by decide) rfl ?_
                    refine s_iload C dX11_reads_115 rfl ?_
                    refine s_baload (n := 3000) C dX11_reads_117 (by decide) rfl rfl (by omega) (by omega) (by omega) (rfl) (fun r117 => ?_)
                    refine s_callS1 C dX11_reads_118 cy_X11_isOfWord cs_X11_isOfWord lk_X11_143 (ct_X11_isOfWord E _ _ (by omega)) (by decide) (Nat.le_of_ble_eq_true rfl) (k_P (fun z118 q118 => ?_))
                    refine s_if_eq (tgt := 172) C dX11_reads_121 (by decide) (by have := q118.b; omega) (fun c121 => ?_) (fun c121 => ?_)
                    · skip
                      have hbds : (0 ≤ se ∧ se < 24) ∧ (0 ≤ o ∧ o < 40) := by
                        first
                          | exact ⟨hI9, hI8⟩
                          | omega
                      refine s_aload_n C dX11_reads_172 rfl ?_
                      refine s_getr (k := 19) (b := 81) C dX11_reads_173 fl_X11_53 (by decide) rfl (by decide) rfl ?_
                      refine s_iload C dX11_reads_176 rfl ?_
                      refine s_iload C dX11_reads_178 rfl ?_
                      refine s_iastore (n := 960) C dX11_reads_180 (by decide) rfl rfl (by omega) (by omega) (by omega) (by first | omega | decide) ?_
                      refine s_iinc (lv' := [_, _, _, _, _, _, _, _, _, _, _]) C dX11_reads_181 rfl (by decide) rfl rfl rfl ?_
                      refine s_iconst C dX11_reads_184 ?_
                      refine s_istore (lv' := [_, _, _, _, _, _, _, _, _, _, _]) C dX11_reads_185 (by decide) rfl rfl ?_
                      refine s_goto (tgt := 16) C dX11_reads_187 (by decide) ?_
                      first
                        | (have h5 := hI.2.2.2.1
                           have h3 := hI.2.2.2.2.1
                           exact ih16 k2 se (o + 1) pa2 0 0 _ _ _ _ (by omega) (hI.out (by omega)) hX2 (hM2.done hX2 (by omega) (by rw [mput_ne (by decide)]) (by rw [mput_ne (by decide)]) (fun x => by rw [mput_at, h3, show SS t N k2 t 7 - 1 = se by omega, h5, show o + 1 - 1 = o by omega])) (fun s a b => by rw [mput_ne (by decide)]; exact hC2 s a b) (Or.inr ⟨hI.2.1.1, fun hlt => by
                             first
                               | (exfalso; omega)
                               | (have g := q118.n c121
                                  rw [b67] at g
                                  exact g)⟩) (hA2.put (by decide)) (by omega))
                        | (exfalso; omega)
                        | (exfalso
                           have g := q118.n c121
                           first
                             | (rw [a67] at g; exact g (q33.y c36))
                             | (rw [mput_ne (by decide), a67] at g; exact g (q33.y c36)))
                    · skip
                      refine s_iload C dX11_reads_124 rfl ?_
                      refine s_bipush C dX11_reads_126 (by decide) ?_
                      refine s_icmp_ne (tgt := 139) C dX11_reads_128 (by decide) (by omega) (by omega) (fun c128 => ?_) (fun c128 => ?_)
                      · skip
                        have hbds : (0 ≤ se ∧ se < 24) ∧ (0 ≤ o ∧ o < 40) := by
                          first
                            | exact ⟨hI9, hI8⟩
                            | omega
                        refine s_aload_n C dX11_reads_139 rfl ?_
                        refine s_getr (k := 18) (b := 80) C dX11_reads_140 fl_X11_50 (by decide) rfl (by decide) rfl ?_
                        refine s_bipush C dX11_reads_143 (by decide) ?_
                        refine s_iload C dX11_reads_145 rfl ?_
                        refine s_imul C dX11_reads_147 ?_
                        refine s_iload C dX11_reads_148 rfl ?_
                        refine s_iadd C dX11_reads_150 ?_
                        refine s_aload_n C dX11_reads_151 rfl ?_
                        refine s_getr (k := 0) (b := 67) C dX11_reads_152 fl_X11_7 (by decide) rfl (by decide) rfl ?_
                        refine s_iload C dX11_reads_155 rfl ?_
                        refine s_baload (n := 3000) C dX11_reads_157 (by decide) rfl rfl (by omega) (by omega) (by omega) (rfl) (fun r157 => ?_)
                        refine s_callS1 C dX11_reads_158 cy_X11_small cs_X11_small lk_X11_147 (ct_X11_small E _ _ (by omega)) (by decide) (Nat.le_of_ble_eq_true rfl) (k_P (fun z158 q158 => ?_))
                        refine s_i2b C dX11_reads_161 ?_
                        refine s_bastore (n := 15360) C dX11_reads_162 (by decide) rfl rfl (by omega) (by omega) (by omega) (by have := zb_rg z158; omega) (by have := zb_rg z158; omega) ?_
                        refine s_iinc (lv' := [_, _, _, _, _, _, _, _, _, _, _]) C dX11_reads_163 rfl (by decide) rfl rfl rfl ?_
                        refine s_iinc (lv' := [_, _, _, _, _, _, _, _, _, _, _]) C dX11_reads_166 rfl (by decide) rfl rfl rfl ?_
                        first
                          | (have hof := q118.y c121
                             rw [b67] at hof q158
                             have hb2 := (hTp (k2 : Int) (by omega) (by omega))
                             obtain ⟨dh1, dh2, dh3⟩ := chr hb2.1
                             rw [← hb2.2] at dh1 dh2
                             have hSs2 := SS_s ht hI1 (k := k2)
                             have hz : zb z158 = low (N 2 (k2 : Int)) := by rw [q158, zb_id (low_b (by omega)), dh2 hof]
                             have h3 := hI.2.2.2.2.1
                             have hst := st_letter ht (S := SS t N k2) (p := (k2 : Int)) (b := low (N 2 (k2 : Int))) hI.2.1.1 (by omega) (dh1.mp hof)
                             rw [← hSs2] at hst
                             have hpos := hI.2.2.2.2.2.1
                             have h5 := hI.2.2.2.1
                             rw [hz, show (k2 : Int) + 1 = ((k2 + 1 : Nat) : Int) by omega]
                             exact ih169 (k2 + 1) (sz + 1) pa2 _ _ _ (by omega) (hI.ltr c128 hst) (hX2.ltr hI2.2 (by omega) (by omega) hst).1 (hM2.ltr hX2 (by omega) (by omega) (by omega) hst (by rw [mput_ne (by decide)]) (by rw [mput_ne (by decide)]) (fun x => by rw [mput_at, show 16 * (40 * (SS t N k2 t 7 - 1) + (SS t N k2 (t + 5) (SS t N k2 t 7 - 1) - 1)) + SS t N k2 (t + 3) (SS t N k2 t 6 - 1) = 16 * (40 * se + o) + sz from by rw [show SS t N k2 t 7 - 1 = se by omega, h5, h3]; omega])) (fun s a b => by rw [mput_ne (by decide), hC2 s a b, hst.2.2.2.2.2.2.1]) (hA2.put (by decide)) (by omega))
                          | (have hof := q33.y c36
                             have ho := c72
                             obtain ⟨t0, s24⟩ := hN.2.2.2.2.2 ho
                             rw [a67] at q158
                             have hz : zb z158 = low (N 2 (k : Int)) := by rw [q158, zb_id (low_b (by omega)), ch2 hof]
                             have h3 := hL.2.1
                             have h7 := hL.2.2.1
                             have h5 := hL.2.2.2.1 ho
                             rw [if_neg ho] at h3 h7
                             have hst := st_word ht (S := SS t N k) (p := (k : Int)) (b := low (N 2 (k : Int))) h00 (by rcases hw with g | ⟨_, g⟩; exact g; exact absurd (q33.y c36) (g (by omega))) h3 (by rw [show SS t N k t 7 - 1 = se by omega, h5]; omega) (ch1.mp hof)
                             rw [← hSs] at hst
                             have hlast := (hX.2.2.2.1 se (by omega) (by omega)).2.2.2 (by omega)
                             have hfw := hX.2.2.2.2
                             have h6le : SS t N k t 6 < 40 * SS t N k t 7 := by have := LR_words hX (by omega); rw [show SS t N k t 7 - 1 = se by omega, h5] at this; omega
                             subst t0
                             rw [hz, show (k : Int) + 1 = ((k + 1 : Nat) : Int) by omega]
                             exact L169 _ (k + 1) 1 pa _ _ _ (by omega) (hL.word hX ho (by omega) hst) (hX.wrd (by omega) (by omega) (by rw [show SS t N k t 7 - 1 = se by omega, h5]; omega) h6le hst) (by rw [hst.2.1.1, show SS t N k t 6 + 1 - 1 = SS t N k t 6 by omega]; exact hM.wrd hX (by omega) hst (by rw [mput_ne (by decide)]) (by rw [mput_ne (by decide)]) (by rw [show SS t N k t 7 - 1 = se by omega, h5]; omega) (fun x => by rw [mput_at, show SS t N k t 7 - 1 = se by omega, h5])) (fun s a b => by rw [mput_ne (by decide), hC s a b, hst.2.2.2.2.2.2.1, if_neg (by omega)]) (hA.put (by decide)) (Nat.lt_succ_self _))
                          | (have hof := q33.y c36
                             have ho := c72
                             subst ho
                             rw [mput_ne (by decide), a67] at q158
                             have hz : zb z158 = low (N 2 (k : Int)) := by rw [q158, zb_id (low_b (by omega)), ch2 hof]
                             have h3 := hL.2.1
                             have h7 := hL.2.2.1
                             rw [if_pos rfl] at h3 h7
                             have hst := st_first ht (S := SS t N k) (p := (k : Int)) (b := low (N 2 (k : Int))) h00 (by rcases hw with g | ⟨_, g⟩; exact g; exact absurd (q33.y c36) (g (by omega))) h3 (by omega) (ch1.mp hof)
                             rw [← hSs] at hst
                             have hI0 := hL.first hX (by omega) hst
                             have hpa : (if SS t N k 16 5 = 0 then SS t N k 16 6 else SS t N k 16 6 + 1) = (if tu = 0 then pa else pa + 1) := by rw [hL.2.2.2.2.1.1, hL.2.2.2.2.1.2]
                             rw [hpa] at hst
                             rw [hz, show (k : Int) + 1 = ((k + 1 : Nat) : Int) by omega]
                             have key : ∀ pv, pv = (if tu = 0 then pa else pa + 1) → TMt t (SS t N (k + 1)) (mput (mput A 83 se pv) 80 (16 * (40 * se + 0) + 0) (low (N 2 (k : Int)))) (SS t N (k + 1) t 6 - 1) := fun pv hpv => by
                               rw [hst.2.1.1, show SS t N k t 6 + 1 - 1 = SS t N k t 6 by omega]
                               exact hM.fst hX (by omega) hst (by rw [mput_ne (by decide), mput_ne (by decide)]) (fun x => by rw [mput_at, mput_ne (by decide), h7]) (fun x => by rw [mput_ne (by decide), mput_at, h7, hpv])
                             first
                               | (rw [if_pos c77] at hI0 key
                                  exact L169 _ (k + 1) 1 pa _ _ _ (by omega) hI0 (hX.fst (by omega) (by omega) hst) (key pa rfl) (fun s a b => by rw [mput_ne (by decide), mput_ne (by decide), hC s a b, hst.2.2.2.2.2.2.1, if_neg (by omega)]) ((hA.put (by decide)).put (by decide)) (Nat.lt_succ_self _))
                               | (rw [if_neg c77] at hI0 key
                                  exact L169 _ (k + 1) 1 (pa + 1) _ _ _ (by omega) hI0 (hX.fst (by omega) (by omega) hst) (key (pa + 1) rfl) (fun s a b => by rw [mput_ne (by decide), mput_ne (by decide), hC s a b, hst.2.2.2.2.2.2.1, if_neg (by omega)]) ((hA.put (by decide)).put (by decide)) (Nat.lt_succ_self _)))
                      · skip
                        refine s_aload_n C dX11_reads_131 rfl ?_
                        refine s_iconst C dX11_reads_132 ?_
                        refine s_iload C dX11_reads_133 rfl ?_
                        refine s_callV2 C dX11_reads_135 cy_X11_wrong cv_X11_wrong lk_X11_189 (ct_X11_wrong E _ 2 _ (by decide) (by omega)) (by decide) (by decide) (by first | decide | (decide)) rfl (Nat.le_of_ble_eq_true rfl) (k_I (fun z135 M135 q135 => ?_))
                        obtain ⟨z135e, q135⟩ := q135
                        subst z135e
                        exact s_ireturn C dX11_reads_138 (⟨_, rfl, by
      first
        | (exfalso; omega)
        | (subst q135
           have hb2 := (hTp (k2 : Int) (by omega) (by omega))
           obtain ⟨dh1, dh2, dh3⟩ := chr hb2.1
           rw [← hb2.2] at dh1
           have hSs2 := SS_s ht hI1 (k := k2)
           have hof := q118.y c121
           rw [b67] at hof
           have hf := st_f2 ht (S := SS t N k2) (p := (k2 : Int)) (b := low (N 2 (k2 : Int))) hI.2.1.1 (by have := hI.2.2.2.2.1; omega) (dh1.mp hof)
           rw [← hSs2] at hf
           exact rd_fault hNn (k := k2 + 1) (by omega) (by decide) hf.1 hf.2 hA2)⟩)
                · skip
                  refine s_iinc (lv' := [_, _, _, _, _, _, _, _, _, _, _]) C dX11_reads_80 rfl (by decide) rfl rfl rfl ?_
                  refine s_iconst C dX11_reads_83 ?_
                  refine s_istore (lv' := [_, _, _, _, _, _, _, _, _, _, _]) C dX11_reads_84 (by decide) rfl rfl ?_
                  refine s_aload_n C dX11_reads_86 rfl ?_
                  refine s_getr (k := 21) (b := 83) C dX11_reads_87 fl_X11_59 (by decide) rfl (by decide) rfl ?_
                  refine s_iload_n C dX11_reads_90 rfl ?_
                  refine s_iload C dX11_reads_91 rfl ?_
                  refine s_iastore (n := 24) C dX11_reads_93 (by decide) rfl rfl (by omega) (by omega) (by omega) (by omega) ?_
                  refine s_bipush C dX11_reads_94 (by decide) ?_
                  refine s_iload_n C dX11_reads_96 rfl ?_
                  refine s_imul C dX11_reads_97 ?_
                  refine s_iload_n C dX11_reads_98 rfl ?_
                  refine s_iadd C dX11_reads_99 ?_
                  refine s_istore (lv' := [_, _, _, _, _, _, _, _, _, _, _]) C dX11_reads_100 (by decide) rfl rfl ?_
                  refine s_iconst C dX11_reads_102 ?_
                  refine s_istore (lv' := [_, _, _, _, _, _, _, _, _, _, _]) C dX11_reads_103 (by decide) rfl rfl ?_
                  refine s_iload C dX11_reads_105 rfl ?_
                  refine s_iload_n C dX11_reads_107 rfl ?_
                  refine s_icmp_ge (tgt := 172) C dX11_reads_108 (by decide) (by omega) (by omega) (fun c108 => ?_) (fun c108 => ?_)
                  · skip
                    have hbds : (0 ≤ se ∧ se < 24) ∧ (0 ≤ o ∧ o < 40) := by
                      first
                        | exact ⟨hI9, hI8⟩
                        | omega
                    refine s_aload_n C dX11_reads_172 rfl ?_
                    refine s_getr (k := 19) (b := 81) C dX11_reads_173 fl_X11_53 (by decide) rfl (by decide) rfl ?_
                    refine s_iload C dX11_reads_176 rfl ?_
                    refine s_iload C dX11_reads_178 rfl ?_
                    refine s_iastore (n := 960) C dX11_reads_180 (by decide) rfl rfl (by omega) (by omega) (by omega) (by first | omega | decide) ?_
                    refine s_iinc (lv' := [_, _, _, _, _, _, _, _, _, _, _]) C dX11_reads_181 rfl (by decide) rfl rfl rfl ?_
                    refine s_iconst C dX11_reads_184 ?_
                    refine s_istore (lv' := [_, _, _, _, _, _, _, _, _, _, _]) C dX11_reads_185 (by decide) rfl rfl ?_
                    refine s_goto (tgt := 16) C dX11_reads_187 (by decide) ?_
                    first
                      | (have h5 := hI.2.2.2.1
                         have h3 := hI.2.2.2.2.1
                         exact ih16 k2 se (o + 1) pa2 0 0 _ _ _ _ (by omega) (hI.out (by omega)) hX2 (hM2.done hX2 (by omega) (by rw [mput_ne (by decide)]) (by rw [mput_ne (by decide)]) (fun x => by rw [mput_at, h3, show SS t N k2 t 7 - 1 = se by omega, h5, show o + 1 - 1 = o by omega])) (fun s a b => by rw [mput_ne (by decide)]; exact hC2 s a b) (Or.inr ⟨hI.2.1.1, fun hlt => by
                           first
                             | (exfalso; omega)
                             | (have g := q118.n c121
                                rw [b67] at g
                                exact g)⟩) (hA2.put (by decide)) (by omega))
                      | (exfalso; omega)
                      | (exfalso
                         have g := q118.n c121
                         first
                           | (rw [a67] at g; exact g (q33.y c36))
                           | (rw [mput_ne (by decide), a67] at g; exact g (q33.y c36)))
                  · skip
                    refine s_aload_n C dX11_reads_111 rfl ?_
                    refine s_getr (k := 0) (b := 67) C dX11_reads_112 fl_X11_7 (by decide) rfl (by decide) rfl ?_
                    refine s_iload C dX11_reads_115 rfl ?_
                    refine s_baload (n := 3000) C dX11_reads_117 (by decide) rfl rfl (by omega) (by omega) (by omega) (rfl) (fun r117 => ?_)
                    refine s_callS1 C dX11_reads_118 cy_X11_isOfWord cs_X11_isOfWord lk_X11_143 (ct_X11_isOfWord E _ _ (by omega)) (by decide) (Nat.le_of_ble_eq_true rfl) (k_P (fun z118 q118 => ?_))
                    refine s_if_eq (tgt := 172) C dX11_reads_121 (by decide) (by have := q118.b; omega) (fun c121 => ?_) (fun c121 => ?_)
                    · skip
                      have hbds : (0 ≤ se ∧ se < 24) ∧ (0 ≤ o ∧ o < 40) := by
                        first
                          | exact ⟨hI9, hI8⟩
                          | omega
                      refine s_aload_n C dX11_reads_172 rfl ?_
                      refine s_getr (k := 19) (b := 81) C dX11_reads_173 fl_X11_53 (by decide) rfl (by decide) rfl ?_
                      refine s_iload C dX11_reads_176 rfl ?_
                      refine s_iload C dX11_reads_178 rfl ?_
                      refine s_iastore (n := 960) C dX11_reads_180 (by decide) rfl rfl (by omega) (by omega) (by omega) (by first | omega | decide) ?_
                      refine s_iinc (lv' := [_, _, _, _, _, _, _, _, _, _, _]) C dX11_reads_181 rfl (by decide) rfl rfl rfl ?_
                      refine s_iconst C dX11_reads_184 ?_
                      refine s_istore (lv' := [_, _, _, _, _, _, _, _, _, _, _]) C dX11_reads_185 (by decide) rfl rfl ?_
                      refine s_goto (tgt := 16) C dX11_reads_187 (by decide) ?_
                      first
                        | (have h5 := hI.2.2.2.1
                           have h3 := hI.2.2.2.2.1
                           exact ih16 k2 se (o + 1) pa2 0 0 _ _ _ _ (by omega) (hI.out (by omega)) hX2 (hM2.done hX2 (by omega) (by rw [mput_ne (by decide)]) (by rw [mput_ne (by decide)]) (fun x => by rw [mput_at, h3, show SS t N k2 t 7 - 1 = se by omega, h5, show o + 1 - 1 = o by omega])) (fun s a b => by rw [mput_ne (by decide)]; exact hC2 s a b) (Or.inr ⟨hI.2.1.1, fun hlt => by
                             first
                               | (exfalso; omega)
                               | (have g := q118.n c121
                                  rw [b67] at g
                                  exact g)⟩) (hA2.put (by decide)) (by omega))
                        | (exfalso; omega)
                        | (exfalso
                           have g := q118.n c121
                           first
                             | (rw [a67] at g; exact g (q33.y c36))
                             | (rw [mput_ne (by decide), a67] at g; exact g (q33.y c36)))
                    · skip
                      refine s_iload C dX11_reads_124 rfl ?_
                      refine s_bipush C dX11_reads_126 (by decide) ?_
                      refine s_icmp_ne (tgt := 139) C dX11_reads_128 (by decide) (by omega) (by omega) (fun c128 => ?_) (fun c128 => ?_)
                      · skip
                        have hbds : (0 ≤ se ∧ se < 24) ∧ (0 ≤ o ∧ o < 40) := by
                          first
                            | exact ⟨hI9, hI8⟩
                            | omega
                        refine s_aload_n C dX11_reads_139 rfl ?_
                        refine s_getr (k := 18) (b := 80) C dX11_reads_140 fl_X11_50 (by decide) rfl (by decide) rfl ?_
                        refine s_bipush C dX11_reads_143 (by decide) ?_
                        refine s_iload C dX11_reads_145 rfl ?_
                        refine s_imul C dX11_reads_147 ?_
                        refine s_iload C dX11_reads_148 rfl ?_
                        refine s_iadd C dX11_reads_150 ?_
                        refine s_aload_n C dX11_reads_151 rfl ?_
                        refine s_getr (k := 0) (b := 67) C dX11_reads_152 fl_X11_7 (by decide) rfl (by decide) rfl ?_
                        refine s_iload C dX11_reads_155 rfl ?_
                        refine s_baload (n := 3000) C dX11_reads_157 (by decide) rfl rfl (by omega) (by omega) (by omega) (rfl) (fun r157 => ?_)
                        refine s_callS1 C dX11_reads_158 cy_X11_small cs_X11_small lk_X11_147 (ct_X11_small E _ _ (by omega)) (by decide) (Nat.le_of_ble_eq_true rfl) (k_P (fun z158 q158 => ?_))
                        refine s_i2b C dX11_reads_161 ?_
                        refine s_bastore (n := 15360) C dX11_reads_162 (by decide) rfl rfl (by omega) (by omega) (by omega) (by have := zb_rg z158; omega) (by have := zb_rg z158; omega) ?_
                        refine s_iinc (lv' := [_, _, _, _, _, _, _, _, _, _, _]) C dX11_reads_163 rfl (by decide) rfl rfl rfl ?_
                        refine s_iinc (lv' := [_, _, _, _, _, _, _, _, _, _, _]) C dX11_reads_166 rfl (by decide) rfl rfl rfl ?_
                        first
                          | (have hof := q118.y c121
                             rw [b67] at hof q158
                             have hb2 := (hTp (k2 : Int) (by omega) (by omega))
                             obtain ⟨dh1, dh2, dh3⟩ := chr hb2.1
                             rw [← hb2.2] at dh1 dh2
                             have hSs2 := SS_s ht hI1 (k := k2)
                             have hz : zb z158 = low (N 2 (k2 : Int)) := by rw [q158, zb_id (low_b (by omega)), dh2 hof]
                             have h3 := hI.2.2.2.2.1
                             have hst := st_letter ht (S := SS t N k2) (p := (k2 : Int)) (b := low (N 2 (k2 : Int))) hI.2.1.1 (by omega) (dh1.mp hof)
                             rw [← hSs2] at hst
                             have hpos := hI.2.2.2.2.2.1
                             have h5 := hI.2.2.2.1
                             rw [hz, show (k2 : Int) + 1 = ((k2 + 1 : Nat) : Int) by omega]
                             exact ih169 (k2 + 1) (sz + 1) pa2 _ _ _ (by omega) (hI.ltr c128 hst) (hX2.ltr hI2.2 (by omega) (by omega) hst).1 (hM2.ltr hX2 (by omega) (by omega) (by omega) hst (by rw [mput_ne (by decide)]) (by rw [mput_ne (by decide)]) (fun x => by rw [mput_at, show 16 * (40 * (SS t N k2 t 7 - 1) + (SS t N k2 (t + 5) (SS t N k2 t 7 - 1) - 1)) + SS t N k2 (t + 3) (SS t N k2 t 6 - 1) = 16 * (40 * se + o) + sz from by rw [show SS t N k2 t 7 - 1 = se by omega, h5, h3]; omega])) (fun s a b => by rw [mput_ne (by decide), hC2 s a b, hst.2.2.2.2.2.2.1]) (hA2.put (by decide)) (by omega))
                          | (have hof := q33.y c36
                             have ho := c72
                             obtain ⟨t0, s24⟩ := hN.2.2.2.2.2 ho
                             rw [a67] at q158
                             have hz : zb z158 = low (N 2 (k : Int)) := by rw [q158, zb_id (low_b (by omega)), ch2 hof]
                             have h3 := hL.2.1
                             have h7 := hL.2.2.1
                             have h5 := hL.2.2.2.1 ho
                             rw [if_neg ho] at h3 h7
                             have hst := st_word ht (S := SS t N k) (p := (k : Int)) (b := low (N 2 (k : Int))) h00 (by rcases hw with g | ⟨_, g⟩; exact g; exact absurd (q33.y c36) (g (by omega))) h3 (by rw [show SS t N k t 7 - 1 = se by omega, h5]; omega) (ch1.mp hof)
                             rw [← hSs] at hst
                             have hlast := (hX.2.2.2.1 se (by omega) (by omega)).2.2.2 (by omega)
                             have hfw := hX.2.2.2.2
                             have h6le : SS t N k t 6 < 40 * SS t N k t 7 := by have := LR_words hX (by omega); rw [show SS t N k t 7 - 1 = se by omega, h5] at this; omega
                             subst t0
                             rw [hz, show (k : Int) + 1 = ((k + 1 : Nat) : Int) by omega]
                             exact L169 _ (k + 1) 1 pa _ _ _ (by omega) (hL.word hX ho (by omega) hst) (hX.wrd (by omega) (by omega) (by rw [show SS t N k t 7 - 1 = se by omega, h5]; omega) h6le hst) (by rw [hst.2.1.1, show SS t N k t 6 + 1 - 1 = SS t N k t 6 by omega]; exact hM.wrd hX (by omega) hst (by rw [mput_ne (by decide)]) (by rw [mput_ne (by decide)]) (by rw [show SS t N k t 7 - 1 = se by omega, h5]; omega) (fun x => by rw [mput_at, show SS t N k t 7 - 1 = se by omega, h5])) (fun s a b => by rw [mput_ne (by decide), hC s a b, hst.2.2.2.2.2.2.1, if_neg (by omega)]) (hA.put (by decide)) (Nat.lt_succ_self _))
                          | (have hof := q33.y c36
                             have ho := c72
                             subst ho
                             rw [mput_ne (by decide), a67] at q158
                             have hz : zb z158 = low (N 2 (k : Int)) := by rw [q158, zb_id (low_b (by omega)), ch2 hof]
                             have h3 := hL.2.1
                             have h7 := hL.2.2.1
                             rw [if_pos rfl] at h3 h7
                             have hst := st_first ht (S := SS t N k) (p := (k : Int)) (b := low (N 2 (k : Int))) h00 (by rcases hw with g | ⟨_, g⟩; exact g; exact absurd (q33.y c36) (g (by omega))) h3 (by omega) (ch1.mp hof)
                             rw [← hSs] at hst
                             have hI0 := hL.first hX (by omega) hst
                             have hpa : (if SS t N k 16 5 = 0 then SS t N k 16 6 else SS t N k 16 6 + 1) = (if tu = 0 then pa else pa + 1) := by rw [hL.2.2.2.2.1.1, hL.2.2.2.2.1.2]
                             rw [hpa] at hst
                             rw [hz, show (k : Int) + 1 = ((k + 1 : Nat) : Int) by omega]
                             have key : ∀ pv, pv = (if tu = 0 then pa else pa + 1) → TMt t (SS t N (k + 1)) (mput (mput A 83 se pv) 80 (16 * (40 * se + 0) + 0) (low (N 2 (k : Int)))) (SS t N (k + 1) t 6 - 1) := fun pv hpv => by
                               rw [hst.2.1.1, show SS t N k t 6 + 1 - 1 = SS t N k t 6 by omega]
                               exact hM.fst hX (by omega) hst (by rw [mput_ne (by decide), mput_ne (by decide)]) (fun x => by rw [mput_at, mput_ne (by decide), h7]) (fun x => by rw [mput_ne (by decide), mput_at, h7, hpv])
                             first
                               | (rw [if_pos c77] at hI0 key
                                  exact L169 _ (k + 1) 1 pa _ _ _ (by omega) hI0 (hX.fst (by omega) (by omega) hst) (key pa rfl) (fun s a b => by rw [mput_ne (by decide), mput_ne (by decide), hC s a b, hst.2.2.2.2.2.2.1, if_neg (by omega)]) ((hA.put (by decide)).put (by decide)) (Nat.lt_succ_self _))
                               | (rw [if_neg c77] at hI0 key
                                  exact L169 _ (k + 1) 1 (pa + 1) _ _ _ (by omega) hI0 (hX.fst (by omega) (by omega) hst) (key (pa + 1) rfl) (fun s a b => by rw [mput_ne (by decide), mput_ne (by decide), hC s a b, hst.2.2.2.2.2.2.1, if_neg (by omega)]) ((hA.put (by decide)).put (by decide)) (Nat.lt_succ_self _)))
                      · skip
                        refine s_aload_n C dX11_reads_131 rfl ?_
                        refine s_iconst C dX11_reads_132 ?_
                        refine s_iload C dX11_reads_133 rfl ?_
                        refine s_callV2 C dX11_reads_135 cy_X11_wrong cv_X11_wrong lk_X11_189 (ct_X11_wrong E _ 2 _ (by decide) (by omega)) (by decide) (by decide) (by first | decide | (decide)) rfl (Nat.le_of_ble_eq_true rfl) (k_I (fun z135 M135 q135 => ?_))
                        obtain ⟨z135e, q135⟩ := q135
                        subst z135e
                        exact s_ireturn C dX11_reads_138 (⟨_, rfl, by
      first
        | (exfalso; omega)
        | (subst q135
           have hb2 := (hTp (k2 : Int) (by omega) (by omega))
           obtain ⟨dh1, dh2, dh3⟩ := chr hb2.1
           rw [← hb2.2] at dh1
           have hSs2 := SS_s ht hI1 (k := k2)
           have hof := q118.y c121
           rw [b67] at hof
           have hf := st_f2 ht (S := SS t N k2) (p := (k2 : Int)) (b := low (N 2 (k2 : Int))) hI.2.1.1 (by have := hI.2.2.2.2.1; omega) (dh1.mp hof)
           rw [← hSs2] at hf
           exact rd_fault hNn (k := k2 + 1) (by omega) (by decide) hf.1 hf.2 hA2)⟩)
            · skip
              refine s_aload_n C dX11_reads_63 rfl ?_
              refine s_iconst C dX11_reads_64 ?_
              refine s_iload C dX11_reads_65 rfl ?_
              refine s_callV2 C dX11_reads_67 cy_X11_wrong cv_X11_wrong lk_X11_189 (ct_X11_wrong E A 3 (k : Int) (by decide) (by omega)) (by decide) (by decide) (by first | decide | (decide)) rfl (Nat.le_of_ble_eq_true rfl) (k_I (fun z67 M67 q67 => ?_))
              obtain ⟨z67e, q67⟩ := q67
              subst z67e
              exact s_ireturn C dX11_reads_70 (⟨_, rfl, by
      subst q67
      have ho : o ≠ 0 := by omega
      have h7 := hL.2.2.1
      have h3 := hL.2.1
      have h5 := hL.2.2.2.1 ho
      rw [if_neg ho] at h7 h3
      have hf := st_f3 ht (S := SS t N k) (p := (k : Int)) (b := low (N 2 (k : Int))) (by rcases hw with g | ⟨_, g⟩; exact g; exact absurd (q33.y c36) (g (by omega))) h3 (by rw [show SS t N k t 7 - 1 = se by omega]; omega) (ch1.mp (q33.y c36))
      rw [← hSs] at hf
      exact rd_fault hNn (k := k + 1) (by omega) (by decide) hf.1 hf.2 hA⟩)
          · skip
            refine s_iload_n C dX11_reads_43 rfl ?_
            refine s_bipush C dX11_reads_44 (by decide) ?_
            refine s_icmp_ne (tgt := 57) C dX11_reads_46 (by decide) (by omega) (by omega) (fun c46 => ?_) (fun c46 => ?_)
            · skip
              refine s_iload_n C dX11_reads_57 rfl ?_
              refine s_bipush C dX11_reads_58 (by decide) ?_
              refine s_icmp_ne (tgt := 71) C dX11_reads_60 (by decide) (by omega) (by omega) (fun c60 => ?_) (fun c60 => ?_)
              · skip
                refine s_iload_n C dX11_reads_71 rfl ?_
                refine s_if_ne (tgt := 94) C dX11_reads_72 (by decide) (by omega) (fun c72 => ?_) (fun c72 => ?_)
                · skip
                  refine s_bipush C dX11_reads_94 (by decide) ?_
                  refine s_iload_n C dX11_reads_96 rfl ?_
                  refine s_imul C dX11_reads_97 ?_
                  refine s_iload_n C dX11_reads_98 rfl ?_
                  refine s_iadd C dX11_reads_99 ?_
                  refine s_istore (lv' := [_, _, _, _, _, _, _, _, _, _, _]) C dX11_reads_100 (by decide) rfl rfl ?_
                  refine s_iconst C dX11_reads_102 ?_
                  refine s_istore (lv' := [_, _, _, _, _, _, _, _, _, _, _]) C dX11_reads_103 (by decide) rfl rfl ?_
                  refine s_iload C dX11_reads_105 rfl ?_
                  refine s_iload_n C dX11_reads_107 rfl ?_
                  refine s_icmp_ge (tgt := 172) C dX11_reads_108 (by decide) (by omega) (by omega) (fun c108 => ?_) (fun c108 => ?_)
                  · skip
                    have hbds : (0 ≤ se ∧ se < 24) ∧ (0 ≤ o ∧ o < 40) := by
                      first
                        | exact ⟨hI9, hI8⟩
                        | omega
                    refine s_aload_n C dX11_reads_172 rfl ?_
                    refine s_getr (k := 19) (b := 81) C dX11_reads_173 fl_X11_53 (by decide) rfl (by decide) rfl ?_
                    refine s_iload C dX11_reads_176 rfl ?_
                    refine s_iload C dX11_reads_178 rfl ?_
                    refine s_iastore (n := 960) C dX11_reads_180 (by decide) rfl rfl (by omega) (by omega) (by omega) (by first | omega | decide) ?_
                    refine s_iinc (lv' := [_, _, _, _, _, _, _, _, _, _, _]) C dX11_reads_181 rfl (by decide) rfl rfl rfl ?_
                    refine s_iconst C dX11_reads_184 ?_
                    refine s_istore (lv' := [_, _, _, _, _, _, _, _, _, _, _]) C dX11_reads_185 (by decide) rfl rfl ?_
                    refine s_goto (tgt := 16) C dX11_reads_187 (by decide) ?_
                    first
                      | (have h5 := hI.2.2.2.1
                         have h3 := hI.2.2.2.2.1
                         exact ih16 k2 se (o + 1) pa2 0 0 _ _ _ _ (by omega) (hI.out (by omega)) hX2 (hM2.done hX2 (by omega) (by rw [mput_ne (by decide)]) (by rw [mput_ne (by decide)]) (fun x => by rw [mput_at, h3, show SS t N k2 t 7 - 1 = se by omega, h5, show o + 1 - 1 = o by omega])) (fun s a b => by rw [mput_ne (by decide)]; exact hC2 s a b) (Or.inr ⟨hI.2.1.1, fun hlt => by
                           first
                             | (exfalso; omega)
                             | (have g := q118.n c121
                                rw [b67] at g
                                exact g)⟩) (hA2.put (by decide)) (by omega))
                      | (exfalso; omega)
                      | (exfalso
                         have g := q118.n c121
                         first
                           | (rw [a67] at g; exact g (q33.y c36))
                           | (rw [mput_ne (by decide), a67] at g; exact g (q33.y c36)))
                  · skip
                    refine s_aload_n C dX11_reads_111 rfl ?_
                    refine s_getr (k := 0) (b := 67) C dX11_reads_112 fl_X11_7 (by decide) rfl (by decide) rfl ?_
                    refine s_iload C dX11_reads_115 rfl ?_
                    refine s_baload (n := 3000) C dX11_reads_117 (by decide) rfl rfl (by omega) (by omega) (by omega) (rfl) (fun r117 => ?_)
                    refine s_callS1 C dX11_reads_118 cy_X11_isOfWord cs_X11_isOfWord lk_X11_143 (ct_X11_isOfWord E _ _ (by omega)) (by decide) (Nat.le_of_ble_eq_true rfl) (k_P (fun z118 q118 => ?_))
                    refine s_if_eq (tgt := 172) C dX11_reads_121 (by decide) (by have := q118.b; omega) (fun c121 => ?_) (fun c121 => ?_)
                    · skip
                      have hbds : (0 ≤ se ∧ se < 24) ∧ (0 ≤ o ∧ o < 40) := by
                        first
                          | exact ⟨hI9, hI8⟩
                          | omega
                      refine s_aload_n C dX11_reads_172 rfl ?_
                      refine s_getr (k := 19) (b := 81) C dX11_reads_173 fl_X11_53 (by decide) rfl (by decide) rfl ?_
                      refine s_iload C dX11_reads_176 rfl ?_
                      refine s_iload C dX11_reads_178 rfl ?_
                      refine s_iastore (n := 960) C dX11_reads_180 (by decide) rfl rfl (by omega) (by omega) (by omega) (by first | omega | decide) ?_
                      refine s_iinc (lv' := [_, _, _, _, _, _, _, _, _, _, _]) C dX11_reads_181 rfl (by decide) rfl rfl rfl ?_
                      refine s_iconst C dX11_reads_184 ?_
                      refine s_istore (lv' := [_, _, _, _, _, _, _, _, _, _, _]) C dX11_reads_185 (by decide) rfl rfl ?_
                      refine s_goto (tgt := 16) C dX11_reads_187 (by decide) ?_
                      first
                        | (have h5 := hI.2.2.2.1
                           have h3 := hI.2.2.2.2.1
                           exact ih16 k2 se (o + 1) pa2 0 0 _ _ _ _ (by omega) (hI.out (by omega)) hX2 (hM2.done hX2 (by omega) (by rw [mput_ne (by decide)]) (by rw [mput_ne (by decide)]) (fun x => by rw [mput_at, h3, show SS t N k2 t 7 - 1 = se by omega, h5, show o + 1 - 1 = o by omega])) (fun s a b => by rw [mput_ne (by decide)]; exact hC2 s a b) (Or.inr ⟨hI.2.1.1, fun hlt => by
                             first
                               | (exfalso; omega)
                               | (have g := q118.n c121
                                  rw [b67] at g
                                  exact g)⟩) (hA2.put (by decide)) (by omega))
                        | (exfalso; omega)
                        | (exfalso
                           have g := q118.n c121
                           first
                             | (rw [a67] at g; exact g (q33.y c36))
                             | (rw [mput_ne (by decide), a67] at g; exact g (q33.y c36)))
                    · skip
                      refine s_iload C dX11_reads_124 rfl ?_
                      refine s_bipush C dX11_reads_126 (by decide) ?_
                      refine s_icmp_ne (tgt := 139) C dX11_reads_128 (by decide) (by omega) (by omega) (fun c128 => ?_) (fun c128 => ?_)
                      · skip
                        have hbds : (0 ≤ se ∧ se < 24) ∧ (0 ≤ o ∧ o < 40) := by
                          first
                            | exact ⟨hI9, hI8⟩
                            | omega
                        refine s_aload_n C dX11_reads_139 rfl ?_
                        refine s_getr (k := 18) (b := 80) C dX11_reads_140 fl_X11_50 (by decide) rfl (by decide) rfl ?_
                        refine s_bipush C dX11_reads_143 (by decide) ?_
                        refine s_iload C dX11_reads_145 rfl ?_
                        refine s_imul C dX11_reads_147 ?_
                        refine s_iload C dX11_reads_148 rfl ?_
                        refine s_iadd C dX11_reads_150 ?_
                        refine s_aload_n C dX11_reads_151 rfl ?_
                        refine s_getr (k := 0) (b := 67) C dX11_reads_152 fl_X11_7 (by decide) rfl (by decide) rfl ?_
                        refine s_iload C dX11_reads_155 rfl ?_
                        refine s_baload (n := 3000) C dX11_reads_157 (by decide) rfl rfl (by omega) (by omega) (by omega) (rfl) (fun r157 => ?_)
                        refine s_callS1 C dX11_reads_158 cy_X11_small cs_X11_small lk_X11_147 (ct_X11_small E _ _ (by omega)) (by decide) (Nat.le_of_ble_eq_true rfl) (k_P (fun z158 q158 => ?_))
                        refine s_i2b C dX11_reads_161 ?_
                        refine s_bastore (n := 15360) C dX11_reads_162 (by decide) rfl rfl (by omega) (by omega) (by omega) (by have := zb_rg z158; omega) (by have := zb_rg z158; omega) ?_
                        refine s_iinc (lv' := [_, _, _, _, _, _, _, _, _, _, _]) C dX11_reads_163 rfl (by decide) rfl rfl rfl ?_
                        refine s_iinc (lv' := [_, _, _, _, _, _, _, _, _, _, _]) C dX11_reads_166 rfl (by decide) rfl rfl rfl ?_
                        first
                          | (have hof := q118.y c121
                             rw [b67] at hof q158
                             have hb2 := (hTp (k2 : Int) (by omega) (by omega))
                             obtain ⟨dh1, dh2, dh3⟩ := chr hb2.1
                             rw [← hb2.2] at dh1 dh2
                             have hSs2 := SS_s ht hI1 (k := k2)
                             have hz : zb z158 = low (N 2 (k2 : Int)) := by rw [q158, zb_id (low_b (by omega)), dh2 hof]
                             have h3 := hI.2.2.2.2.1
                             have hst := st_letter ht (S := SS t N k2) (p := (k2 : Int)) (b := low (N 2 (k2 : Int))) hI.2.1.1 (by omega) (dh1.mp hof)
                             rw [← hSs2] at hst
                             have hpos := hI.2.2.2.2.2.1
                             have h5 := hI.2.2.2.1
                             rw [hz, show (k2 : Int) + 1 = ((k2 + 1 : Nat) : Int) by omega]
                             exact ih169 (k2 + 1) (sz + 1) pa2 _ _ _ (by omega) (hI.ltr c128 hst) (hX2.ltr hI2.2 (by omega) (by omega) hst).1 (hM2.ltr hX2 (by omega) (by omega) (by omega) hst (by rw [mput_ne (by decide)]) (by rw [mput_ne (by decide)]) (fun x => by rw [mput_at, show 16 * (40 * (SS t N k2 t 7 - 1) + (SS t N k2 (t + 5) (SS t N k2 t 7 - 1) - 1)) + SS t N k2 (t + 3) (SS t N k2 t 6 - 1) = 16 * (40 * se + o) + sz from by rw [show SS t N k2 t 7 - 1 = se by omega, h5, h3]; omega])) (fun s a b => by rw [mput_ne (by decide), hC2 s a b, hst.2.2.2.2.2.2.1]) (hA2.put (by decide)) (by omega))
                          | (have hof := q33.y c36
                             have ho := c72
                             obtain ⟨t0, s24⟩ := hN.2.2.2.2.2 ho
                             rw [a67] at q158
                             have hz : zb z158 = low (N 2 (k : Int)) := by rw [q158, zb_id (low_b (by omega)), ch2 hof]
                             have h3 := hL.2.1
                             have h7 := hL.2.2.1
                             have h5 := hL.2.2.2.1 ho
                             rw [if_neg ho] at h3 h7
                             have hst := st_word ht (S := SS t N k) (p := (k : Int)) (b := low (N 2 (k : Int))) h00 (by rcases hw with g | ⟨_, g⟩; exact g; exact absurd (q33.y c36) (g (by omega))) h3 (by rw [show SS t N k t 7 - 1 = se by omega, h5]; omega) (ch1.mp hof)
                             rw [← hSs] at hst
                             have hlast := (hX.2.2.2.1 se (by omega) (by omega)).2.2.2 (by omega)
                             have hfw := hX.2.2.2.2
                             have h6le : SS t N k t 6 < 40 * SS t N k t 7 := by have := LR_words hX (by omega); rw [show SS t N k t 7 - 1 = se by omega, h5] at this; omega
                             subst t0
                             rw [hz, show (k : Int) + 1 = ((k + 1 : Nat) : Int) by omega]
                             exact L169 _ (k + 1) 1 pa _ _ _ (by omega) (hL.word hX ho (by omega) hst) (hX.wrd (by omega) (by omega) (by rw [show SS t N k t 7 - 1 = se by omega, h5]; omega) h6le hst) (by rw [hst.2.1.1, show SS t N k t 6 + 1 - 1 = SS t N k t 6 by omega]; exact hM.wrd hX (by omega) hst (by rw [mput_ne (by decide)]) (by rw [mput_ne (by decide)]) (by rw [show SS t N k t 7 - 1 = se by omega, h5]; omega) (fun x => by rw [mput_at, show SS t N k t 7 - 1 = se by omega, h5])) (fun s a b => by rw [mput_ne (by decide), hC s a b, hst.2.2.2.2.2.2.1, if_neg (by omega)]) (hA.put (by decide)) (Nat.lt_succ_self _))
                          | (have hof := q33.y c36
                             have ho := c72
                             subst ho
                             rw [mput_ne (by decide), a67] at q158
                             have hz : zb z158 = low (N 2 (k : Int)) := by rw [q158, zb_id (low_b (by omega)), ch2 hof]
                             have h3 := hL.2.1
                             have h7 := hL.2.2.1
                             rw [if_pos rfl] at h3 h7
                             have hst := st_first ht (S := SS t N k) (p := (k : Int)) (b := low (N 2 (k : Int))) h00 (by rcases hw with g | ⟨_, g⟩; exact g; exact absurd (q33.y c36) (g (by omega))) h3 (by omega) (ch1.mp hof)
                             rw [← hSs] at hst
                             have hI0 := hL.first hX (by omega) hst
                             have hpa : (if SS t N k 16 5 = 0 then SS t N k 16 6 else SS t N k 16 6 + 1) = (if tu = 0 then pa else pa + 1) := by rw [hL.2.2.2.2.1.1, hL.2.2.2.2.1.2]
                             rw [hpa] at hst
                             rw [hz, show (k : Int) + 1 = ((k + 1 : Nat) : Int) by omega]
                             have key : ∀ pv, pv = (if tu = 0 then pa else pa + 1) → TMt t (SS t N (k + 1)) (mput (mput A 83 se pv) 80 (16 * (40 * se + 0) + 0) (low (N 2 (k : Int)))) (SS t N (k + 1) t 6 - 1) := fun pv hpv => by
                               rw [hst.2.1.1, show SS t N k t 6 + 1 - 1 = SS t N k t 6 by omega]
                               exact hM.fst hX (by omega) hst (by rw [mput_ne (by decide), mput_ne (by decide)]) (fun x => by rw [mput_at, mput_ne (by decide), h7]) (fun x => by rw [mput_ne (by decide), mput_at, h7, hpv])
                             first
                               | (rw [if_pos c77] at hI0 key
                                  exact L169 _ (k + 1) 1 pa _ _ _ (by omega) hI0 (hX.fst (by omega) (by omega) hst) (key pa rfl) (fun s a b => by rw [mput_ne (by decide), mput_ne (by decide), hC s a b, hst.2.2.2.2.2.2.1, if_neg (by omega)]) ((hA.put (by decide)).put (by decide)) (Nat.lt_succ_self _))
                               | (rw [if_neg c77] at hI0 key
                                  exact L169 _ (k + 1) 1 (pa + 1) _ _ _ (by omega) hI0 (hX.fst (by omega) (by omega) hst) (key (pa + 1) rfl) (fun s a b => by rw [mput_ne (by decide), mput_ne (by decide), hC s a b, hst.2.2.2.2.2.2.1, if_neg (by omega)]) ((hA.put (by decide)).put (by decide)) (Nat.lt_succ_self _)))
                      · skip
                        refine s_aload_n C dX11_reads_131 rfl ?_
                        refine s_iconst C dX11_reads_132 ?_
                        refine s_iload C dX11_reads_133 rfl ?_
                        refine s_callV2 C dX11_reads_135 cy_X11_wrong cv_X11_wrong lk_X11_189 (ct_X11_wrong E _ 2 _ (by decide) (by omega)) (by decide) (by decide) (by first | decide | (decide)) rfl (Nat.le_of_ble_eq_true rfl) (k_I (fun z135 M135 q135 => ?_))
                        obtain ⟨z135e, q135⟩ := q135
                        subst z135e
                        exact s_ireturn C dX11_reads_138 (⟨_, rfl, by
      first
        | (exfalso; omega)
        | (subst q135
           have hb2 := (hTp (k2 : Int) (by omega) (by omega))
           obtain ⟨dh1, dh2, dh3⟩ := chr hb2.1
           rw [← hb2.2] at dh1
           have hSs2 := SS_s ht hI1 (k := k2)
           have hof := q118.y c121
           rw [b67] at hof
           have hf := st_f2 ht (S := SS t N k2) (p := (k2 : Int)) (b := low (N 2 (k2 : Int))) hI.2.1.1 (by have := hI.2.2.2.2.1; omega) (dh1.mp hof)
           rw [← hSs2] at hf
           exact rd_fault hNn (k := k2 + 1) (by omega) (by decide) hf.1 hf.2 hA2)⟩)
                · skip
                  refine s_iload C dX11_reads_75 rfl ?_
                  refine s_if_eq (tgt := 83) C dX11_reads_77 (by decide) (by omega) (fun c77 => ?_) (fun c77 => ?_)
                  · skip
                    refine s_iconst C dX11_reads_83 ?_
                    refine s_istore (lv' := [_, _, _, _, _, _, _, _, _, _, _]) C dX11_reads_84 (by decide) rfl rfl ?_
                    refine s_aload_n C dX11_reads_86 rfl ?_
                    refine s_getr (k := 21) (b := 83) C dX11_reads_87 fl_X11_59 (by decide) rfl (by decide) rfl ?_
                    refine s_iload_n C dX11_reads_90 rfl ?_
                    refine s_iload C dX11_reads_91 rfl ?_
                    refine s_iastore (n := 24) C dX11_reads_93 (by decide) rfl rfl (by omega) (by omega) (by omega) (by omega) ?_
                    refine s_bipush C dX11_reads_94 (by decide) ?_
                    refine s_iload_n C dX11_reads_96 rfl ?_
                    refine s_imul C dX11_reads_97 ?_
                    refine s_iload_n C dX11_reads_98 rfl ?_
                    refine s_iadd C dX11_reads_99 ?_
                    refine s_istore (lv' := [_, _, _, _, _, _, _, _, _, _, _]) C dX11_reads_100 (by decide) rfl rfl ?_
                    refine s_iconst C dX11_reads_102 ?_
                    refine s_istore (lv' := [_, _, _, _, _, _, _, _, _, _, _]) C dX11_reads_103 (by decide) rfl rfl ?_
                    refine s_iload C dX11_reads_105 rfl ?_
                    refine s_iload_n C dX11_reads_107 rfl ?_
                    refine s_icmp_ge (tgt := 172) C dX11_reads_108 (by decide) (by omega) (by omega) (fun c108 => ?_) (fun c108 => ?_)
                    · skip
                      have hbds : (0 ≤ se ∧ se < 24) ∧ (0 ≤ o ∧ o < 40) := by
                        first
                          | exact ⟨hI9, hI8⟩
                          | omega
                      refine s_aload_n C dX11_reads_172 rfl ?_
                      refine s_getr (k := 19) (b := 81) C dX11_reads_173 fl_X11_53 (by decide) rfl (by decide) rfl ?_
                      refine s_iload C dX11_reads_176 rfl ?_
                      refine s_iload C dX11_reads_178 rfl ?_
                      refine s_iastore (n := 960) C dX11_reads_180 (by decide) rfl rfl (by omega) (by omega) (by omega) (by first | omega | decide) ?_
                      refine s_iinc (lv' := [_, _, _, _, _, _, _, _, _, _, _]) C dX11_reads_181 rfl (by decide) rfl rfl rfl ?_
                      refine s_iconst C dX11_reads_184 ?_
                      refine s_istore (lv' := [_, _, _, _, _, _, _, _, _, _, _]) C dX11_reads_185 (by decide) rfl rfl ?_
                      refine s_goto (tgt := 16) C dX11_reads_187 (by decide) ?_
                      first
                        | (have h5 := hI.2.2.2.1
                           have h3 := hI.2.2.2.2.1
                           exact ih16 k2 se (o + 1) pa2 0 0 _ _ _ _ (by omega) (hI.out (by omega)) hX2 (hM2.done hX2 (by omega) (by rw [mput_ne (by decide)]) (by rw [mput_ne (by decide)]) (fun x => by rw [mput_at, h3, show SS t N k2 t 7 - 1 = se by omega, h5, show o + 1 - 1 = o by omega])) (fun s a b => by rw [mput_ne (by decide)]; exact hC2 s a b) (Or.inr ⟨hI.2.1.1, fun hlt => by
                             first
                               | (exfalso; omega)
                               | (have g := q118.n c121
                                  rw [b67] at g
                                  exact g)⟩) (hA2.put (by decide)) (by omega))
                        | (exfalso; omega)
                        | (exfalso
                           have g := q118.n c121
                           first
                             | (rw [a67] at g; exact g (q33.y c36))
                             | (rw [mput_ne (by decide), a67] at g; exact g (q33.y c36)))
                    · skip
                      refine s_aload_n C dX11_reads_111 rfl ?_
                      refine s_getr (k := 0) (b := 67) C dX11_reads_112 fl_X11_7 (by decide) rfl (by decide) rfl ?_
                      refine s_iload C dX11_reads_115 rfl ?_
                      refine s_baload (n := 3000) C dX11_reads_117 (by decide) rfl rfl (by omega) (by omega) (by omega) (rfl) (fun r117 => ?_)
                      refine s_callS1 C dX11_reads_118 cy_X11_isOfWord cs_X11_isOfWord lk_X11_143 (ct_X11_isOfWord E _ _ (by omega)) (by decide) (Nat.le_of_ble_eq_true rfl) (k_P (fun z118 q118 => ?_))
                      refine s_if_eq (tgt := 172) C dX11_reads_121 (by decide) (by have := q118.b; omega) (fun c121 => ?_) (fun c121 => ?_)
                      · skip
                        have hbds : (0 ≤ se ∧ se < 24) ∧ (0 ≤ o ∧ o < 40) := by
                          first
                            | exact ⟨hI9, hI8⟩
                            | omega
                        refine s_aload_n C dX11_reads_172 rfl ?_
                        refine s_getr (k := 19) (b := 81) C dX11_reads_173 fl_X11_53 (by decide) rfl (by decide) rfl ?_
                        refine s_iload C dX11_reads_176 rfl ?_
                        refine s_iload C dX11_reads_178 rfl ?_
                        refine s_iastore (n := 960) C dX11_reads_180 (by decide) rfl rfl (by omega) (by omega) (by omega) (by first | omega | decide) ?_
                        refine s_iinc (lv' := [_, _, _, _, _, _, _, _, _, _, _]) C dX11_reads_181 rfl (by decide) rfl rfl rfl ?_
                        refine s_iconst C dX11_reads_184 ?_
                        refine s_istore (lv' := [_, _, _, _, _, _, _, _, _, _, _]) C dX11_reads_185 (by decide) rfl rfl ?_
                        refine s_goto (tgt := 16) C dX11_reads_187 (by decide) ?_
                        first
                          | (have h5 := hI.2.2.2.1
                             have h3 := hI.2.2.2.2.1
                             exact ih16 k2 se (o + 1) pa2 0 0 _ _ _ _ (by omega) (hI.out (by omega)) hX2 (hM2.done hX2 (by omega) (by rw [mput_ne (by decide)]) (by rw [mput_ne (by decide)]) (fun x => by rw [mput_at, h3, show SS t N k2 t 7 - 1 = se by omega, h5, show o + 1 - 1 = o by omega])) (fun s a b => by rw [mput_ne (by decide)]; exact hC2 s a b) (Or.inr ⟨hI.2.1.1, fun hlt => by
                               first
                                 | (exfalso; omega)
                                 | (have g := q118.n c121
                                    rw [b67] at g
                                    exact g)⟩) (hA2.put (by decide)) (by omega))
                          | (exfalso; omega)
                          | (exfalso
                             have g := q118.n c121
                             first
                               | (rw [a67] at g; exact g (q33.y c36))
                               | (rw [mput_ne (by decide), a67] at g; exact g (q33.y c36)))
                      · skip
                        refine s_iload C dX11_reads_124 rfl ?_
                        refine s_bipush C dX11_reads_126 (by decide) ?_
                        refine s_icmp_ne (tgt := 139) C dX11_reads_128 (by decide) (by omega) (by omega) (fun c128 => ?_) (fun c128 => ?_)
                        · skip
                          have hbds : (0 ≤ se ∧ se < 24) ∧ (0 ≤ o ∧ o < 40) := by
                            first
                              | exact ⟨hI9, hI8⟩
                              | omega
                          refine s_aload_n C dX11_reads_139 rfl ?_
                          refine s_getr (k := 18) (b := 80) C dX11_reads_140 fl_X11_50 (by decide) rfl (by decide) rfl ?_
                          refine s_bipush C dX11_reads_143 (by decide) ?_
                          refine s_iload C dX11_reads_145 rfl ?_
                          refine s_imul C dX11_reads_147 ?_
                          refine s_iload C dX11_reads_148 rfl ?_
                          refine s_iadd C dX11_reads_150 ?_
                          refine s_aload_n C dX11_reads_151 rfl ?_
                          refine s_getr (k := 0) (b := 67) C dX11_reads_152 fl_X11_7 (by decide) rfl (by decide) rfl ?_
                          refine s_iload C dX11_reads_155 rfl ?_
                          refine s_baload (n := 3000) C dX11_reads_157 (by decide) rfl rfl (by omega) (by omega) (by omega) (rfl) (fun r157 => ?_)
                          refine s_callS1 C dX11_reads_158 cy_X11_small cs_X11_small lk_X11_147 (ct_X11_small E _ _ (by omega)) (by decide) (Nat.le_of_ble_eq_true rfl) (k_P (fun z158 q158 => ?_))
                          refine s_i2b C dX11_reads_161 ?_
                          refine s_bastore (n := 15360) C dX11_reads_162 (by decide) rfl rfl (by omega) (by omega) (by omega) (by have := zb_rg z158; omega) (by have := zb_rg z158; omega) ?_
                          refine s_iinc (lv' := [_, _, _, _, _, _, _, _, _, _, _]) C dX11_reads_163 rfl (by decide) rfl rfl rfl ?_
                          refine s_iinc (lv' := [_, _, _, _, _, _, _, _, _, _, _]) C dX11_reads_166 rfl (by decide) rfl rfl rfl ?_
                          first
                            | (have hof := q118.y c121
                               rw [b67] at hof q158
                               have hb2 := (hTp (k2 : Int) (by omega) (by omega))
                               obtain ⟨dh1, dh2, dh3⟩ := chr hb2.1
                               rw [← hb2.2] at dh1 dh2
                               have hSs2 := SS_s ht hI1 (k := k2)
                               have hz : zb z158 = low (N 2 (k2 : Int)) := by rw [q158, zb_id (low_b (by omega)), dh2 hof]
                               have h3 := hI.2.2.2.2.1
                               have hst := st_letter ht (S := SS t N k2) (p := (k2 : Int)) (b := low (N 2 (k2 : Int))) hI.2.1.1 (by omega) (dh1.mp hof)
                               rw [← hSs2] at hst
                               have hpos := hI.2.2.2.2.2.1
                               have h5 := hI.2.2.2.1
                               rw [hz, show (k2 : Int) + 1 = ((k2 + 1 : Nat) : Int) by omega]
                               exact ih169 (k2 + 1) (sz + 1) pa2 _ _ _ (by omega) (hI.ltr c128 hst) (hX2.ltr hI2.2 (by omega) (by omega) hst).1 (hM2.ltr hX2 (by omega) (by omega) (by omega) hst (by rw [mput_ne (by decide)]) (by rw [mput_ne (by decide)]) (fun x => by rw [mput_at, show 16 * (40 * (SS t N k2 t 7 - 1) + (SS t N k2 (t + 5) (SS t N k2 t 7 - 1) - 1)) + SS t N k2 (t + 3) (SS t N k2 t 6 - 1) = 16 * (40 * se + o) + sz from by rw [show SS t N k2 t 7 - 1 = se by omega, h5, h3]; omega])) (fun s a b => by rw [mput_ne (by decide), hC2 s a b, hst.2.2.2.2.2.2.1]) (hA2.put (by decide)) (by omega))
                            | (have hof := q33.y c36
                               have ho := c72
                               obtain ⟨t0, s24⟩ := hN.2.2.2.2.2 ho
                               rw [a67] at q158
                               have hz : zb z158 = low (N 2 (k : Int)) := by rw [q158, zb_id (low_b (by omega)), ch2 hof]
                               have h3 := hL.2.1
                               have h7 := hL.2.2.1
                               have h5 := hL.2.2.2.1 ho
                               rw [if_neg ho] at h3 h7
                               have hst := st_word ht (S := SS t N k) (p := (k : Int)) (b := low (N 2 (k : Int))) h00 (by rcases hw with g | ⟨_, g⟩; exact g; exact absurd (q33.y c36) (g (by omega))) h3 (by rw [show SS t N k t 7 - 1 = se by omega, h5]; omega) (ch1.mp hof)
                               rw [← hSs] at hst
                               have hlast := (hX.2.2.2.1 se (by omega) (by omega)).2.2.2 (by omega)
                               have hfw := hX.2.2.2.2
                               have h6le : SS t N k t 6 < 40 * SS t N k t 7 := by have := LR_words hX (by omega); rw [show SS t N k t 7 - 1 = se by omega, h5] at this; omega
                               subst t0
                               rw [hz, show (k : Int) + 1 = ((k + 1 : Nat) : Int) by omega]
                               exact L169 _ (k + 1) 1 pa _ _ _ (by omega) (hL.word hX ho (by omega) hst) (hX.wrd (by omega) (by omega) (by rw [show SS t N k t 7 - 1 = se by omega, h5]; omega) h6le hst) (by rw [hst.2.1.1, show SS t N k t 6 + 1 - 1 = SS t N k t 6 by omega]; exact hM.wrd hX (by omega) hst (by rw [mput_ne (by decide)]) (by rw [mput_ne (by decide)]) (by rw [show SS t N k t 7 - 1 = se by omega, h5]; omega) (fun x => by rw [mput_at, show SS t N k t 7 - 1 = se by omega, h5])) (fun s a b => by rw [mput_ne (by decide), hC s a b, hst.2.2.2.2.2.2.1, if_neg (by omega)]) (hA.put (by decide)) (Nat.lt_succ_self _))
                            | (have hof := q33.y c36
                               have ho := c72
                               subst ho
                               rw [mput_ne (by decide), a67] at q158
                               have hz : zb z158 = low (N 2 (k : Int)) := by rw [q158, zb_id (low_b (by omega)), ch2 hof]
                               have h3 := hL.2.1
                               have h7 := hL.2.2.1
                               rw [if_pos rfl] at h3 h7
                               have hst := st_first ht (S := SS t N k) (p := (k : Int)) (b := low (N 2 (k : Int))) h00 (by rcases hw with g | ⟨_, g⟩; exact g; exact absurd (q33.y c36) (g (by omega))) h3 (by omega) (ch1.mp hof)
                               rw [← hSs] at hst
                               have hI0 := hL.first hX (by omega) hst
                               have hpa : (if SS t N k 16 5 = 0 then SS t N k 16 6 else SS t N k 16 6 + 1) = (if tu = 0 then pa else pa + 1) := by rw [hL.2.2.2.2.1.1, hL.2.2.2.2.1.2]
                               rw [hpa] at hst
                               rw [hz, show (k : Int) + 1 = ((k + 1 : Nat) : Int) by omega]
                               have key : ∀ pv, pv = (if tu = 0 then pa else pa + 1) → TMt t (SS t N (k + 1)) (mput (mput A 83 se pv) 80 (16 * (40 * se + 0) + 0) (low (N 2 (k : Int)))) (SS t N (k + 1) t 6 - 1) := fun pv hpv => by
                                 rw [hst.2.1.1, show SS t N k t 6 + 1 - 1 = SS t N k t 6 by omega]
                                 exact hM.fst hX (by omega) hst (by rw [mput_ne (by decide), mput_ne (by decide)]) (fun x => by rw [mput_at, mput_ne (by decide), h7]) (fun x => by rw [mput_ne (by decide), mput_at, h7, hpv])
                               first
                                 | (rw [if_pos c77] at hI0 key
                                    exact L169 _ (k + 1) 1 pa _ _ _ (by omega) hI0 (hX.fst (by omega) (by omega) hst) (key pa rfl) (fun s a b => by rw [mput_ne (by decide), mput_ne (by decide), hC s a b, hst.2.2.2.2.2.2.1, if_neg (by omega)]) ((hA.put (by decide)).put (by decide)) (Nat.lt_succ_self _))
                                 | (rw [if_neg c77] at hI0 key
                                    exact L169 _ (k + 1) 1 (pa + 1) _ _ _ (by omega) hI0 (hX.fst (by omega) (by omega) hst) (key (pa + 1) rfl) (fun s a b => by rw [mput_ne (by decide), mput_ne (by decide), hC s a b, hst.2.2.2.2.2.2.1, if_neg (by omega)]) ((hA.put (by decide)).put (by decide)) (Nat.lt_succ_self _)))
                        · skip
                          refine s_aload_n C dX11_reads_131 rfl ?_
                          refine s_iconst C dX11_reads_132 ?_
                          refine s_iload C dX11_reads_133 rfl ?_
                          refine s_callV2 C dX11_reads_135 cy_X11_wrong cv_X11_wrong lk_X11_189 (ct_X11_wrong E _ 2 _ (by decide) (by omega)) (by decide) (by decide) (by first | decide | (decide)) rfl (Nat.le_of_ble_eq_true rfl) (k_I (fun z135 M135 q135 => ?_))
                          obtain ⟨z135e, q135⟩ := q135
                          subst z135e
                          exact s_ireturn C dX11_reads_138 (⟨_, rfl, by
      first
        | (exfalso; omega)
        | (subst q135
           have hb2 := (hTp (k2 : Int) (by omega) (by omega))
           obtain ⟨dh1, dh2, dh3⟩ := chr hb2.1
           rw [← hb2.2] at dh1
           have hSs2 := SS_s ht hI1 (k := k2)
           have hof := q118.y c121
           rw [b67] at hof
           have hf := st_f2 ht (S := SS t N k2) (p := (k2 : Int)) (b := low (N 2 (k2 : Int))) hI.2.1.1 (by have := hI.2.2.2.2.1; omega) (dh1.mp hof)
           rw [← hSs2] at hf
           exact rd_fault hNn (k := k2 + 1) (by omega) (by decide) hf.1 hf.2 hA2)⟩)
                  · skip
                    refine s_iinc (lv' := [_, _, _, _, _, _, _, _, _, _, _]) C dX11_reads_80 rfl (by decide) rfl rfl rfl ?_
                    refine s_iconst C dX11_reads_83 ?_
                    refine s_istore (lv' := [_, _, _, _, _, _, _, _, _, _, _]) C dX11_reads_84 (by decide) rfl rfl ?_
                    refine s_aload_n C dX11_reads_86 rfl ?_
                    refine s_getr (k := 21) (b := 83) C dX11_reads_87 fl_X11_59 (by decide) rfl (by decide) rfl ?_
                    refine s_iload_n C dX11_reads_90 rfl ?_
                    refine s_iload C dX11_reads_91 rfl ?_
                    refine s_iastore (n := 24) C dX11_reads_93 (by decide) rfl rfl (by omega) (by omega) (by omega) (by omega) ?_
                    refine s_bipush C dX11_reads_94 (by decide) ?_
                    refine s_iload_n C dX11_reads_96 rfl ?_
                    refine s_imul C dX11_reads_97 ?_
                    refine s_iload_n C dX11_reads_98 rfl ?_
                    refine s_iadd C dX11_reads_99 ?_
                    refine s_istore (lv' := [_, _, _, _, _, _, _, _, _, _, _]) C dX11_reads_100 (by decide) rfl rfl ?_
                    refine s_iconst C dX11_reads_102 ?_
                    refine s_istore (lv' := [_, _, _, _, _, _, _, _, _, _, _]) C dX11_reads_103 (by decide) rfl rfl ?_
                    refine s_iload C dX11_reads_105 rfl ?_
                    refine s_iload_n C dX11_reads_107 rfl ?_
                    refine s_icmp_ge (tgt := 172) C dX11_reads_108 (by decide) (by omega) (by omega) (fun c108 => ?_) (fun c108 => ?_)
                    · skip
                      have hbds : (0 ≤ se ∧ se < 24) ∧ (0 ≤ o ∧ o < 40) := by
                        first
                          | exact ⟨hI9, hI8⟩
                          | omega
                      refine s_aload_n C dX11_reads_172 rfl ?_
                      refine s_getr (k := 19) (b := 81) C dX11_reads_173 fl_X11_53 (by decide) rfl (by decide) rfl ?_
                      refine s_iload C dX11_reads_176 rfl ?_
                      refine s_iload C dX11_reads_178 rfl ?_
                      refine s_iastore (n := 960) C dX11_reads_180 (by decide) rfl rfl (by omega) (by omega) (by omega) (by first | omega | decide) ?_
                      refine s_iinc (lv' := [_, _, _, _, _, _, _, _, _, _, _]) C dX11_reads_181 rfl (by decide) rfl rfl rfl ?_
                      refine s_iconst C dX11_reads_184 ?_
                      refine s_istore (lv' := [_, _, _, _, _, _, _, _, _, _, _]) C dX11_reads_185 (by decide) rfl rfl ?_
                      refine s_goto (tgt := 16) C dX11_reads_187 (by decide) ?_
                      first
                        | (have h5 := hI.2.2.2.1
                           have h3 := hI.2.2.2.2.1
                           exact ih16 k2 se (o + 1) pa2 0 0 _ _ _ _ (by omega) (hI.out (by omega)) hX2 (hM2.done hX2 (by omega) (by rw [mput_ne (by decide)]) (by rw [mput_ne (by decide)]) (fun x => by rw [mput_at, h3, show SS t N k2 t 7 - 1 = se by omega, h5, show o + 1 - 1 = o by omega])) (fun s a b => by rw [mput_ne (by decide)]; exact hC2 s a b) (Or.inr ⟨hI.2.1.1, fun hlt => by
                             first
                               | (exfalso; omega)
                               | (have g := q118.n c121
                                  rw [b67] at g
                                  exact g)⟩) (hA2.put (by decide)) (by omega))
                        | (exfalso; omega)
                        | (exfalso
                           have g := q118.n c121
                           first
                             | (rw [a67] at g; exact g (q33.y c36))
                             | (rw [mput_ne (by decide), a67] at g; exact g (q33.y c36)))
                    · skip
                      refine s_aload_n C dX11_reads_111 rfl ?_
                      refine s_getr (k := 0) (b := 67) C dX11_reads_112 fl_X11_7 (by decide) rfl (by decide) rfl ?_
                      refine s_iload C dX11_reads_115 rfl ?_
                      refine s_baload (n := 3000) C dX11_reads_117 (by decide) rfl rfl (by omega) (by omega) (by omega) (rfl) (fun r117 => ?_)
                      refine s_callS1 C dX11_reads_118 cy_X11_isOfWord cs_X11_isOfWord lk_X11_143 (ct_X11_isOfWord E _ _ (by omega)) (by decide) (Nat.le_of_ble_eq_true rfl) (k_P (fun z118 q118 => ?_))
                      refine s_if_eq (tgt := 172) C dX11_reads_121 (by decide) (by have := q118.b; omega) (fun c121 => ?_) (fun c121 => ?_)
                      · skip
                        have hbds : (0 ≤ se ∧ se < 24) ∧ (0 ≤ o ∧ o < 40) := by
                          first
                            | exact ⟨hI9, hI8⟩
                            | omega
                        refine s_aload_n C dX11_reads_172 rfl ?_
                        refine s_getr (k := 19) (b := 81) C dX11_reads_173 fl_X11_53 (by decide) rfl (by decide) rfl ?_
                        refine s_iload C dX11_reads_176 rfl ?_
                        refine s_iload C dX11_reads_178 rfl ?_
                        refine s_iastore (n := 960) C dX11_reads_180 (by decide) rfl rfl (by omega) (by omega) (by omega) (by first | omega | decide) ?_
                        refine s_iinc (lv' := [_, _, _, _, _, _, _, _, _, _, _]) C dX11_reads_181 rfl (by decide) rfl rfl rfl ?_
                        refine s_iconst C dX11_reads_184 ?_
                        refine s_istore (lv' := [_, _, _, _, _, _, _, _, _, _, _]) C dX11_reads_185 (by decide) rfl rfl ?_
                        refine s_goto (tgt := 16) C dX11_reads_187 (by decide) ?_
                        first
                          | (have h5 := hI.2.2.2.1
                             have h3 := hI.2.2.2.2.1
                             exact ih16 k2 se (o + 1) pa2 0 0 _ _ _ _ (by omega) (hI.out (by omega)) hX2 (hM2.done hX2 (by omega) (by rw [mput_ne (by decide)]) (by rw [mput_ne (by decide)]) (fun x => by rw [mput_at, h3, show SS t N k2 t 7 - 1 = se by omega, h5, show o + 1 - 1 = o by omega])) (fun s a b => by rw [mput_ne (by decide)]; exact hC2 s a b) (Or.inr ⟨hI.2.1.1, fun hlt => by
                               first
                                 | (exfalso; omega)
                                 | (have g := q118.n c121
                                    rw [b67] at g
                                    exact g)⟩) (hA2.put (by decide)) (by omega))
                          | (exfalso; omega)
                          | (exfalso
                             have g := q118.n c121
                             first
                               | (rw [a67] at g; exact g (q33.y c36))
                               | (rw [mput_ne (by decide), a67] at g; exact g (q33.y c36)))
                      · skip
                        refine s_iload C dX11_reads_124 rfl ?_
                        refine s_bipush C dX11_reads_126 (by decide) ?_
                        refine s_icmp_ne (tgt := 139) C dX11_reads_128 (by decide) (by omega) (by omega) (fun c128 => ?_) (fun c128 => ?_)
                        · skip
                          have hbds : (0 ≤ se ∧ se < 24) ∧ (0 ≤ o ∧ o < 40) := by
                            first
                              | exact ⟨hI9, hI8⟩
                              | omega
                          refine s_aload_n C dX11_reads_139 rfl ?_
                          refine s_getr (k := 18) (b := 80) C dX11_reads_140 fl_X11_50 (by decide) rfl (by decide) rfl ?_
                          refine s_bipush C dX11_reads_143 (by decide) ?_
                          refine s_iload C dX11_reads_145 rfl ?_
                          refine s_imul C dX11_reads_147 ?_
                          refine s_iload C dX11_reads_148 rfl ?_
                          refine s_iadd C dX11_reads_150 ?_
                          refine s_aload_n C dX11_reads_151 rfl ?_
                          refine s_getr (k := 0) (b := 67) C dX11_reads_152 fl_X11_7 (by decide) rfl (by decide) rfl ?_
                          refine s_iload C dX11_reads_155 rfl ?_
                          refine s_baload (n := 3000) C dX11_reads_157 (by decide) rfl rfl (by omega) (by omega) (by omega) (rfl) (fun r157 => ?_)
                          refine s_callS1 C dX11_reads_158 cy_X11_small cs_X11_small lk_X11_147 (ct_X11_small E _ _ (by omega)) (by decide) (Nat.le_of_ble_eq_true rfl) (k_P (fun z158 q158 => ?_))
                          refine s_i2b C dX11_reads_161 ?_
                          refine s_bastore (n := 15360) C dX11_reads_162 (by decide) rfl rfl (by omega) (by omega) (by omega) (by have := zb_rg z158; omega) (by have := zb_rg z158; omega) ?_
                          refine s_iinc (lv' := [_, _, _, _, _, _, _, _, _, _, _]) C dX11_reads_163 rfl (by decide) rfl rfl rfl ?_
                          refine s_iinc (lv' := [_, _, _, _, _, _, _, _, _, _, _]) C dX11_reads_166 rfl (by decide) rfl rfl rfl ?_
                          first
                            | (have hof := q118.y c121
                               rw [b67] at hof q158
                               have hb2 := (hTp (k2 : Int) (by omega) (by omega))
                               obtain ⟨dh1, dh2, dh3⟩ := chr hb2.1
                               rw [← hb2.2] at dh1 dh2
                               have hSs2 := SS_s ht hI1 (k := k2)
                               have hz : zb z158 = low (N 2 (k2 : Int)) := by rw [q158, zb_id (low_b (by omega)), dh2 hof]
                               have h3 := hI.2.2.2.2.1
                               have hst := st_letter ht (S := SS t N k2) (p := (k2 : Int)) (b := low (N 2 (k2 : Int))) hI.2.1.1 (by omega) (dh1.mp hof)
                               rw [← hSs2] at hst
                               have hpos := hI.2.2.2.2.2.1
                               have h5 := hI.2.2.2.1
                               rw [hz, show (k2 : Int) + 1 = ((k2 + 1 : Nat) : Int) by omega]
                               exact ih169 (k2 + 1) (sz + 1) pa2 _ _ _ (by omega) (hI.ltr c128 hst) (hX2.ltr hI2.2 (by omega) (by omega) hst).1 (hM2.ltr hX2 (by omega) (by omega) (by omega) hst (by rw [mput_ne (by decide)]) (by rw [mput_ne (by decide)]) (fun x => by rw [mput_at, show 16 * (40 * (SS t N k2 t 7 - 1) + (SS t N k2 (t + 5) (SS t N k2 t 7 - 1) - 1)) + SS t N k2 (t + 3) (SS t N k2 t 6 - 1) = 16 * (40 * se + o) + sz from by rw [show SS t N k2 t 7 - 1 = se by omega, h5, h3]; omega])) (fun s a b => by rw [mput_ne (by decide), hC2 s a b, hst.2.2.2.2.2.2.1]) (hA2.put (by decide)) (by omega))
                            | (have hof := q33.y c36
                               have ho := c72
                               obtain ⟨t0, s24⟩ := hN.2.2.2.2.2 ho
                               rw [a67] at q158
                               have hz : zb z158 = low (N 2 (k : Int)) := by rw [q158, zb_id (low_b (by omega)), ch2 hof]
                               have h3 := hL.2.1
                               have h7 := hL.2.2.1
                               have h5 := hL.2.2.2.1 ho
                               rw [if_neg ho] at h3 h7
                               have hst := st_word ht (S := SS t N k) (p := (k : Int)) (b := low (N 2 (k : Int))) h00 (by rcases hw with g | ⟨_, g⟩; exact g; exact absurd (q33.y c36) (g (by omega))) h3 (by rw [show SS t N k t 7 - 1 = se by omega, h5]; omega) (ch1.mp hof)
                               rw [← hSs] at hst
                               have hlast := (hX.2.2.2.1 se (by omega) (by omega)).2.2.2 (by omega)
                               have hfw := hX.2.2.2.2
                               have h6le : SS t N k t 6 < 40 * SS t N k t 7 := by have := LR_words hX (by omega); rw [show SS t N k t 7 - 1 = se by omega, h5] at this; omega
                               subst t0
                               rw [hz, show (k : Int) + 1 = ((k + 1 : Nat) : Int) by omega]
                               exact L169 _ (k + 1) 1 pa _ _ _ (by omega) (hL.word hX ho (by omega) hst) (hX.wrd (by omega) (by omega) (by rw [show SS t N k t 7 - 1 = se by omega, h5]; omega) h6le hst) (by rw [hst.2.1.1, show SS t N k t 6 + 1 - 1 = SS t N k t 6 by omega]; exact hM.wrd hX (by omega) hst (by rw [mput_ne (by decide)]) (by rw [mput_ne (by decide)]) (by rw [show SS t N k t 7 - 1 = se by omega, h5]; omega) (fun x => by rw [mput_at, show SS t N k t 7 - 1 = se by omega, h5])) (fun s a b => by rw [mput_ne (by decide), hC s a b, hst.2.2.2.2.2.2.1, if_neg (by omega)]) (hA.put (by decide)) (Nat.lt_succ_self _))
                            | (have hof := q33.y c36
                               have ho := c72
                               subst ho
                               rw [mput_ne (by decide), a67] at q158
                               have hz : zb z158 = low (N 2 (k : Int)) := by rw [q158, zb_id (low_b (by omega)), ch2 hof]
                               have h3 := hL.2.1
                               have h7 := hL.2.2.1
                               rw [if_pos rfl] at h3 h7
                               have hst := st_first ht (S := SS t N k) (p := (k : Int)) (b := low (N 2 (k : Int))) h00 (by rcases hw with g | ⟨_, g⟩; exact g; exact absurd (q33.y c36) (g (by omega))) h3 (by omega) (ch1.mp hof)
                               rw [← hSs] at hst
                               have hI0 := hL.first hX (by omega) hst
                               have hpa : (if SS t N k 16 5 = 0 then SS t N k 16 6 else SS t N k 16 6 + 1) = (if tu = 0 then pa else pa + 1) := by rw [hL.2.2.2.2.1.1, hL.2.2.2.2.1.2]
                               rw [hpa] at hst
                               rw [hz, show (k : Int) + 1 = ((k + 1 : Nat) : Int) by omega]
                               have key : ∀ pv, pv = (if tu = 0 then pa else pa + 1) → TMt t (SS t N (k + 1)) (mput (mput A 83 se pv) 80 (16 * (40 * se + 0) + 0) (low (N 2 (k : Int)))) (SS t N (k + 1) t 6 - 1) := fun pv hpv => by
                                 rw [hst.2.1.1, show SS t N k t 6 + 1 - 1 = SS t N k t 6 by omega]
                                 exact hM.fst hX (by omega) hst (by rw [mput_ne (by decide), mput_ne (by decide)]) (fun x => by rw [mput_at, mput_ne (by decide), h7]) (fun x => by rw [mput_ne (by decide), mput_at, h7, hpv])
                               first
                                 | (rw [if_pos c77] at hI0 key
                                    exact L169 _ (k + 1) 1 pa _ _ _ (by omega) hI0 (hX.fst (by omega) (by omega) hst) (key pa rfl) (fun s a b => by rw [mput_ne (by decide), mput_ne (by decide), hC s a b, hst.2.2.2.2.2.2.1, if_neg (by omega)]) ((hA.put (by decide)).put (by decide)) (Nat.lt_succ_self _))
                                 | (rw [if_neg c77] at hI0 key
                                    exact L169 _ (k + 1) 1 (pa + 1) _ _ _ (by omega) hI0 (hX.fst (by omega) (by omega) hst) (key (pa + 1) rfl) (fun s a b => by rw [mput_ne (by decide), mput_ne (by decide), hC s a b, hst.2.2.2.2.2.2.1, if_neg (by omega)]) ((hA.put (by decide)).put (by decide)) (Nat.lt_succ_self _)))
                        · skip
                          refine s_aload_n C dX11_reads_131 rfl ?_
                          refine s_iconst C dX11_reads_132 ?_
                          refine s_iload C dX11_reads_133 rfl ?_
                          refine s_callV2 C dX11_reads_135 cy_X11_wrong cv_X11_wrong lk_X11_189 (ct_X11_wrong E _ 2 _ (by decide) (by omega)) (by decide) (by decide) (by first | decide | (decide)) rfl (Nat.le_of_ble_eq_true rfl) (k_I (fun z135 M135 q135 => ?_))
                          obtain ⟨z135e, q135⟩ := q135
                          subst z135e
                          exact s_ireturn C dX11_reads_138 (⟨_, rfl, by
      first
        | (exfalso; omega)
        | (subst q135
           have hb2 := (hTp (k2 : Int) (by omega) (by omega))
           obtain ⟨dh1, dh2, dh3⟩ := chr hb2.1
           rw [← hb2.2] at dh1
           have hSs2 := SS_s ht hI1 (k := k2)
           have hof := q118.y c121
           rw [b67] at hof
           have hf := st_f2 ht (S := SS t N k2) (p := (k2 : Int)) (b := low (N 2 (k2 : Int))) hI.2.1.1 (by have := hI.2.2.2.2.1; omega) (dh1.mp hof)
           rw [← hSs2] at hf
           exact rd_fault hNn (k := k2 + 1) (by omega) (by decide) hf.1 hf.2 hA2)⟩)
              · skip
                refine s_aload_n C dX11_reads_63 rfl ?_
                refine s_iconst C dX11_reads_64 ?_
                refine s_iload C dX11_reads_65 rfl ?_
                refine s_callV2 C dX11_reads_67 cy_X11_wrong cv_X11_wrong lk_X11_189 (ct_X11_wrong E A 3 (k : Int) (by decide) (by omega)) (by decide) (by decide) (by first | decide | (decide)) rfl (Nat.le_of_ble_eq_true rfl) (k_I (fun z67 M67 q67 => ?_))
                obtain ⟨z67e, q67⟩ := q67
                subst z67e
                exact s_ireturn C dX11_reads_70 (⟨_, rfl, by
      subst q67
      have ho : o ≠ 0 := by omega
      have h7 := hL.2.2.1
      have h3 := hL.2.1
      have h5 := hL.2.2.2.1 ho
      rw [if_neg ho] at h7 h3
      have hf := st_f3 ht (S := SS t N k) (p := (k : Int)) (b := low (N 2 (k : Int))) (by rcases hw with g | ⟨_, g⟩; exact g; exact absurd (q33.y c36) (g (by omega))) h3 (by rw [show SS t N k t 7 - 1 = se by omega]; omega) (ch1.mp (q33.y c36))
      rw [← hSs] at hf
      exact rd_fault hNn (k := k + 1) (by omega) (by decide) hf.1 hf.2 hA⟩)
            · skip
              refine s_aload_n C dX11_reads_49 rfl ?_
              refine s_iconst C dX11_reads_50 ?_
              refine s_iload C dX11_reads_51 rfl ?_
              refine s_callV2 C dX11_reads_53 cy_X11_wrong cv_X11_wrong lk_X11_189 (ct_X11_wrong E A 4 (k : Int) (by decide) (by omega)) (by decide) (by decide) (by first | decide | (decide)) rfl (Nat.le_of_ble_eq_true rfl) (k_I (fun z53 M53 q53 => ?_))
              obtain ⟨z53e, q53⟩ := q53
              subst z53e
              exact s_ireturn C dX11_reads_56 (⟨_, rfl, by
      subst q53
      have h7 := hL.2.2.1
      have h3 := hL.2.1
      rw [if_pos c40] at h7 h3
      have hf := st_f4 ht (S := SS t N k) (p := (k : Int)) (b := low (N 2 (k : Int))) (by rcases hw with g | ⟨_, g⟩; exact g; exact absurd (q33.y c36) (g (by omega))) h3 (by omega) (ch1.mp (q33.y c36))
      rw [← hSs] at hf
      exact rd_fault hNn (k := k + 1) (by omega) (by decide) hf.1 hf.2 hA⟩)
  refine s_iconst C dX11_reads_0 ?_
  refine s_istore_n (lv' := [_, _, _, _, _, _, _, _, _, _, _]) C dX11_reads_1 (by decide) rfl rfl ?_
  refine s_iconst C dX11_reads_2 ?_
  refine s_istore_n (lv' := [_, _, _, _, _, _, _, _, _, _, _]) C dX11_reads_3 (by decide) rfl rfl ?_
  refine s_iconst C dX11_reads_4 ?_
  refine s_istore (lv' := [_, _, _, _, _, _, _, _, _, _, _]) C dX11_reads_5 (by decide) rfl rfl ?_
  refine s_iconst C dX11_reads_7 ?_
  refine s_istore (lv' := [_, _, _, _, _, _, _, _, _, _, _]) C dX11_reads_8 (by decide) rfl rfl ?_
  refine s_iconst C dX11_reads_10 ?_
  refine s_istore (lv' := [_, _, _, _, _, _, _, _, _, _, _]) C dX11_reads_11 (by decide) rfl rfl ?_
  refine s_iconst C dX11_reads_13 ?_
  refine s_istore (lv' := [_, _, _, _, _, _, _, _, _, _, _]) C dX11_reads_14 (by decide) rfl rfl ?_
  obtain ⟨i1, i2, i3⟩ := LR.init ht N
  exact L16 _ 0 0 0 0 0 0 M _ _ _ (by omega) i1 i2 ⟨fun s w a b => by have := i1.2.2.1; rw [if_pos rfl] at this; omega, fun s a b => by have := i1.2.2.1; rw [if_pos rfl] at this; omega⟩ (fun s a b => by omega) (Or.inl i3) (Sm.rf M _) (Nat.lt_succ_self _)
