theorem TT.sm {A B : Mm} {n r : Int} (h : TT (B 95) n r) (e : A 95 = B 95) : TT (A 95) n r := by rw [e]; exact h
/-- how many are put when those ahead of i are through -/
def mvT (n l u f i : Int) : Int := min i n - max 0 (min i (u + 1) - l) + (if f < i then u - l + 1 else 0)

set_option maxRecDepth 20000 in
set_option maxHeartbeats 4000000 in
theorem ct_X11_move (E : Ev) (M : Mm) (hI : RI M) (t f : Int) (ht : rg t) (hf : rg f) : Ct E yX11_move cX11_move 6 (some .int) 6 [zr E 66, zi t, zi f] M (pI (fun z M' => (¬ ((0 ≤ t ∧ t < M 66 24) ∧ 0 ≤ f ∧ f ≤ M 66 24) ∧ z = -2 ∧ M' = M) ∨ (((0 ≤ t ∧ t < M 66 24) ∧ 0 ≤ f ∧ f ≤ M 66 24) ∧ ∃ M1 r l u, Tfs M M1 ∧ TT (M1 95) (M 66 24) r ∧ Iv (M1 95) (M 66 24) r t l u ∧ ((l ≤ f ∧ f ≤ u ∧ z = -2 ∧ M' = M1) ∨ (¬ (l ≤ f ∧ f ≤ u) ∧ MvR M1 M' (M 66 24) z (mvA (M1 85) l u f)))))) := by
  refine Ct.of (own := RX11) (lv0 := [some (zr E 66), some (zi t), some (zi f), none, none, none]) (by decide) rfl (Nat.le_of_ble_eq_true rfl) rfl (fun κ C => ?_)
  have L52 : ∀ (n9 : Nat) (i to r l u : Int) (A B : Mm) (u5 : Option Value) (hi : 0 ≤ i ∧ i ≤ M 66 24 + 1) (hok : (0 ≤ t ∧ t < M 66 24) ∧ 0 ≤ f ∧ f ≤ M 66 24) (hQ : Tfs M B) (hT : TT (B 95) (M 66 24) r) (hv : Iv (B 95) (M 66 24) r t l u) (hno : ¬ (l ≤ f ∧ f ≤ u)) (hS : Sm B A [106]) (hto : to = mvT (M 66 24) l u f i) (hg : ∀ p, 0 ≤ p → p < to → A 106 p = mvA (B 85) l u f p) (hm : (M 66 24 + 1 - i).toNat < n9), Gm E κ (pI (fun z M' => (¬ ((0 ≤ t ∧ t < M 66 24) ∧ 0 ≤ f ∧ f ≤ M 66 24) ∧ z = -2 ∧ M' = M) ∨ (((0 ≤ t ∧ t < M 66 24) ∧ 0 ≤ f ∧ f ≤ M 66 24) ∧ ∃ M1 r l u, Tfs M M1 ∧ TT (M1 95) (M 66 24) r ∧ Iv (M1 95) (M 66 24) r t l u ∧ ((l ≤ f ∧ f ≤ u ∧ z = -2 ∧ M' = M1) ∨ (¬ (l ≤ f ∧ f ≤ u) ∧ MvR M1 M' (M 66 24) z (mvA (M1 85) l u f)))))) 6 52 [some (zr E 66), some (zi t), some (zi f), some (zi to), some (zi i), u5] [] A := by
    intro n9
    induction n9 with
    | zero => intro i to r l u A B u5 hi hok hQ hT hv hno hS hto hg hm; exact absurd hm (Nat.not_lt_zero _)
    | succ n9 ih52 =>
      intro i to r l u A B u5 hi hok hQ hT hv hno hS hto hg hm
      have nB : B 66 24 = M 66 24 := hQ.2.1 24 (by decide) (by decide) (by decide)
      have nA : A 66 24 = M 66 24 := by rw [hS 66 (by decide)]; exact nB
      have hn := hI.n
      have hn3 : 1 ≤ M 66 24 ∧ M 66 24 ≤ 24 := by omega
      have hv1 := hv.1
      have hto2 : 0 ≤ to ∧ to ≤ M 66 24 := by unfold mvT at hto; split at hto <;> omega
      have hto8 : (f < i ∧ to = min i (M 66 24) - max 0 (min i (u + 1) - l) + (u - l + 1)) ∨ (¬ f < i ∧ to = min i (M 66 24) - max 0 (min i (u + 1) - l)) := by unfold mvT at hto; split at hto <;> omega
      have L114 : ∀ (to3 : Int) (A3 : Mm) (u5 : Option Value) (hil : i ≤ M 66 24) (hto3 : to3 = to + (if i = f then u - l + 1 else 0)) (hS3 : Sm B A3 [106]) (hg3 : ∀ p, 0 ≤ p → p < to3 → A3 106 p = mvA (B 85) l u f p), Gm E κ (pI (fun z M' => (¬ ((0 ≤ t ∧ t < M 66 24) ∧ 0 ≤ f ∧ f ≤ M 66 24) ∧ z = -2 ∧ M' = M) ∨ (((0 ≤ t ∧ t < M 66 24) ∧ 0 ≤ f ∧ f ≤ M 66 24) ∧ ∃ M1 r l u, Tfs M M1 ∧ TT (M1 95) (M 66 24) r ∧ Iv (M1 95) (M 66 24) r t l u ∧ ((l ≤ f ∧ f ≤ u ∧ z = -2 ∧ M' = M1) ∨ (¬ (l ≤ f ∧ f ≤ u) ∧ MvR M1 M' (M 66 24) z (mvA (M1 85) l u f)))))) 6 114 [some (zr E 66), some (zi t), some (zi f), some (zi to3), some (zi i), u5] [] A3 := by
        intro to3 A3 u5 hil hto3 hS3 hg3
        refine s_iload C dX11_move_114 rfl ?_
        refine s_aload_n C dX11_move_116 rfl ?_
        refine s_geti (k := 24) (j := 24) (z := M 66 24) C dX11_move_117 fl_X11_196 (by decide) rfl (by decide) rfl (by rw [hS3 66 (by decide)]; exact nB) (fun r117 => ?_)
        refine s_icmp_eq (tgt := 152) C dX11_move_120 (by decide) (by omega) (by omega) (fun c120 => ?_) (fun c120 => ?_)
        · skip
          refine s_iinc (lv' := [_, _, _, _, _, _]) C dX11_move_152 rfl (by decide) rfl rfl rfl ?_
          refine s_goto (tgt := 52) C dX11_move_155 (by decide) ?_
          first
            | (have c0 : i = M 66 24 := by omega
               exact ih52 (i + 1) to3 r l u A3 B _ (by omega) hok hQ hT hv hno hS3 (by unfold mvT; unfold mvT at hto; split at hto3 <;> split at hto <;> split <;> omega) hg3 (by omega))
            | (have kk := k127.mp (q127.y c130)
               exact ih52 (i + 1) to3 r l u A3 B _ (by omega) hok hQ hT hv hno hS3 (by unfold mvT; unfold mvT at hto; split at hto3 <;> split at hto <;> split <;> omega) hg3 (by omega))
            | (have hto5 : to3 + 1 = mvT (M 66 24) l u f (i + 1) := by unfold mvT; unfold mvT at hto; split at hto3 <;> split at hto <;> split <;> omega
               have hto6 : to3 = mvT (M 66 24) l u f (i + 1) - 1 := by omega
               have hto7 : (f < i + 1 ∧ to3 = min (i + 1) (M 66 24) - 1 - max 0 (min (i + 1) (u + 1) - l) + (u - l + 1)) ∨ (¬ f < i + 1 ∧ to3 = min (i + 1) (M 66 24) - 1 - max 0 (min (i + 1) (u + 1) - l)) := by unfold mvT at hto6; split at hto6 <;> omega
               exact ih52 (i + 1) (to3 + 1) r l u _ B _ (by omega) hok hQ hT hv hno (hS3.put (by decide)) hto5 (fun p p0 p1 => by
                 by_cases cp : p = to3
                 · subst cp; rw [mput_eq]; unfold mvA; repeat' split
                   all_goals first | rfl | (exfalso; omega) | (congr 1; omega)
                 · rw [mput_nk cp]; exact hg3 p p0 (by omega)) (by omega))
        · skip
          refine s_aload_n C dX11_move_123 rfl ?_
          refine s_iload C dX11_move_124 rfl ?_
          refine s_iload_n C dX11_move_126 rfl ?_
          refine s_callV2 C dX11_move_127 cy_X11_isOf cv_X11_isOf lk_X11_246 (ct_X11_isOf E A3 r (by rw [hS3 66 (by decide), nB]; exact hn3) (by rw [hS3 66 (by decide), nB]; exact hT.sm (hS3 95 (by decide))) i t (by rw [hS3 66 (by decide), nB]; omega) (by rw [hS3 66 (by decide), nB]; omega)) (by decide) (by decide) (by first | decide | (decide)) rfl (Nat.le_of_ble_eq_true rfl) (k_P (fun z127 q127 => ?_))
          rw [hS3 95 (by decide)] at q127
          have k127 := hv.2 i (by omega) (by omega)
          refine s_if_eq (tgt := 136) C dX11_move_130 (by decide) (by have := q127.b; omega) (fun c130 => ?_) (fun c130 => ?_)
          · skip
            have kk : ¬ (l ≤ i ∧ i ≤ u) := fun g => q127.n c130 (k127.mpr g)
            have hto4 : 0 ≤ to3 ∧ to3 ≤ 23 := by split at hto3 <;> omega
            refine s_aload_n C dX11_move_136 rfl ?_
            refine s_getr (k := 54) (b := 106) C dX11_move_137 fl_X11_133 (by decide) rfl (by decide) rfl ?_
            refine s_iload_n C dX11_move_140 rfl ?_
            refine s_aload_n C dX11_move_141 rfl ?_
            refine s_getr (k := 23) (b := 85) C dX11_move_142 fl_X11_65 (by decide) rfl (by decide) rfl ?_
            refine s_iload C dX11_move_145 rfl ?_
            refine s_iaload (n := 24) (z := B 85 i) C dX11_move_147 (by decide) rfl rfl (by omega) (by omega) (by omega) (by rw [hS3 85 (by decide)]) (fun r147 => ?_)
            refine s_iastore (n := 24) C dX11_move_148 (by decide) rfl rfl (by omega) (by omega) (by omega) (by omega) ?_
            refine s_iinc (lv' := [_, _, _, _, _, _]) C dX11_move_149 rfl (by decide) rfl rfl rfl ?_
            refine s_iinc (lv' := [_, _, _, _, _, _]) C dX11_move_152 rfl (by decide) rfl rfl rfl ?_
            refine s_goto (tgt := 52) C dX11_move_155 (by decide) ?_
            first
              | (have c0 : i = M 66 24 := by omega
                 exact ih52 (i + 1) to3 r l u A3 B _ (by omega) hok hQ hT hv hno hS3 (by unfold mvT; unfold mvT at hto; split at hto3 <;> split at hto <;> split <;> omega) hg3 (by omega))
              | (have kk := k127.mp (q127.y c130)
                 exact ih52 (i + 1) to3 r l u A3 B _ (by omega) hok hQ hT hv hno hS3 (by unfold mvT; unfold mvT at hto; split at hto3 <;> split at hto <;> split <;> omega) hg3 (by omega))
              | (have hto5 : to3 + 1 = mvT (M 66 24) l u f (i + 1) := by unfold mvT; unfold mvT at hto; split at hto3 <;> split at hto <;> split <;> omega
                 have hto6 : to3 = mvT (M 66 24) l u f (i + 1) - 1 := by omega
                 have hto7 : (f < i + 1 ∧ to3 = min (i + 1) (M 66 24) - 1 - max 0 (min (i + 1) (u + 1) - l) + (u - l + 1)) ∨ (¬ f < i + 1 ∧ to3 = min (i + 1) (M 66 24) - 1 - max 0 (min (i + 1) (u + 1) - l)) := by unfold mvT at hto6; split at hto6 <;> omega
                 exact ih52 (i + 1) (to3 + 1) r l u _ B _ (by omega) hok hQ hT hv hno (hS3.put (by decide)) hto5 (fun p p0 p1 => by
                   by_cases cp : p = to3
                   · subst cp; rw [mput_eq]; unfold mvA; repeat' split
                     all_goals first | rfl | (exfalso; omega) | (congr 1; omega)
                   · rw [mput_nk cp]; exact hg3 p p0 (by omega)) (by omega))
          · skip
            refine s_goto (tgt := 152) C dX11_move_133 (by decide) ?_
            refine s_iinc (lv' := [_, _, _, _, _, _]) C dX11_move_152 rfl (by decide) rfl rfl rfl ?_
            refine s_goto (tgt := 52) C dX11_move_155 (by decide) ?_
            first
              | (have c0 : i = M 66 24 := by omega
                 exact ih52 (i + 1) to3 r l u A3 B _ (by omega) hok hQ hT hv hno hS3 (by unfold mvT; unfold mvT at hto; split at hto3 <;> split at hto <;> split <;> omega) hg3 (by omega))
              | (have kk := k127.mp (q127.y c130)
                 exact ih52 (i + 1) to3 r l u A3 B _ (by omega) hok hQ hT hv hno hS3 (by unfold mvT; unfold mvT at hto; split at hto3 <;> split at hto <;> split <;> omega) hg3 (by omega))
              | (have hto5 : to3 + 1 = mvT (M 66 24) l u f (i + 1) := by unfold mvT; unfold mvT at hto; split at hto3 <;> split at hto <;> split <;> omega
                 have hto6 : to3 = mvT (M 66 24) l u f (i + 1) - 1 := by omega
                 have hto7 : (f < i + 1 ∧ to3 = min (i + 1) (M 66 24) - 1 - max 0 (min (i + 1) (u + 1) - l) + (u - l + 1)) ∨ (¬ f < i + 1 ∧ to3 = min (i + 1) (M 66 24) - 1 - max 0 (min (i + 1) (u + 1) - l)) := by unfold mvT at hto6; split at hto6 <;> omega
                 exact ih52 (i + 1) (to3 + 1) r l u _ B _ (by omega) hok hQ hT hv hno (hS3.put (by decide)) hto5 (fun p p0 p1 => by
                   by_cases cp : p = to3
                   · subst cp; rw [mput_eq]; unfold mvA; repeat' split
                     all_goals first | rfl | (exfalso; omega) | (congr 1; omega)
                   · rw [mput_nk cp]; exact hg3 p p0 (by omega)) (by omega))
      have L70 : ∀ (n9 : Nat) (k to2 : Int) (A2 : Mm) (hif : i = f) (hk : 0 ≤ k ∧ k ≤ M 66 24) (hto2b : to2 = to + max 0 (min k (u + 1) - l)) (hS2 : Sm B A2 [106]) (hg2 : ∀ p, 0 ≤ p → p < to2 → A2 106 p = mvA (B 85) l u f p) (hm : (M 66 24 - k).toNat < n9), Gm E κ (pI (fun z M' => (¬ ((0 ≤ t ∧ t < M 66 24) ∧ 0 ≤ f ∧ f ≤ M 66 24) ∧ z = -2 ∧ M' = M) ∨ (((0 ≤ t ∧ t < M 66 24) ∧ 0 ≤ f ∧ f ≤ M 66 24) ∧ ∃ M1 r l u, Tfs M M1 ∧ TT (M1 95) (M 66 24) r ∧ Iv (M1 95) (M 66 24) r t l u ∧ ((l ≤ f ∧ f ≤ u ∧ z = -2 ∧ M' = M1) ∨ (¬ (l ≤ f ∧ f ≤ u) ∧ MvR M1 M' (M 66 24) z (mvA (M1 85) l u f)))))) 6 70 [some (zr E 66), some (zi t), some (zi f), some (zi to2), some (zi i), some (zi k)] [] A2 := by
        intro n9
        induction n9 with
        | zero => intro k to2 A2  hif hk hto2b hS2 hg2 hm; exact absurd hm (Nat.not_lt_zero _)
        | succ n9 ih70 =>
          intro k to2 A2  hif hk hto2b hS2 hg2 hm
          refine s_iload C dX11_move_70 rfl ?_
          refine s_aload_n C dX11_move_72 rfl ?_
          refine s_geti (k := 24) (j := 24) (z := M 66 24) C dX11_move_73 fl_X11_196 (by decide) rfl (by decide) rfl (by rw [hS2 66 (by decide)]; exact nB) (fun r73 => ?_)
          refine s_icmp_ge (tgt := 114) C dX11_move_76 (by decide) (by omega) (by omega) (fun c76 => ?_) (fun c76 => ?_)
          · skip
            exact L114 to2 A2 _ (by omega) (by rw [if_pos hif]; omega) hS2 hg2
          · skip
            refine s_aload_n C dX11_move_79 rfl ?_
            refine s_iload C dX11_move_80 rfl ?_
            refine s_iload_n C dX11_move_82 rfl ?_
            refine s_callV2 C dX11_move_83 cy_X11_isOf cv_X11_isOf lk_X11_246 (ct_X11_isOf E A2 r (by rw [hS2 66 (by decide), nB]; exact hn3) (by rw [hS2 66 (by decide), nB]; exact hT.sm (hS2 95 (by decide))) k t (by rw [hS2 66 (by decide), nB]; omega) (by rw [hS2 66 (by decide), nB]; omega)) (by decide) (by decide) (by first | decide | (decide)) rfl (Nat.le_of_ble_eq_true rfl) (k_P (fun z83 q83 => ?_))
            rw [hS2 95 (by decide)] at q83
            have k83 := hv.2 k (by omega) (by omega)
            refine s_if_ne (tgt := 92) C dX11_move_86 (by decide) (by have := q83.b; omega) (fun c86 => ?_) (fun c86 => ?_)
            · skip
              have kk := k83.mp (q83.y c86)
              refine s_aload_n C dX11_move_92 rfl ?_
              refine s_getr (k := 54) (b := 106) C dX11_move_93 fl_X11_133 (by decide) rfl (by decide) rfl ?_
              refine s_iload_n C dX11_move_96 rfl ?_
              refine s_aload_n C dX11_move_97 rfl ?_
              refine s_getr (k := 23) (b := 85) C dX11_move_98 fl_X11_65 (by decide) rfl (by decide) rfl ?_
              refine s_iload C dX11_move_101 rfl ?_
              refine s_iaload (n := 24) (z := B 85 k) C dX11_move_103 (by decide) rfl rfl (by omega) (by omega) (by omega) (by rw [hS2 85 (by decide)]) (fun r103 => ?_)
              refine s_iastore (n := 24) C dX11_move_104 (by decide) rfl rfl (by omega) (by omega) (by omega) (by omega) ?_
              refine s_iinc (lv' := [_, _, _, _, _, _]) C dX11_move_105 rfl (by decide) rfl rfl rfl ?_
              refine s_iinc (lv' := [_, _, _, _, _, _]) C dX11_move_108 rfl (by decide) rfl rfl rfl ?_
              refine s_goto (tgt := 70) C dX11_move_111 (by decide) ?_
              first
                | (have kk := k83.mp (q83.y c86)
                   exact ih70 (k + 1) (to2 + 1) _ hif (by omega) (by omega) (hS2.put (by decide)) (fun p p0 p1 => by
                     by_cases cp : p = to2
                     · subst cp; rw [mput_eq]; unfold mvA; repeat' split
                       all_goals first | rfl | (exfalso; omega) | (congr 1; omega)
                     · rw [mput_nk cp]; exact hg2 p p0 (by omega)) (by omega))
                | (have kk : ¬ (l ≤ k ∧ k ≤ u) := fun g => q83.n c86 (k83.mpr g)
                   exact ih70 (k + 1) to2 A2 hif (by omega) (by omega) hS2 hg2 (by omega))
            · skip
              refine s_goto (tgt := 108) C dX11_move_89 (by decide) ?_
              refine s_iinc (lv' := [_, _, _, _, _, _]) C dX11_move_108 rfl (by decide) rfl rfl rfl ?_
              refine s_goto (tgt := 70) C dX11_move_111 (by decide) ?_
              first
                | (have kk := k83.mp (q83.y c86)
                   exact ih70 (k + 1) (to2 + 1) _ hif (by omega) (by omega) (hS2.put (by decide)) (fun p p0 p1 => by
                     by_cases cp : p = to2
                     · subst cp; rw [mput_eq]; unfold mvA; repeat' split
                       all_goals first | rfl | (exfalso; omega) | (congr 1; omega)
                     · rw [mput_nk cp]; exact hg2 p p0 (by omega)) (by omega))
                | (have kk : ¬ (l ≤ k ∧ k ≤ u) := fun g => q83.n c86 (k83.mpr g)
                   exact ih70 (k + 1) to2 A2 hif (by omega) (by omega) hS2 hg2 (by omega))
      refine s_iload C dX11_move_52 rfl ?_
      refine s_aload_n C dX11_move_54 rfl ?_
      refine s_geti (k := 24) (j := 24) (z := M 66 24) C dX11_move_55 fl_X11_196 (by decide) rfl (by decide) rfl (nA) (fun r55 => ?_)
      refine s_icmp_gt (tgt := 158) C dX11_move_58 (by decide) (by omega) (by omega) (fun c58 => ?_) (fun c58 => ?_)
      · skip
        refine s_aload_n C dX11_move_158 rfl ?_
        refine s_callV0 C dX11_move_159 cy_X11_setAll cv_X11_setAll lk_X11_292 (ct_X11_setAll E A (M 66 24) (by omega) nA) (by decide) (by decide) (by first | decide | (decide)) rfl (Nat.le_of_ble_eq_true rfl) (k_I (fun z159 M159 q159 => ?_))
        exact s_ireturn C dX11_move_162 (⟨_, rfl, Or.inr ⟨hok, B, r, l, u, hQ, hT, hv, Or.inr ⟨hno, MvR.of (by omega) hS (fun p p0 p1 => hg p p0 (by unfold mvT at hto; split at hto <;> omega)) q159⟩⟩⟩)
      · skip
        refine s_iload C dX11_move_61 rfl ?_
        refine s_iload_n C dX11_move_63 rfl ?_
        refine s_icmp_ne (tgt := 114) C dX11_move_64 (by decide) (by omega) (by omega) (fun c64 => ?_) (fun c64 => ?_)
        · skip
          exact L114 to A _ (by omega) (by rw [if_neg c64]; omega) hS hg
        · skip
          refine s_iconst C dX11_move_67 ?_
          refine s_istore (lv' := [_, _, _, _, _, _]) C dX11_move_68 (by decide) rfl rfl ?_
          exact L70 _ 0 to A c64 (by omega) (by omega) hS hg (Nat.lt_succ_self _)
  refine s_aload_n C dX11_move_0 rfl ?_
  refine s_iload_n C dX11_move_1 rfl ?_
  refine s_callV1 C dX11_move_2 cy_X11_isHere cv_X11_isHere lk_X11_250 (ct_X11_isHere E M t ht hI.n) (by decide) (by decide) (by first | decide | (decide)) rfl (Nat.le_of_ble_eq_true rfl) (k_P (fun z2 q2 => ?_))
  have k2 : (z2 = 1 ∧ (0 ≤ t ∧ t ≤ M 66 24 - 1)) ∨ (z2 = 0 ∧ ¬ (0 ≤ t ∧ t ≤ M 66 24 - 1)) := q2
  clear q2
  refine s_if_eq (tgt := 20) C dX11_move_5 (by decide) (by omega) (fun c5 => ?_) (fun c5 => ?_)
  · skip
    refine s_bipush C dX11_move_20 (by decide) ?_
    exact s_ireturn C dX11_move_22 (⟨_, rfl, Or.inl ⟨fun h => by omega, rfl, rfl⟩⟩)
  · skip
    refine s_iload_n C dX11_move_8 rfl ?_
    refine s_iconst C dX11_move_9 ?_
    refine s_aload_n C dX11_move_10 rfl ?_
    refine s_geti (k := 24) (j := 24) C dX11_move_11 fl_X11_196 (by decide) rfl (by decide) rfl (rfl) (fun r11 => ?_)
    refine s_callS3 C dX11_move_14 cy_X11_in cs_X11_in lk_X11_139 (ct_X11_in E M f 0 (M 66 24) hf (by decide) (by have := hI.n; omega)) (by decide) (Nat.le_of_ble_eq_true rfl) (k_P (fun z14 q14 => ?_))
    have k14 : (z14 = 1 ∧ 0 ≤ f ∧ f ≤ M 66 24) ∨ (z14 = 0 ∧ ¬ (0 ≤ f ∧ f ≤ M 66 24)) := q14
    clear q14
    refine s_if_ne (tgt := 23) C dX11_move_17 (by decide) (by omega) (fun c17 => ?_) (fun c17 => ?_)
    · skip
      refine s_aload_n C dX11_move_23 rfl ?_
      refine s_callV0 C dX11_move_24 cy_X11_makeTree cv_X11_makeTree lk_X11_253 (ct_mk E M hI (by omega)) (by decide) (by decide) (by first | decide | (decide)) rfl (Nat.le_of_ble_eq_true rfl) (k_V (fun M24 q24 => ?_))
      have hI2 := hI.tfs q24
      have n2 : M24 66 24 = M 66 24 := q24.2.1 24 (by decide) (by decide) (by decide)
      have hn := hI.n
      have hn2 : 1 ≤ M24 66 24 ∧ M24 66 24 ≤ 24 := by omega
      have hTF := q24.2.2.2
      obtain ⟨r, hT⟩ := hTF.tt hn2
      rw [n2] at hT
      obtain ⟨l, u, hv⟩ := hT.iv (i := t) (by omega)
      have hv1 := hv.1
      refine s_iload_n C dX11_move_27 rfl ?_
      refine s_aload_n C dX11_move_28 rfl ?_
      refine s_geti (k := 24) (j := 24) (z := M 66 24) C dX11_move_29 fl_X11_196 (by decide) rfl (by decide) rfl (n2) (fun r29 => ?_)
      refine s_icmp_ge (tgt := 47) C dX11_move_32 (by decide) (by omega) (by omega) (fun c32 => ?_) (fun c32 => ?_)
      · skip
        refine s_iconst C dX11_move_47 ?_
        refine s_istore_n (lv' := [_, _, _, _, _, _]) C dX11_move_48 (by decide) rfl rfl ?_
        refine s_iconst C dX11_move_49 ?_
        refine s_istore (lv' := [_, _, _, _, _, _]) C dX11_move_50 (by decide) rfl rfl ?_
        have hno : ¬ (l ≤ f ∧ f ≤ u) := by
          first
            | exact fun g => q38.n c41 ((hv.2 f (by omega) (by omega)).mpr g)
            | omega
        exact L52 _ 0 0 r l u M24 M24 _ (by omega) (by omega) q24 hT hv hno (Sm.rf _ _) (by unfold mvT; split <;> omega) (fun p p0 p1 => by omega) (Nat.lt_succ_self _)
      · skip
        refine s_aload_n C dX11_move_35 rfl ?_
        refine s_iload_n C dX11_move_36 rfl ?_
        refine s_iload_n C dX11_move_37 rfl ?_
        refine s_callV2 C dX11_move_38 cy_X11_isOf cv_X11_isOf lk_X11_246 (ct_X11_isOf E M24 r hn2 (by rw [n2]; exact hT) f t (by omega) (by omega)) (by decide) (by decide) (by first | decide | (decide)) rfl (Nat.le_of_ble_eq_true rfl) (k_P (fun z38 q38 => ?_))
        refine s_if_eq (tgt := 47) C dX11_move_41 (by decide) (by have := q38.b; omega) (fun c41 => ?_) (fun c41 => ?_)
        · skip
          refine s_iconst C dX11_move_47 ?_
          refine s_istore_n (lv' := [_, _, _, _, _, _]) C dX11_move_48 (by decide) rfl rfl ?_
          refine s_iconst C dX11_move_49 ?_
          refine s_istore (lv' := [_, _, _, _, _, _]) C dX11_move_50 (by decide) rfl rfl ?_
          have hno : ¬ (l ≤ f ∧ f ≤ u) := by
            first
              | exact fun g => q38.n c41 ((hv.2 f (by omega) (by omega)).mpr g)
              | omega
          exact L52 _ 0 0 r l u M24 M24 _ (by omega) (by omega) q24 hT hv hno (Sm.rf _ _) (by unfold mvT; split <;> omega) (fun p p0 p1 => by omega) (Nat.lt_succ_self _)
        · skip
          refine s_bipush C dX11_move_44 (by decide) ?_
          exact s_ireturn C dX11_move_46 (⟨_, rfl, Or.inr ⟨by omega, M24, r, l, u, q24, hT, hv, Or.inl ⟨((hv.2 f (by omega) (by omega)).mp (q38.y c41)).1, ((hv.2 f (by omega) (by omega)).mp (q38.y c41)).2, rfl, rfl⟩⟩⟩)
    · skip
      refine s_bipush C dX11_move_20 (by decide) ?_
      exact s_ireturn C dX11_move_22 (⟨_, rfl, Or.inl ⟨fun h => by omega, rfl, rfl⟩⟩)
