def Fup (w : Int → Int → Int) (B : Mm) (h r x y : Int) : Int := B 94 (24 * h + (x - 1)) + w y h + B 93 (24 * y + x) + B 94 (24 * y + r)
def Fdn (w : Int → Int → Int) (B : Mm) (h l x y : Int) : Int := B 93 (24 * h + (x + 1)) + w y h + B 93 (24 * y + l) + B 94 (24 * y + x)
def Fwh (M A : Mm) (h : Int) (_ : Int) : Int := if M 92 (25 * h) = 0 then M 91 h + A 93 (24 * h + 0) + A 94 (24 * h + (M 66 24 - 1)) else 1000000
theorem wR_arc {M B : Mm} (hs : Sm M B [93, 94]) {d h : Int} (hd : 0 ≤ d ∧ d < M 66 24) (hh : 0 ≤ h ∧ h < M 66 24) : (if B 92 (25 * d + h + 1) = 0 then B 90 (24 * h + d) else 1000000) = wR M d h := by
  unfold wR
  rw [if_pos (show 0 ≤ d ∧ d < M 66 24 ∧ -1 ≤ h ∧ h < M 66 24 by omega), if_neg (show ¬ h = -1 by omega), hs 92 (by decide), hs 90 (by decide)]
theorem wR_bd {M : Mm} (hp : prOkR M) {d h : Int} : 0 ≤ wR M d h ∧ wR M d h ≤ 1000000 := by
  refine ⟨wR_nn hp d h, ?_⟩
  unfold wR
  split
  · next c =>
    split
    · split
      · exact (hp.1 d c.1 c.2.1).2
      · exact (hp.2 h d (by omega) c.2.2.2 c.1 c.2.1).2
    · omega
  · omega
theorem Rr.put94 {w : Int → Int → Int} {B : Mm} {n sp h v : Int} (hr : Rr w B n sp) (hn : n ≤ 24) (hh : 0 ≤ h ∧ h + sp < n) : Rr w (mput B 94 (24 * h + (h + sp)) v) n sp := by
  intro a b a0 a1 a2 a3
  rw [mput_nk (by omega)]
  exact hr a b a0 a1 a2 a3
theorem Rl.put94 {w : Int → Int → Int} {B : Mm} {n sp k v : Int} (hr : Rl w B n sp) : Rl w (mput B 94 k v) n sp := by
  intro a b a0 a1 a2 a3
  rw [mput_ne (by decide)]
  exact hr a b a0 a1 a2 a3
theorem Rl.put93 {w : Int → Int → Int} {B : Mm} {n sp h v : Int} (hr : Rl w B n sp) (hn : n ≤ 24) (hh : sp ≤ h ∧ h < n) : Rl w (mput B 93 (24 * h + (h - sp)) v) n sp := by
  intro a b a0 a1 a2 a3
  rw [mput_nk (by omega)]
  exact hr a b a0 a1 a2 a3
theorem Rr.put93 {w : Int → Int → Int} {B : Mm} {n sp k v : Int} (hr : Rr w B n sp) : Rr w (mput B 93 k v) n sp := by
  intro a b a0 a1 a2 a3
  rw [mput_ne (by decide)]
  exact hr a b a0 a1 a2 a3
theorem up_done {w : Int → Int → Int} (hw : wnn w) {B : Mm} {n sp h best : Int} (hn : n ≤ 24) (hh : 0 ≤ h ∧ h + sp < n) (hsp : 0 ≤ sp) (hr : Rr w B n sp) (hl : Rl w B n sp) (hb : (sp = 0 ∧ best = 0) ∨ (0 < sp ∧ Bq (Fup w B h (h + sp)) (fun x y => h < x ∧ x ≤ y ∧ y ≤ h + sp) best)) : Lv w (sD h (h + sp)) best := by
  rcases hb with ⟨rfl, rfl⟩ | ⟨h0, hb⟩
  · rw [Int.add_zero]; exact Lv_self w h
  · exact Lv_up hw (vr := fun a b => B 94 (24 * a + b)) (vl := fun a b => B 93 (24 * a + b)) (by omega) (by omega) (fun k k1 k2 => hr h k (by omega) (by omega) (by omega) (by omega)) (fun d k k1 k2 k3 => hl d k (by omega) (by omega) (by omega) (by omega)) (fun d d1 d2 => hr d (h + sp) (by omega) (by omega) (by omega) (by omega)) hb
theorem dn_done {w : Int → Int → Int} (hw : wnn w) {B : Mm} {n sp h best : Int} (hn : n ≤ 24) (hh : sp ≤ h ∧ h < n) (hsp : 0 ≤ sp) (hr : Rr w B n (sp + 1)) (hl : Rl w B n sp) (hb : (sp = 0 ∧ best = 0) ∨ (0 < sp ∧ Bq (Fdn w B h (h - sp)) (fun x y => h - sp ≤ y ∧ y ≤ x ∧ x < h) best)) : Lv w (sD h (h - sp)) best := by
  rcases hb with ⟨rfl, rfl⟩ | ⟨h0, hb⟩
  · rw [Int.sub_zero]; exact Lv_self w h
  · exact Lv_dn hw (vr := fun a b => B 94 (24 * a + b)) (vl := fun a b => B 93 (24 * a + b)) (by omega) (by omega) (fun k k1 k2 => hl h k (by omega) (by omega) (by omega) (by omega)) (fun d k1 k2 => hl d (h - sp) (by omega) (by omega) (by omega) (by omega)) (fun d k d1 d2 d3 => hr d k (by omega) (by omega) (by omega) (by omega)) hb
theorem wh_done {M A : Mm} {best : Int} (hp : prOkR M) (hn : 1 ≤ M 66 24 ∧ M 66 24 ≤ 24) (hr : Rr (wR M) A (M 66 24) (M 66 24)) (hl : Rl (wR M) A (M 66 24) (M 66 24)) (hb : Bq (Fwh M A) (fun x z => 0 ≤ x ∧ x < M 66 24 ∧ z = 0) best) : Lv (wR M) (wD (M 66 24)) best := by
  refine Lv_wh (wR_nn hp) (vr := fun a b => A 94 (24 * a + b)) (vl := fun a b => A 93 (24 * a + b)) (fun h h0 h1 => ⟨hl h 0 (by omega) (by omega) h1 (by omega), hr h (M 66 24 - 1) (by omega) (by omega) (by omega) (by omega)⟩) (fun h h0 h1 => ?_) hb
  unfold Fwh wR
  rw [if_pos (by omega : 0 ≤ h ∧ h < M 66 24 ∧ -1 ≤ (-1 : Int) ∧ (-1 : Int) < M 66 24), show 25 * h + -1 + 1 = 25 * h by omega]
  by_cases c : M 92 (25 * h) = 0
  · left; rw [if_pos c, if_pos c, if_pos rfl]
  · right; rw [if_neg c, if_neg c]; exact ⟨rfl, Int.le_refl _⟩

set_option maxRecDepth 20000 in
set_option maxHeartbeats 4000000 in
theorem ct_X11_least (E : Ev) (M : Mm) (hn : 1 ≤ M 66 24 ∧ M 66 24 ≤ 24) (hp : prOkR M) : Ct E yX11_least cX11_least 8 (some .int) 1 [zr E 66] M (pI (fun z M' => Sm M M' [93, 94] ∧ Lv (wR M) (wD (M 66 24)) z)) := by
  refine Ct.of (own := RX11) (lv0 := [some (zr E 66), none, none, none, none, none, none, none]) (by decide) rfl (Nat.le_of_ble_eq_true rfl) rfl (fun κ C => ?_)
  have hw := wR_nn hp
  have L311 : ∀ (n9 : Nat) (h best : Int) (A : Mm) (u3 u4 u5 u6 u7 : Option Value) (hh : 0 ≤ h ∧ h ≤ M 66 24) (hS : Sm M A [93, 94]) (hr : Rr (wR M) A (M 66 24) (M 66 24)) (hl : Rl (wR M) A (M 66 24) (M 66 24)) (hB : Bq (Fwh M A) (fun x z => 0 ≤ x ∧ x < h ∧ z = 0) best) (hb0 : 0 ≤ best ∧ best ≤ 1000000) (hm : (M 66 24 - h).toNat < n9), Gm E κ (pI (fun z M' => Sm M M' [93, 94] ∧ Lv (wR M) (wD (M 66 24)) z)) 8 311 [some (zr E 66), some (zi best), some (zi h), u3, u4, u5, u6, u7] [] A := by
    intro n9
    induction n9 with
    | zero => intro h best A u3 u4 u5 u6 u7 hh hS hr hl hB hb0 hm; exact absurd hm (Nat.not_lt_zero _)
    | succ n9 ih311 =>
      intro h best A u3 u4 u5 u6 u7 hh hS hr hl hB hb0 hm
      have s66 : A 66 = M 66 := hS 66 (by decide)
      have s92 : A 92 = M 92 := hS 92 (by decide)
      have s91 : A 91 = M 91 := hS 91 (by decide)
      refine s_iload_n C dX11_least_311 rfl ?_
      refine s_aload_n C dX11_least_312 rfl ?_
      refine s_geti (k := 24) (j := 24) (z := M 66 24) C dX11_least_313 fl_X11_196 (by decide) rfl (by decide) rfl (by rw [s66]) (fun r313 => ?_)
      refine s_icmp_ge (tgt := 387) C dX11_least_316 (by decide) (by omega) (by omega) (fun c316 => ?_) (fun c316 => ?_)
      · skip
        refine s_iload_n C dX11_least_387 rfl ?_
        exact s_ireturn C dX11_least_388 (⟨_, rfl, by have c0 : h = M 66 24 := (by omega); subst c0; exact ⟨hS, wh_done hp hn hr hl hB⟩⟩)
      · skip
        refine s_aload_n C dX11_least_319 rfl ?_
        refine s_getr (k := 35) (b := 92) C dX11_least_320 fl_X11_90 (by decide) rfl (by decide) rfl ?_
        refine s_bipush C dX11_least_323 (by decide) ?_
        refine s_iload_n C dX11_least_325 rfl ?_
        refine s_imul C dX11_least_326 ?_
        refine s_zaload (n := 600) (z := M 92 (25 * h)) C dX11_least_327 (by decide) rfl rfl (by omega) (by omega) (by omega) (by rw [s92]) (fun r327 => ?_)
        refine s_if_eq (tgt := 336) C dX11_least_328 (by decide) (by omega) (fun c328 => ?_) (fun c328 => ?_)
        · skip
          have v1 := (hl h 0 (by omega) (by omega) (by omega) (by omega)).nn hw
          have v2 := (hr h (M 66 24 - 1) (by omega) (by omega) (by omega) (by omega)).nn hw
          have v3 := hp.1 h (by omega) (by omega)
          refine s_aload_n C dX11_least_336 rfl ?_
          refine s_getr (k := 34) (b := 91) C dX11_least_337 fl_X11_87 (by decide) rfl (by decide) rfl ?_
          refine s_iload_n C dX11_least_340 rfl ?_
          refine s_iaload (n := 24) (z := M 91 h) C dX11_least_341 (by decide) rfl rfl (by omega) (by omega) (by omega) (by rw [s91]) (fun r341 => ?_)
          refine s_aload_n C dX11_least_342 rfl ?_
          refine s_getr (k := 36) (b := 93) C dX11_least_343 fl_X11_94 (by decide) rfl (by decide) rfl ?_
          refine s_bipush C dX11_least_346 (by decide) ?_
          refine s_iload_n C dX11_least_348 rfl ?_
          refine s_imul C dX11_least_349 ?_
          refine s_iaload (n := 576) (z := A 93 (24 * h + 0)) C dX11_least_350 (by decide) rfl rfl (by omega) (by omega) (by omega) (congrArg (A 93) (by omega)) (fun r350 => ?_)
          refine s_iadd C dX11_least_351 ?_
          refine s_aload_n C dX11_least_352 rfl ?_
          refine s_getr (k := 37) (b := 94) C dX11_least_353 fl_X11_97 (by decide) rfl (by decide) rfl ?_
          refine s_bipush C dX11_least_356 (by decide) ?_
          refine s_iload_n C dX11_least_358 rfl ?_
          refine s_imul C dX11_least_359 ?_
          refine s_aload_n C dX11_least_360 rfl ?_
          refine s_geti (k := 24) (j := 24) (z := M 66 24) C dX11_least_361 fl_X11_196 (by decide) rfl (by decide) rfl (by rw [s66]) (fun r361 => ?_)
          refine s_iadd C dX11_least_364 ?_
          refine s_iconst C dX11_least_365 ?_
          refine s_isub C dX11_least_366 ?_
          refine s_iaload (n := 576) (z := A 94 (24 * h + (M 66 24 - 1))) C dX11_least_367 (by decide) rfl rfl (by omega) (by omega) (by omega) (congrArg (A 94) (by omega)) (fun r367 => ?_)
          refine s_iadd C dX11_least_368 ?_
          refine s_istore_n (lv' := [_, _, _, _, _, _, _, _]) C dX11_least_369 (by decide) rfl rfl ?_
          refine s_iload_n C dX11_least_370 rfl ?_
          refine s_iload_n C dX11_least_371 rfl ?_
          refine s_icmp_ge (tgt := 379) C dX11_least_372 (by decide) (by omega) (by omega) (fun c372 => ?_) (fun c372 => ?_)
          · skip
            refine s_iload_n C dX11_least_379 rfl ?_
            refine s_istore_n (lv' := [_, _, _, _, _, _, _, _]) C dX11_least_380 (by decide) rfl rfl ?_
            refine s_iinc (lv' := [_, _, _, _, _, _, _, _]) C dX11_least_381 rfl (by decide) rfl rfl rfl ?_
            refine s_goto (tgt := 311) C dX11_least_384 (by decide) ?_
            first
              | (exfalso; omega)
              | exact ih311 _ _ _ _ _ _ _ _ (by omega) hS hr hl (hB.more (a := h) (b := 0) (by rw [if_neg (show ¬ Fwh M A h 0 < best from by unfold Fwh; rw [if_neg c328]; omega)]) (fun x y => by omega)) (by omega) (by omega)
              | exact ih311 _ _ _ _ _ _ _ _ (by omega) hS hr hl (hB.more (a := h) (b := 0) (by rw [if_neg (show ¬ Fwh M A h 0 < best from by unfold Fwh; rw [if_pos c328]; omega)]) (fun x y => by omega)) (by omega) (by omega)
              | exact ih311 _ _ _ _ _ _ _ _ (by omega) hS hr hl (hB.more (a := h) (b := 0) (by rw [if_pos (show Fwh M A h 0 < best from by unfold Fwh; rw [if_pos c328]; omega)]; unfold Fwh; rw [if_pos c328]) (fun x y => by omega)) (by omega) (by omega)
          · skip
            refine s_iload_n C dX11_least_375 rfl ?_
            refine s_goto (tgt := 380) C dX11_least_376 (by decide) ?_
            refine s_istore_n (lv' := [_, _, _, _, _, _, _, _]) C dX11_least_380 (by decide) rfl rfl ?_
            refine s_iinc (lv' := [_, _, _, _, _, _, _, _]) C dX11_least_381 rfl (by decide) rfl rfl rfl ?_
            refine s_goto (tgt := 311) C dX11_least_384 (by decide) ?_
            first
              | (exfalso; omega)
              | exact ih311 _ _ _ _ _ _ _ _ (by omega) hS hr hl (hB.more (a := h) (b := 0) (by rw [if_neg (show ¬ Fwh M A h 0 < best from by unfold Fwh; rw [if_neg c328]; omega)]) (fun x y => by omega)) (by omega) (by omega)
              | exact ih311 _ _ _ _ _ _ _ _ (by omega) hS hr hl (hB.more (a := h) (b := 0) (by rw [if_neg (show ¬ Fwh M A h 0 < best from by unfold Fwh; rw [if_pos c328]; omega)]) (fun x y => by omega)) (by omega) (by omega)
              | exact ih311 _ _ _ _ _ _ _ _ (by omega) hS hr hl (hB.more (a := h) (b := 0) (by rw [if_pos (show Fwh M A h 0 < best from by unfold Fwh; rw [if_pos c328]; omega)]; unfold Fwh; rw [if_pos c328]) (fun x y => by omega)) (by omega) (by omega)
        · skip
          refine s_ldc C dX11_least_331 kc_X11_218 ?_
          refine s_goto (tgt := 369) C dX11_least_333 (by decide) ?_
          refine s_istore_n (lv' := [_, _, _, _, _, _, _, _]) C dX11_least_369 (by decide) rfl rfl ?_
          refine s_iload_n C dX11_least_370 rfl ?_
          refine s_iload_n C dX11_least_371 rfl ?_
          refine s_icmp_ge (tgt := 379) C dX11_least_372 (by decide) (by omega) (by omega) (fun c372 => ?_) (fun c372 => ?_)
          · skip
            refine s_iload_n C dX11_least_379 rfl ?_
            refine s_istore_n (lv' := [_, _, _, _, _, _, _, _]) C dX11_least_380 (by decide) rfl rfl ?_
            refine s_iinc (lv' := [_, _, _, _, _, _, _, _]) C dX11_least_381 rfl (by decide) rfl rfl rfl ?_
            refine s_goto (tgt := 311) C dX11_least_384 (by decide) ?_
            first
              | (exfalso; omega)
              | exact ih311 _ _ _ _ _ _ _ _ (by omega) hS hr hl (hB.more (a := h) (b := 0) (by rw [if_neg (show ¬ Fwh M A h 0 < best from by unfold Fwh; rw [if_neg c328]; omega)]) (fun x y => by omega)) (by omega) (by omega)
              | exact ih311 _ _ _ _ _ _ _ _ (by omega) hS hr hl (hB.more (a := h) (b := 0) (by rw [if_neg (show ¬ Fwh M A h 0 < best from by unfold Fwh; rw [if_pos c328]; omega)]) (fun x y => by omega)) (by omega) (by omega)
              | exact ih311 _ _ _ _ _ _ _ _ (by omega) hS hr hl (hB.more (a := h) (b := 0) (by rw [if_pos (show Fwh M A h 0 < best from by unfold Fwh; rw [if_pos c328]; omega)]; unfold Fwh; rw [if_pos c328]) (fun x y => by omega)) (by omega) (by omega)
          · skip
            refine s_iload_n C dX11_least_375 rfl ?_
            refine s_goto (tgt := 380) C dX11_least_376 (by decide) ?_
            refine s_istore_n (lv' := [_, _, _, _, _, _, _, _]) C dX11_least_380 (by decide) rfl rfl ?_
            refine s_iinc (lv' := [_, _, _, _, _, _, _, _]) C dX11_least_381 rfl (by decide) rfl rfl rfl ?_
            refine s_goto (tgt := 311) C dX11_least_384 (by decide) ?_
            first
              | (exfalso; omega)
              | exact ih311 _ _ _ _ _ _ _ _ (by omega) hS hr hl (hB.more (a := h) (b := 0) (by rw [if_neg (show ¬ Fwh M A h 0 < best from by unfold Fwh; rw [if_neg c328]; omega)]) (fun x y => by omega)) (by omega) (by omega)
              | exact ih311 _ _ _ _ _ _ _ _ (by omega) hS hr hl (hB.more (a := h) (b := 0) (by rw [if_neg (show ¬ Fwh M A h 0 < best from by unfold Fwh; rw [if_pos c328]; omega)]) (fun x y => by omega)) (by omega) (by omega)
              | exact ih311 _ _ _ _ _ _ _ _ (by omega) hS hr hl (hB.more (a := h) (b := 0) (by rw [if_pos (show Fwh M A h 0 < best from by unfold Fwh; rw [if_pos c328]; omega)]; unfold Fwh; rw [if_pos c328]) (fun x y => by omega)) (by omega) (by omega)
  have L2 : ∀ (n9 : Nat) (sp : Int) (A : Mm) (u2 u3 u4 u5 u6 u7 : Option Value) (hsp : 0 ≤ sp ∧ sp ≤ M 66 24) (hS : Sm M A [93, 94]) (hr : Rr (wR M) A (M 66 24) sp) (hl : Rl (wR M) A (M 66 24) sp) (hm : (M 66 24 - sp).toNat < n9), Gm E κ (pI (fun z M' => Sm M M' [93, 94] ∧ Lv (wR M) (wD (M 66 24)) z)) 8 2 [some (zr E 66), some (zi sp), u2, u3, u4, u5, u6, u7] [] A := by
    intro n9
    induction n9 with
    | zero => intro sp A u2 u3 u4 u5 u6 u7 hsp hS hr hl hm; exact absurd hm (Nat.not_lt_zero _)
    | succ n9 ih2 =>
      intro sp A u2 u3 u4 u5 u6 u7 hsp hS hr hl hm
      have s66 : A 66 = M 66 := hS 66 (by decide)
      have L159 : ∀ (n9 : Nat) (h : Int) (B : Mm) (u3 u4 u5 u6 u7 : Option Value) (hh : sp ≤ h ∧ h ≤ M 66 24) (hsp2 : sp < M 66 24) (hSB : Sm M B [93, 94]) (hrB : Rr (wR M) B (M 66 24) (sp + 1)) (hlB : Rl (wR M) B (M 66 24) sp) (hdB : ∀ q, sp ≤ q → q < h → Lv (wR M) (sD q (q - sp)) (B 93 (24 * q + (q - sp)))) (hm : (M 66 24 - h).toNat < n9), Gm E κ (pI (fun z M' => Sm M M' [93, 94] ∧ Lv (wR M) (wD (M 66 24)) z)) 8 159 [some (zr E 66), some (zi sp), some (zi h), u3, u4, u5, u6, u7] [] B := by
        intro n9
        induction n9 with
        | zero => intro h B u3 u4 u5 u6 u7 hh hsp2 hSB hrB hlB hdB hm; exact absurd hm (Nat.not_lt_zero _)
        | succ n9 ih159 =>
          intro h B u3 u4 u5 u6 u7 hh hsp2 hSB hrB hlB hdB hm
          have s66 : B 66 = M 66 := hSB 66 (by decide)
          have L186 : ∀ (n9 : Nat) (e best : Int) (u6 u7 : Option Value) (hb : h - sp ≤ e ∧ e ≤ h) (hlt : h < M 66 24) (hb0 : 0 ≤ best ∧ best ≤ 1000000) (hB : (sp = 0 ∧ best = 0) ∨ (0 < sp ∧ Bq (Fdn (wR M) B h (h - sp)) (fun x y => h - sp ≤ y ∧ y ≤ x ∧ x < h ∧ x < e) best)) (hm : (h - e).toNat < n9), Gm E κ (pI (fun z M' => Sm M M' [93, 94] ∧ Lv (wR M) (wD (M 66 24)) z)) 8 186 [some (zr E 66), some (zi sp), some (zi h), some (zi (h - sp)), some (zi best), some (zi e), u6, u7] [] B := by
            intro n9
            induction n9 with
            | zero => intro e best u6 u7 hb hlt hb0 hB hm; exact absurd hm (Nat.not_lt_zero _)
            | succ n9 ih186 =>
              intro e best u6 u7 hb hlt hb0 hB hm
              have L195 : ∀ (n9 : Nat) (d best2 : Int) (u7 : Option Value) (hd : h - sp ≤ d ∧ d ≤ e + 1) (he : e < h) (hc0 : 0 ≤ best2 ∧ best2 ≤ 1000000) (hB2 : Bq (Fdn (wR M) B h (h - sp)) (fun x y => h - sp ≤ y ∧ y ≤ x ∧ x < h ∧ (x < e ∨ (x = e ∧ y < d))) best2) (hm : (e + 1 - d).toNat < n9), Gm E κ (pI (fun z M' => Sm M M' [93, 94] ∧ Lv (wR M) (wD (M 66 24)) z)) 8 195 [some (zr E 66), some (zi sp), some (zi h), some (zi (h - sp)), some (zi best2), some (zi e), some (zi d), u7] [] B := by
                intro n9
                induction n9 with
                | zero => intro d best2 u7 hd he hc0 hB2 hm; exact absurd hm (Nat.not_lt_zero _)
                | succ n9 ih195 =>
                  intro d best2 u7 hd he hc0 hB2 hm
                  refine s_iload C dX11_least_195 rfl ?_
                  refine s_iload C dX11_least_197 rfl ?_
                  refine s_icmp_gt (tgt := 275) C dX11_least_199 (by decide) (by omega) (by omega) (fun c199 => ?_) (fun c199 => ?_)
                  · skip
                    refine s_iinc (lv' := [_, _, _, _, _, _, _, _]) C dX11_least_275 rfl (by decide) rfl rfl rfl ?_
                    refine s_goto (tgt := 186) C dX11_least_278 (by decide) ?_
                    have c0 : d = e + 1 := by omega
                    exact ih186 _ _ _ _ (by omega) hlt hc0 (Or.inr ⟨by omega, hB2.cg (fun x y => by omega)⟩) (by omega)
                  · skip
                    have v1 := (hlB h (e + 1) (by omega) (by omega) (by omega) (by omega)).nn hw
                    have v2 := (hlB d (h - sp) (by omega) (by omega) (by omega) (by omega)).nn hw
                    have v3 := (hrB d e (by omega) (by omega) (by omega) (by omega)).nn hw
                    have v4 := wR_bd hp (d := d) (h := h)
                    refine s_aload_n C dX11_least_202 rfl ?_
                    refine s_getr (k := 36) (b := 93) C dX11_least_203 fl_X11_94 (by decide) rfl (by decide) rfl ?_
                    refine s_bipush C dX11_least_206 (by decide) ?_
                    refine s_iload_n C dX11_least_208 rfl ?_
                    refine s_imul C dX11_least_209 ?_
                    refine s_iload C dX11_least_210 rfl ?_
                    refine s_iadd C dX11_least_212 ?_
                    refine s_iconst C dX11_least_213 ?_
                    refine s_iadd C dX11_least_214 ?_
                    refine s_iaload (n := 576) (z := B 93 (24 * h + (e + 1))) C dX11_least_215 (by decide) rfl rfl (by omega) (by omega) (by omega) (congrArg (B 93) (by omega)) (fun r215 => ?_)
                    refine s_aload_n C dX11_least_216 rfl ?_
                    refine s_iload_n C dX11_least_217 rfl ?_
                    refine s_iload C dX11_least_218 rfl ?_
                    refine s_callV2 C dX11_least_220 cy_X11_arc cv_X11_arc lk_X11_219 (ct_X11_arc E B h d (by omega) (by omega) (by omega)) (by decide) (by decide) (by first | decide | (decide)) rfl (Nat.le_of_ble_eq_true rfl) (k_P (fun z220 q220 => ?_))
                    rw [wR_arc hSB (by omega) (by omega)] at q220
                    subst q220
                    refine s_iadd C dX11_least_223 ?_
                    refine s_aload_n C dX11_least_224 rfl ?_
                    refine s_getr (k := 36) (b := 93) C dX11_least_225 fl_X11_94 (by decide) rfl (by decide) rfl ?_
                    refine s_bipush C dX11_least_228 (by decide) ?_
                    refine s_iload C dX11_least_230 rfl ?_
                    refine s_imul C dX11_least_232 ?_
                    refine s_iload_n C dX11_least_233 rfl ?_
                    refine s_iadd C dX11_least_234 ?_
                    refine s_iaload (n := 576) C dX11_least_235 (by decide) rfl rfl (by omega) (by omega) (by omega) (rfl) (fun r235 => ?_)
                    refine s_iadd C dX11_least_236 ?_
                    refine s_aload_n C dX11_least_237 rfl ?_
                    refine s_getr (k := 37) (b := 94) C dX11_least_238 fl_X11_97 (by decide) rfl (by decide) rfl ?_
                    refine s_bipush C dX11_least_241 (by decide) ?_
                    refine s_iload C dX11_least_243 rfl ?_
                    refine s_imul C dX11_least_245 ?_
                    refine s_iload C dX11_least_246 rfl ?_
                    refine s_iadd C dX11_least_248 ?_
                    refine s_iaload (n := 576) C dX11_least_249 (by decide) rfl rfl (by omega) (by omega) (by omega) (rfl) (fun r249 => ?_)
                    refine s_iadd C dX11_least_250 ?_
                    refine s_istore (lv' := [_, _, _, _, _, _, _, _]) C dX11_least_251 (by decide) rfl rfl ?_
                    refine s_iload C dX11_least_253 rfl ?_
                    refine s_iload C dX11_least_255 rfl ?_
                    refine s_icmp_ge (tgt := 265) C dX11_least_257 (by decide) (by omega) (by omega) (fun c257 => ?_) (fun c257 => ?_)
                    · skip
                      refine s_iload C dX11_least_265 rfl ?_
                      refine s_istore (lv' := [_, _, _, _, _, _, _, _]) C dX11_least_267 (by decide) rfl rfl ?_
                      refine s_iinc (lv' := [_, _, _, _, _, _, _, _]) C dX11_least_269 rfl (by decide) rfl rfl rfl ?_
                      refine s_goto (tgt := 195) C dX11_least_272 (by decide) ?_
                      first
                        | exact ih195 _ _ _ (by omega) he (by omega) (hB2.more (a := e) (b := d) (by rw [if_neg (show ¬ Fdn (wR M) B h (h - sp) e d < best2 from by unfold Fdn; omega)]) (fun x y => by omega)) (by omega)
                        | exact ih195 _ _ _ (by omega) he (by omega) (hB2.more (a := e) (b := d) (by rw [if_pos (show Fdn (wR M) B h (h - sp) e d < best2 from by unfold Fdn; omega)]; rfl) (fun x y => by omega)) (by omega)
                    · skip
                      refine s_iload C dX11_least_260 rfl ?_
                      refine s_goto (tgt := 267) C dX11_least_262 (by decide) ?_
                      refine s_istore (lv' := [_, _, _, _, _, _, _, _]) C dX11_least_267 (by decide) rfl rfl ?_
                      refine s_iinc (lv' := [_, _, _, _, _, _, _, _]) C dX11_least_269 rfl (by decide) rfl rfl rfl ?_
                      refine s_goto (tgt := 195) C dX11_least_272 (by decide) ?_
                      first
                        | exact ih195 _ _ _ (by omega) he (by omega) (hB2.more (a := e) (b := d) (by rw [if_neg (show ¬ Fdn (wR M) B h (h - sp) e d < best2 from by unfold Fdn; omega)]) (fun x y => by omega)) (by omega)
                        | exact ih195 _ _ _ (by omega) he (by omega) (hB2.more (a := e) (b := d) (by rw [if_pos (show Fdn (wR M) B h (h - sp) e d < best2 from by unfold Fdn; omega)]; rfl) (fun x y => by omega)) (by omega)
              refine s_iload C dX11_least_186 rfl ?_
              refine s_iload_n C dX11_least_188 rfl ?_
              refine s_icmp_ge (tgt := 281) C dX11_least_189 (by decide) (by omega) (by omega) (fun c189 => ?_) (fun c189 => ?_)
              · skip
                refine s_aload_n C dX11_least_281 rfl ?_
                refine s_getr (k := 36) (b := 93) C dX11_least_282 fl_X11_94 (by decide) rfl (by decide) rfl ?_
                refine s_bipush C dX11_least_285 (by decide) ?_
                refine s_iload_n C dX11_least_287 rfl ?_
                refine s_imul C dX11_least_288 ?_
                refine s_iload_n C dX11_least_289 rfl ?_
                refine s_iadd C dX11_least_290 ?_
                refine s_iload C dX11_least_291 rfl ?_
                refine s_iastore (n := 576) C dX11_least_293 (by decide) rfl rfl (by omega) (by omega) (by omega) (by omega) ?_
                refine s_iinc (lv' := [_, _, _, _, _, _, _, _]) C dX11_least_294 rfl (by decide) rfl rfl rfl ?_
                refine s_goto (tgt := 159) C dX11_least_297 (by decide) ?_
                have hdone := dn_done hw hn.2 (h := h) (sp := sp) (best := best) (by omega) (by omega) hrB hlB (by
                  rcases hB with g | ⟨g, g2⟩
                  · exact Or.inl g
                  · exact Or.inr ⟨g, g2.cg (fun x y => by omega)⟩)
                exact ih159 (h + 1) _ _ _ _ _ _ (by omega) hsp2 (hSB.put (by decide)) hrB.put93 (hlB.put93 hn.2 (by omega)) (fun q q0 q1 => by
                  by_cases cq : q = h
                  · subst cq; rw [mput_eq]; exact hdone
                  · rw [mput_nk (by omega)]; exact hdB q q0 (by omega)) (by omega)
              · skip
                refine s_iload_n C dX11_least_192 rfl ?_
                refine s_istore (lv' := [_, _, _, _, _, _, _, _]) C dX11_least_193 (by decide) rfl rfl ?_
                have hB1 : Bq (Fdn (wR M) B h (h - sp)) (fun x y => h - sp ≤ y ∧ y ≤ x ∧ x < h ∧ x < e) best := by
                  rcases hB with g | g
                  · omega
                  · exact g.2
                exact L195 _ (h - sp) best _ (by omega) (by omega) hb0 (hB1.cg (fun x y => by omega)) (Nat.lt_succ_self _)
          refine s_iload_n C dX11_least_159 rfl ?_
          refine s_aload_n C dX11_least_160 rfl ?_
          refine s_geti (k := 24) (j := 24) (z := M 66 24) C dX11_least_161 fl_X11_196 (by decide) rfl (by decide) rfl (by rw [s66]) (fun r161 => ?_)
          refine s_icmp_ge (tgt := 300) C dX11_least_164 (by decide) (by omega) (by omega) (fun c164 => ?_) (fun c164 => ?_)
          · skip
            refine s_iinc (lv' := [_, _, _, _, _, _, _, _]) C dX11_least_300 rfl (by decide) rfl rfl rfl ?_
            refine s_goto (tgt := 2) C dX11_least_303 (by decide) ?_
            exact ih2 (sp + 1) B _ _ _ _ _ _ (by omega) hSB hrB (fun a b a0 a1 a2 a3 => by
              by_cases ca : a - b < sp
              · exact hlB a b a0 a1 a2 ca
              · have cb : b = a - sp := by omega
                subst cb; exact hdB a (by omega) (by omega)) (by omega)
          · skip
            refine s_iload_n C dX11_least_167 rfl ?_
            refine s_iload_n C dX11_least_168 rfl ?_
            refine s_isub C dX11_least_169 ?_
            refine s_istore_n (lv' := [_, _, _, _, _, _, _, _]) C dX11_least_170 (by decide) rfl rfl ?_
            refine s_iload_n C dX11_least_171 rfl ?_
            refine s_if_ne (tgt := 179) C dX11_least_172 (by decide) (by omega) (fun c172 => ?_) (fun c172 => ?_)
            · skip
              refine s_ldc C dX11_least_179 kc_X11_218 ?_
              refine s_istore (lv' := [_, _, _, _, _, _, _, _]) C dX11_least_181 (by decide) rfl rfl ?_
              refine s_iload_n C dX11_least_183 rfl ?_
              refine s_istore (lv' := [_, _, _, _, _, _, _, _]) C dX11_least_184 (by decide) rfl rfl ?_
              first
                | exact L186 _ (h - sp) 0 _ _ (by omega) (by omega) (by omega) (Or.inl ⟨by omega, rfl⟩) (Nat.lt_succ_self _)
                | exact L186 _ (h - sp) 1000000 _ _ (by omega) (by omega) (by omega) (Or.inr ⟨by omega, Bq.first _ (fun a b q => by omega)⟩) (Nat.lt_succ_self _)
            · skip
              refine s_iconst C dX11_least_175 ?_
              refine s_goto (tgt := 181) C dX11_least_176 (by decide) ?_
              refine s_istore (lv' := [_, _, _, _, _, _, _, _]) C dX11_least_181 (by decide) rfl rfl ?_
              refine s_iload_n C dX11_least_183 rfl ?_
              refine s_istore (lv' := [_, _, _, _, _, _, _, _]) C dX11_least_184 (by decide) rfl rfl ?_
              first
                | exact L186 _ (h - sp) 0 _ _ (by omega) (by omega) (by omega) (Or.inl ⟨by omega, rfl⟩) (Nat.lt_succ_self _)
                | exact L186 _ (h - sp) 1000000 _ _ (by omega) (by omega) (by omega) (Or.inr ⟨by omega, Bq.first _ (fun a b q => by omega)⟩) (Nat.lt_succ_self _)
      have L12 : ∀ (n9 : Nat) (h : Int) (B : Mm) (u3 u4 u5 u6 u7 : Option Value) (hh : 0 ≤ h ∧ h + sp ≤ M 66 24) (hsp2 : sp < M 66 24) (hSB : Sm M B [93, 94]) (hrB : Rr (wR M) B (M 66 24) sp) (hlB : Rl (wR M) B (M 66 24) sp) (hdB : ∀ q, 0 ≤ q → q < h → Lv (wR M) (sD q (q + sp)) (B 94 (24 * q + (q + sp)))) (hm : (M 66 24 - h).toNat < n9), Gm E κ (pI (fun z M' => Sm M M' [93, 94] ∧ Lv (wR M) (wD (M 66 24)) z)) 8 12 [some (zr E 66), some (zi sp), some (zi h), u3, u4, u5, u6, u7] [] B := by
        intro n9
        induction n9 with
        | zero => intro h B u3 u4 u5 u6 u7 hh hsp2 hSB hrB hlB hdB hm; exact absurd hm (Nat.not_lt_zero _)
        | succ n9 ih12 =>
          intro h B u3 u4 u5 u6 u7 hh hsp2 hSB hrB hlB hdB hm
          have s66 : B 66 = M 66 := hSB 66 (by decide)
          have L43 : ∀ (n9 : Nat) (b best : Int) (u6 u7 : Option Value) (hb : h + 1 ≤ b ∧ b ≤ h + sp + 1) (hlt : h + sp < M 66 24) (hb0 : 0 ≤ best ∧ best ≤ 1000000) (hB : (sp = 0 ∧ best = 0) ∨ (0 < sp ∧ Bq (Fup (wR M) B h (h + sp)) (fun x y => h < x ∧ x ≤ y ∧ y ≤ h + sp ∧ x < b) best)) (hm : (h + sp + 1 - b).toNat < n9), Gm E κ (pI (fun z M' => Sm M M' [93, 94] ∧ Lv (wR M) (wD (M 66 24)) z)) 8 43 [some (zr E 66), some (zi sp), some (zi h), some (zi (h + sp)), some (zi best), some (zi b), u6, u7] [] B := by
            intro n9
            induction n9 with
            | zero => intro b best u6 u7 hb hlt hb0 hB hm; exact absurd hm (Nat.not_lt_zero _)
            | succ n9 ih43 =>
              intro b best u6 u7 hb hlt hb0 hB hm
              have L53 : ∀ (n9 : Nat) (d best2 : Int) (u7 : Option Value) (hd : b ≤ d ∧ d ≤ h + sp + 1) (hb2 : b ≤ h + sp) (hc0 : 0 ≤ best2 ∧ best2 ≤ 1000000) (hB2 : Bq (Fup (wR M) B h (h + sp)) (fun x y => h < x ∧ x ≤ y ∧ y ≤ h + sp ∧ (x < b ∨ (x = b ∧ y < d))) best2) (hm : (h + sp + 1 - d).toNat < n9), Gm E κ (pI (fun z M' => Sm M M' [93, 94] ∧ Lv (wR M) (wD (M 66 24)) z)) 8 53 [some (zr E 66), some (zi sp), some (zi h), some (zi (h + sp)), some (zi best2), some (zi b), some (zi d), u7] [] B := by
                intro n9
                induction n9 with
                | zero => intro d best2 u7 hd hb2 hc0 hB2 hm; exact absurd hm (Nat.not_lt_zero _)
                | succ n9 ih53 =>
                  intro d best2 u7 hd hb2 hc0 hB2 hm
                  refine s_iload C dX11_least_53 rfl ?_
                  refine s_iload_n C dX11_least_55 rfl ?_
                  refine s_icmp_gt (tgt := 132) C dX11_least_56 (by decide) (by omega) (by omega) (fun c56 => ?_) (fun c56 => ?_)
                  · skip
                    refine s_iinc (lv' := [_, _, _, _, _, _, _, _]) C dX11_least_132 rfl (by decide) rfl rfl rfl ?_
                    refine s_goto (tgt := 43) C dX11_least_135 (by decide) ?_
                    have c0 : d = h + sp + 1 := by omega
                    exact ih43 _ _ _ _ (by omega) hlt hc0 (Or.inr ⟨by omega, hB2.cg (fun x y => by omega)⟩) (by omega)
                  · skip
                    have v1 := (hrB h (b - 1) (by omega) (by omega) (by omega) (by omega)).nn hw
                    have v2 := (hlB d b (by omega) (by omega) (by omega) (by omega)).nn hw
                    have v3 := (hrB d (h + sp) (by omega) (by omega) (by omega) (by omega)).nn hw
                    have v4 := wR_bd hp (d := d) (h := h)
                    refine s_aload_n C dX11_least_59 rfl ?_
                    refine s_getr (k := 37) (b := 94) C dX11_least_60 fl_X11_97 (by decide) rfl (by decide) rfl ?_
                    refine s_bipush C dX11_least_63 (by decide) ?_
                    refine s_iload_n C dX11_least_65 rfl ?_
                    refine s_imul C dX11_least_66 ?_
                    refine s_iload C dX11_least_67 rfl ?_
                    refine s_iadd C dX11_least_69 ?_
                    refine s_iconst C dX11_least_70 ?_
                    refine s_isub C dX11_least_71 ?_
                    refine s_iaload (n := 576) (z := B 94 (24 * h + (b - 1))) C dX11_least_72 (by decide) rfl rfl (by omega) (by omega) (by omega) (congrArg (B 94) (by omega)) (fun r72 => ?_)
                    refine s_aload_n C dX11_least_73 rfl ?_
                    refine s_iload_n C dX11_least_74 rfl ?_
                    refine s_iload C dX11_least_75 rfl ?_
                    refine s_callV2 C dX11_least_77 cy_X11_arc cv_X11_arc lk_X11_219 (ct_X11_arc E B h d (by omega) (by omega) (by omega)) (by decide) (by decide) (by first | decide | (decide)) rfl (Nat.le_of_ble_eq_true rfl) (k_P (fun z77 q77 => ?_))
                    rw [wR_arc hSB (by omega) (by omega)] at q77
                    subst q77
                    refine s_iadd C dX11_least_80 ?_
                    refine s_aload_n C dX11_least_81 rfl ?_
                    refine s_getr (k := 36) (b := 93) C dX11_least_82 fl_X11_94 (by decide) rfl (by decide) rfl ?_
                    refine s_bipush C dX11_least_85 (by decide) ?_
                    refine s_iload C dX11_least_87 rfl ?_
                    refine s_imul C dX11_least_89 ?_
                    refine s_iload C dX11_least_90 rfl ?_
                    refine s_iadd C dX11_least_92 ?_
                    refine s_iaload (n := 576) C dX11_least_93 (by decide) rfl rfl (by omega) (by omega) (by omega) (rfl) (fun r93 => ?_)
                    refine s_iadd C dX11_least_94 ?_
                    refine s_aload_n C dX11_least_95 rfl ?_
                    refine s_getr (k := 37) (b := 94) C dX11_least_96 fl_X11_97 (by decide) rfl (by decide) rfl ?_
                    refine s_bipush C dX11_least_99 (by decide) ?_
                    refine s_iload C dX11_least_101 rfl ?_
                    refine s_imul C dX11_least_103 ?_
                    refine s_iload_n C dX11_least_104 rfl ?_
                    refine s_iadd C dX11_least_105 ?_
                    refine s_iaload (n := 576) C dX11_least_106 (by decide) rfl rfl (by omega) (by omega) (by omega) (rfl) (fun r106 => ?_)
                    refine s_iadd C dX11_least_107 ?_
                    refine s_istore (lv' := [_, _, _, _, _, _, _, _]) C dX11_least_108 (by decide) rfl rfl ?_
                    refine s_iload C dX11_least_110 rfl ?_
                    refine s_iload C dX11_least_112 rfl ?_
                    refine s_icmp_ge (tgt := 122) C dX11_least_114 (by decide) (by omega) (by omega) (fun c114 => ?_) (fun c114 => ?_)
                    · skip
                      refine s_iload C dX11_least_122 rfl ?_
                      refine s_istore (lv' := [_, _, _, _, _, _, _, _]) C dX11_least_124 (by decide) rfl rfl ?_
                      refine s_iinc (lv' := [_, _, _, _, _, _, _, _]) C dX11_least_126 rfl (by decide) rfl rfl rfl ?_
                      refine s_goto (tgt := 53) C dX11_least_129 (by decide) ?_
                      first
                        | exact ih53 _ _ _ (by omega) hb2 (by omega) (hB2.more (a := b) (b := d) (by rw [if_neg (show ¬ Fup (wR M) B h (h + sp) b d < best2 from by unfold Fup; omega)]) (fun x y => by omega)) (by omega)
                        | exact ih53 _ _ _ (by omega) hb2 (by omega) (hB2.more (a := b) (b := d) (by rw [if_pos (show Fup (wR M) B h (h + sp) b d < best2 from by unfold Fup; omega)]; rfl) (fun x y => by omega)) (by omega)
                    · skip
                      refine s_iload C dX11_least_117 rfl ?_
                      refine s_goto (tgt := 124) C dX11_least_119 (by decide) ?_
                      refine s_istore (lv' := [_, _, _, _, _, _, _, _]) C dX11_least_124 (by decide) rfl rfl ?_
                      refine s_iinc (lv' := [_, _, _, _, _, _, _, _]) C dX11_least_126 rfl (by decide) rfl rfl rfl ?_
                      refine s_goto (tgt := 53) C dX11_least_129 (by decide) ?_
                      first
                        | exact ih53 _ _ _ (by omega) hb2 (by omega) (hB2.more (a := b) (b := d) (by rw [if_neg (show ¬ Fup (wR M) B h (h + sp) b d < best2 from by unfold Fup; omega)]) (fun x y => by omega)) (by omega)
                        | exact ih53 _ _ _ (by omega) hb2 (by omega) (hB2.more (a := b) (b := d) (by rw [if_pos (show Fup (wR M) B h (h + sp) b d < best2 from by unfold Fup; omega)]; rfl) (fun x y => by omega)) (by omega)
              refine s_iload C dX11_least_43 rfl ?_
              refine s_iload_n C dX11_least_45 rfl ?_
              refine s_icmp_gt (tgt := 138) C dX11_least_46 (by decide) (by omega) (by omega) (fun c46 => ?_) (fun c46 => ?_)
              · skip
                refine s_aload_n C dX11_least_138 rfl ?_
                refine s_getr (k := 37) (b := 94) C dX11_least_139 fl_X11_97 (by decide) rfl (by decide) rfl ?_
                refine s_bipush C dX11_least_142 (by decide) ?_
                refine s_iload_n C dX11_least_144 rfl ?_
                refine s_imul C dX11_least_145 ?_
                refine s_iload_n C dX11_least_146 rfl ?_
                refine s_iadd C dX11_least_147 ?_
                refine s_iload C dX11_least_148 rfl ?_
                refine s_iastore (n := 576) C dX11_least_150 (by decide) rfl rfl (by omega) (by omega) (by omega) (by omega) ?_
                refine s_iinc (lv' := [_, _, _, _, _, _, _, _]) C dX11_least_151 rfl (by decide) rfl rfl rfl ?_
                refine s_goto (tgt := 12) C dX11_least_154 (by decide) ?_
                have hdone := up_done hw hn.2 (h := h) (sp := sp) (best := best) (by omega) (by omega) hrB hlB (by
                  rcases hB with g | ⟨g, g2⟩
                  · exact Or.inl g
                  · exact Or.inr ⟨g, g2.cg (fun x y => by omega)⟩)
                exact ih12 (h + 1) _ _ _ _ _ _ (by omega) hsp2 (hSB.put (by decide)) (hrB.put94 hn.2 (by omega)) hlB.put94 (fun q q0 q1 => by
                  by_cases cq : q = h
                  · subst cq; rw [mput_eq]; exact hdone
                  · rw [mput_nk (by omega)]; exact hdB q q0 (by omega)) (by omega)
              · skip
                refine s_iload C dX11_least_49 rfl ?_
                refine s_istore (lv' := [_, _, _, _, _, _, _, _]) C dX11_least_51 (by decide) rfl rfl ?_
                have hB1 : Bq (Fup (wR M) B h (h + sp)) (fun x y => h < x ∧ x ≤ y ∧ y ≤ h + sp ∧ x < b) best := by
                  rcases hB with g | g
                  · omega
                  · exact g.2
                exact L53 _ b best _ (by omega) (by omega) hb0 (hB1.cg (fun x y => by omega)) (Nat.lt_succ_self _)
          refine s_iload_n C dX11_least_12 rfl ?_
          refine s_iload_n C dX11_least_13 rfl ?_
          refine s_iadd C dX11_least_14 ?_
          refine s_aload_n C dX11_least_15 rfl ?_
          refine s_geti (k := 24) (j := 24) (z := M 66 24) C dX11_least_16 fl_X11_196 (by decide) rfl (by decide) rfl (by rw [s66]) (fun r16 => ?_)
          refine s_icmp_ge (tgt := 157) C dX11_least_19 (by decide) (by omega) (by omega) (fun c19 => ?_) (fun c19 => ?_)
          · skip
            refine s_iload_n C dX11_least_157 rfl ?_
            refine s_istore_n (lv' := [_, _, _, _, _, _, _, _]) C dX11_least_158 (by decide) rfl rfl ?_
            exact L159 _ sp B _ _ _ _ _ (by omega) hsp2 hSB (fun a b a0 a1 a2 a3 => by
              by_cases ca : b - a < sp
              · exact hrB a b a0 a1 a2 ca
              · have cb : b = a + sp := by omega
                subst cb; exact hdB a a0 (by omega)) hlB (fun q a b => by omega) (Nat.lt_succ_self _)
          · skip
            refine s_iload_n C dX11_least_22 rfl ?_
            refine s_iload_n C dX11_least_23 rfl ?_
            refine s_iadd C dX11_least_24 ?_
            refine s_istore_n (lv' := [_, _, _, _, _, _, _, _]) C dX11_least_25 (by decide) rfl rfl ?_
            refine s_iload_n C dX11_least_26 rfl ?_
            refine s_if_ne (tgt := 34) C dX11_least_27 (by decide) (by omega) (fun c27 => ?_) (fun c27 => ?_)
            · skip
              refine s_ldc C dX11_least_34 kc_X11_218 ?_
              refine s_istore (lv' := [_, _, _, _, _, _, _, _]) C dX11_least_36 (by decide) rfl rfl ?_
              refine s_iload_n C dX11_least_38 rfl ?_
              refine s_iconst C dX11_least_39 ?_
              refine s_iadd C dX11_least_40 ?_
              refine s_istore (lv' := [_, _, _, _, _, _, _, _]) C dX11_least_41 (by decide) rfl rfl ?_
              first
                | exact L43 _ (h + 1) 0 _ _ (by omega) (by omega) (by omega) (Or.inl ⟨by omega, rfl⟩) (Nat.lt_succ_self _)
                | exact L43 _ (h + 1) 1000000 _ _ (by omega) (by omega) (by omega) (Or.inr ⟨by omega, Bq.first _ (fun a b q => by omega)⟩) (Nat.lt_succ_self _)
            · skip
              refine s_iconst C dX11_least_30 ?_
              refine s_goto (tgt := 36) C dX11_least_31 (by decide) ?_
              refine s_istore (lv' := [_, _, _, _, _, _, _, _]) C dX11_least_36 (by decide) rfl rfl ?_
              refine s_iload_n C dX11_least_38 rfl ?_
              refine s_iconst C dX11_least_39 ?_
              refine s_iadd C dX11_least_40 ?_
              refine s_istore (lv' := [_, _, _, _, _, _, _, _]) C dX11_least_41 (by decide) rfl rfl ?_
              first
                | exact L43 _ (h + 1) 0 _ _ (by omega) (by omega) (by omega) (Or.inl ⟨by omega, rfl⟩) (Nat.lt_succ_self _)
                | exact L43 _ (h + 1) 1000000 _ _ (by omega) (by omega) (by omega) (Or.inr ⟨by omega, Bq.first _ (fun a b q => by omega)⟩) (Nat.lt_succ_self _)
      refine s_iload_n C dX11_least_2 rfl ?_
      refine s_aload_n C dX11_least_3 rfl ?_
      refine s_geti (k := 24) (j := 24) (z := M 66 24) C dX11_least_4 fl_X11_196 (by decide) rfl (by decide) rfl (by rw [s66]) (fun r4 => ?_)
      refine s_icmp_ge (tgt := 306) C dX11_least_7 (by decide) (by omega) (by omega) (fun c7 => ?_) (fun c7 => ?_)
      · skip
        refine s_ldc C dX11_least_306 kc_X11_218 ?_
        refine s_istore_n (lv' := [_, _, _, _, _, _, _, _]) C dX11_least_308 (by decide) rfl rfl ?_
        refine s_iconst C dX11_least_309 ?_
        refine s_istore_n (lv' := [_, _, _, _, _, _, _, _]) C dX11_least_310 (by decide) rfl rfl ?_
        have c0 : sp = M 66 24 := by omega
        subst c0
        exact L311 _ 0 1000000 A _ _ _ _ _ (by omega) hS hr hl (Bq.first _ (fun a b q => by omega)) (by omega) (Nat.lt_succ_self _)
      · skip
        refine s_iconst C dX11_least_10 ?_
        refine s_istore_n (lv' := [_, _, _, _, _, _, _, _]) C dX11_least_11 (by decide) rfl rfl ?_
        exact L12 _ 0 A _ _ _ _ _ (by omega) (by omega) hS hr hl (fun q a b => by omega) (Nat.lt_succ_self _)
  refine s_iconst C dX11_least_0 ?_
  refine s_istore_n (lv' := [_, _, _, _, _, _, _, _]) C dX11_least_1 (by decide) rfl rfl ?_
  exact L2 _ 0 M _ _ _ _ _ _ (by omega) (Sm.rf M _) (fun a b c d e f => by omega) (fun a b c d e f => by omega) (Nat.lt_succ_self _)
