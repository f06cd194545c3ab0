theorem zb_rg (x : Int) : -128 ≤ zb x ∧ zb x < 128 := by
  unfold zb
  rw [Int8.toInt_toInt32]
  have h1 := Int8.le_toInt (Int32.ofInt x).toInt8
  have h2 := Int8.toInt_lt (Int32.ofInt x).toInt8
  omega
/-- j bytes of v come behind the reference's tape -/
def rapp (M : Mm) (v j : Int) : Mm := fun b => if b = 66 then (fun k => if k = 1 then M 66 1 + j else M 66 k) else if b = 67 then (fun k => if M 66 1 ≤ k ∧ k < M 66 1 + j then zb (zshr v (24 - 8 * (k - M 66 1))) else M 67 k) else M b
theorem rapp_66 (M : Mm) (v j k : Int) : rapp M v j 66 k = if k = 1 then M 66 1 + j else M 66 k := rfl
theorem rapp_67 (M : Mm) (v j k : Int) : rapp M v j 67 k = if M 66 1 ≤ k ∧ k < M 66 1 + j then zb (zshr v (24 - 8 * (k - M 66 1))) else M 67 k := rfl
theorem rapp_ne {M : Mm} {v j : Int} {a : Nat} (h1 : a ≠ 66) (h2 : a ≠ 67) : rapp M v j a = M a := by simp [rapp, h1, h2]
theorem rapp_0 (M : Mm) (v : Int) : rapp M v 0 = M := by
  funext b k
  by_cases h1 : b = 66
  · subst h1; rw [rapp_66]; split
    · next c => subst c; omega
    · rfl
  · by_cases h2 : b = 67
    · subst h2; rw [rapp_67, if_neg (by omega)]
    · rw [rapp_ne h1 h2]
theorem rapp_s (M : Mm) (v j : Int) (hj : 0 ≤ j) : mput (mput (rapp M v j) 67 (M 66 1 + j) (zb (zshr v (24 - 8 * j)))) 66 1 (M 66 1 + j + 1) = rapp M v (j + 1) := by
  funext b k
  by_cases h1 : b = 66
  · subst h1
    rw [mput_at, mput_ne (by decide), rapp_66, rapp_66]
    split
    · omega
    · rfl
  · rw [mput_ne h1]
    by_cases h2 : b = 67
    · subst h2
      rw [mput_at, rapp_67, rapp_67]
      by_cases c : k = M 66 1 + j
      · rw [if_pos c, if_pos (by omega), show 24 - 8 * (k - M 66 1) = 24 - 8 * j by omega]
      · rw [if_neg c]
        by_cases c2 : M 66 1 ≤ k ∧ k < M 66 1 + j
        · rw [if_pos c2, if_pos (by omega)]
        · rw [if_neg c2, if_neg (by omega)]
    · rw [mput_ne h2, rapp_ne h1 h2, rapp_ne h1 h2]
def vs5 (a b c d e : Int) (i : Nat) : Int := if i = 0 then a else if i = 1 then b else if i = 2 then c else if i = 3 then d else e
def fdN (v : Nat → Int) (M : Mm) : Nat → Mm
  | 0 => M
  | k + 1 => rapp (fdN v M k) (v k) 4
theorem fdN_1 (v : Nat → Int) (M : Mm) : ∀ k : Nat, fdN v M k 66 1 = M 66 1 + 4 * (k : Int) := by
  intro k
  induction k with
  | zero => simp [fdN]
  | succ k ih => rw [fdN, rapp_66, if_pos rfl, ih]; omega
/-- a table of the reference: text x, sizes w, count c; the word that is held -/
def rFind (M : Mm) (x w : Nat) (c i : Int) : Prop := (i = -1 ∧ ∀ q, 0 ≤ q → q < M 66 c → ¬ (M w q = M 66 3 ∧ lk M x (16 * q) 68 0 (M w q))) ∨ (0 ≤ i ∧ i < M 66 c ∧ (M w i = M 66 3 ∧ lk M x (16 * i) 68 0 (M w i)) ∧ ∀ q, 0 ≤ q → q < i → ¬ (M w q = M 66 3 ∧ lk M x (16 * q) 68 0 (M w q)))
def rDrop (M : Mm) (x w : Nat) (c i : Int) : Mm := mput (tAw (mput M 66 c (M 66 c - 1)) x i (M 66 c - 1) 16) w i (M w (M 66 c - 1))
def rAdd (M : Mm) (x w : Nat) (c : Int) : Mm := mput (mput (mcopy M 68 0 x (16 * M 66 c) (M 66 3)) w (M 66 c) (M 66 3)) 66 c (M 66 c + 1)
def rHeld (M M1 : Mm) : Prop := M1 66 3 = M 66 1 ∧ ∀ p, 0 ≤ p → p < M 66 1 → M1 68 p = low (M 67 p)
def rtg (M M' : Mm) (x w : Nat) (c mo L z : Int) : Prop := ∃ M1, mTk M M1 ∧ ((¬ mWd M L ∧ z = -2 ∧ M' = M1) ∨ (mWd M L ∧ rHeld M M1 ∧ ∃ i, rFind M1 x w c i ∧ ((0 ≤ i ∧ z = M1 66 c - 1 ∧ M' = mput (rDrop M1 x w c i) 66 32 0) ∨ (i < 0 ∧ M1 66 c = mo ∧ z = -3 ∧ M' = M1) ∨ (i < 0 ∧ M1 66 c ≠ mo ∧ z = M1 66 c + 1 ∧ M' = mput (rAdd M1 x w c) 66 32 0))))
def rsg (M M' : Mm) (kind z : Int) : Prop := ∃ M1, mTk M M1 ∧ ((¬ (mWd M 16 ∧ 0 ≤ kind ∧ kind ≤ 4) ∧ z = -2 ∧ M' = M1) ∨ (mWd M 16 ∧ (0 ≤ kind ∧ kind ≤ 4) ∧ rHeld M M1 ∧ ∃ i, rFind M1 71 72 10 i ∧ ((kind = 0 ∧ 0 ≤ i ∧ z = M1 66 10 - 1 ∧ M' = mput (mput (rDrop M1 71 72 10 i) 73 i (M1 73 (M1 66 10 - 1))) 66 32 0) ∨ (kind = 0 ∧ i < 0 ∧ z = M1 66 10 ∧ M' = M1) ∨ (kind ≠ 0 ∧ 0 ≤ i ∧ z = M1 66 10 ∧ M' = mput (mput M1 73 i kind) 66 32 0) ∨ (kind ≠ 0 ∧ i < 0 ∧ M1 66 10 = 30 ∧ z = -3 ∧ M' = M1) ∨ (kind ≠ 0 ∧ i < 0 ∧ M1 66 10 ≠ 30 ∧ z = M1 66 10 + 1 ∧ M' = mput (mput (rAdd M1 71 72 10) 73 (M1 66 10) kind) 66 32 0))))
theorem rFind_rg {M : Mm} {x w : Nat} {c i : Int} (h : rFind M x w c i) : -1 ≤ i ∧ (0 ≤ i → i < M 66 c) := by
  rcases h with ⟨h, _⟩ | ⟨h1, h2, _⟩ <;> omega

set_option maxRecDepth 20000 in
set_option maxHeartbeats 4000000 in
theorem ct_X11_feed (E : Ev) (M : Mm) (a b c d e : Int) (hs : 0 ≤ M 66 1 ∧ M 66 1 ≤ 3000) : Ct E yX11_feed cX11_feed 9 (some .int) 0 [zr E 66, zi a, zi b, zi c, zi d, zi e] M (pI (fun z M' => (2980 < M 66 1 ∧ z = -3 ∧ M' = M) ∨ (M 66 1 ≤ 2980 ∧ z = M 66 1 + 20 ∧ M' = rapp (rapp (rapp (rapp (rapp M a 4) b 4) c 4) d 4) e 4))) := by
  refine Ct.of (own := RX11) (lv0 := [some (zr E 66), some (zi a), some (zi b), some (zi c), some (zi d), some (zi e), none, none, none]) (by decide) rfl (Nat.le_of_ble_eq_true rfl) rfl (fun κ C => ?_)
  have L19 : ∀ (n9 : Nat) (i : Nat) (u7 u8 : Option Value) (hi : i ≤ 5) (hlo : M 66 1 ≤ 2980) (hm : 5 - i < n9), Gm E κ (pI (fun z M' => (2980 < M 66 1 ∧ z = -3 ∧ M' = M) ∨ (M 66 1 ≤ 2980 ∧ z = M 66 1 + 20 ∧ M' = rapp (rapp (rapp (rapp (rapp M a 4) b 4) c 4) d 4) e 4))) 9 19 [some (zr E 66), some (zi a), some (zi b), some (zi c), some (zi d), some (zi e), some (zi (i : Int)), u7, u8] [] (fdN (vs5 a b c d e) M i) := by
    intro n9
    induction n9 with
    | zero => intro i u7 u8 hi hlo hm; exact absurd hm (Nat.not_lt_zero _)
    | succ n9 ih19 =>
      intro i u7 u8 hi hlo hm
      have e1 := fdN_1 (vs5 a b c d e) M i
      have L67 : ∀ (v : Int) (u7 u8 : Option Value) (hil : i < 5) (hv : v = (vs5 a b c d e) i), Gm E κ (pI (fun z M' => (2980 < M 66 1 ∧ z = -3 ∧ M' = M) ∨ (M 66 1 ≤ 2980 ∧ z = M 66 1 + 20 ∧ M' = rapp (rapp (rapp (rapp (rapp M a 4) b 4) c 4) d 4) e 4))) 9 67 [some (zr E 66), some (zi a), some (zi b), some (zi c), some (zi d), some (zi e), some (zi (i : Int)), u7, u8] [zi v] (fdN (vs5 a b c d e) M i) := by
        intro v u7 u8 hil hv
        have L73 : ∀ (n9 : Nat) (j : Int) (hj : 0 ≤ j ∧ j ≤ 4) (hm : (4 - j).toNat < n9), Gm E κ (pI (fun z M' => (2980 < M 66 1 ∧ z = -3 ∧ M' = M) ∨ (M 66 1 ≤ 2980 ∧ z = M 66 1 + 20 ∧ M' = rapp (rapp (rapp (rapp (rapp M a 4) b 4) c 4) d 4) e 4))) 9 73 [some (zr E 66), some (zi a), some (zi b), some (zi c), some (zi d), some (zi e), some (zi (i : Int)), some (zi v), some (zi (24 - 8 * j))] [] (rapp (fdN (vs5 a b c d e) M i) v j) := by
          intro n9
          induction n9 with
          | zero => intro j  hj hm; exact absurd hm (Nat.not_lt_zero _)
          | succ n9 ih73 =>
            intro j  hj hm
            have e2 : rapp (fdN (vs5 a b c d e) M i) v j 66 1 = M 66 1 + 4 * (i : Int) + j := by rw [rapp_66, if_pos rfl, e1]
            refine s_iload C dX11_feed_73 rfl ?_
            refine s_if_lt (tgt := 109) C dX11_feed_75 (by decide) (by omega) (fun c75 => ?_) (fun c75 => ?_)
            · skip
              refine s_iinc (lv' := [_, _, _, _, _, _, _, _, _]) C dX11_feed_109 rfl (by decide) rfl rfl rfl ?_
              refine s_goto (tgt := 19) C dX11_feed_112 (by decide) ?_
              have e3 : rapp (fdN (vs5 a b c d e) M i) v j = fdN (vs5 a b c d e) M (i + 1) := by rw [fdN, ← hv, show j = 4 by omega]
              rw [e3]
              exact ih19 (i + 1) _ _ (by omega) hlo (by omega)
            · skip
              refine s_aload_n C dX11_feed_78 rfl ?_
              refine s_getr (k := 0) (b := 67) C dX11_feed_79 fl_X11_7 (by decide) rfl (by decide) rfl ?_
              refine s_aload_n C dX11_feed_82 rfl ?_
              refine s_geti (k := 1) (j := 1) (z := M 66 1 + 4 * (i : Int) + j) C dX11_feed_83 fl_X11_136 (by decide) rfl (by decide) rfl (e2) (fun r83 => ?_)
              refine s_iload C dX11_feed_86 rfl ?_
              refine s_iload C dX11_feed_88 rfl ?_
              refine s_ishr C dX11_feed_90 ?_
              refine s_i2b C dX11_feed_91 ?_
              refine s_bastore (n := 3000) C dX11_feed_92 (by decide) rfl rfl (by omega) (by omega) (by omega) (by have := zb_rg (zshr v (24 - 8 * j)); omega) (by have := zb_rg (zshr v (24 - 8 * j)); omega) ?_
              refine s_aload_n C dX11_feed_93 rfl ?_
              refine s_dup C dX11_feed_94 rfl ?_
              refine s_geti (k := 1) (j := 1) (z := M 66 1 + 4 * (i : Int) + j) C dX11_feed_95 fl_X11_136 (by decide) rfl (by decide) rfl (by rw [mput_ne (by decide)]; exact e2) (fun r95 => ?_)
              refine s_iconst C dX11_feed_98 ?_
              refine s_iadd C dX11_feed_99 ?_
              refine s_puti (k := 1) (j := 1) C dX11_feed_100 fp_X11_136 (by decide) rfl rfl rfl (by omega) ?_
              refine s_iinc (lv' := [_, _, _, _, _, _, _, _, _]) C dX11_feed_103 rfl (by decide) rfl rfl rfl ?_
              refine s_goto (tgt := 73) C dX11_feed_106 (by decide) ?_
              rw [← e1, rapp_s _ _ _ hj.1, show 24 - 8 * j + -8 = 24 - 8 * (j + 1) by omega]
              exact ih73 (j + 1) (by omega) (by omega)
        refine s_istore (lv' := [_, _, _, _, _, _, _, _, _]) C dX11_feed_67 (by decide) rfl rfl ?_
        refine s_bipush C dX11_feed_69 (by decide) ?_
        refine s_istore (lv' := [_, _, _, _, _, _, _, _, _]) C dX11_feed_71 (by decide) rfl rfl ?_
        rw [show (24 : Int) = 24 - 8 * 0 by decide, ← rapp_0 (fdN (vs5 a b c d e) M i) v]
        exact L73 _ 0 (by omega) (Nat.lt_succ_self _)
      refine s_iload C dX11_feed_19 rfl ?_
      refine s_iconst C dX11_feed_21 ?_
      refine s_icmp_ge (tgt := 115) C dX11_feed_22 (by decide) (by omega) (by omega) (fun c22 => ?_) (fun c22 => ?_)
      · skip
        refine s_aload_n C dX11_feed_115 rfl ?_
        refine s_geti (k := 1) (j := 1) (z := M 66 1 + 20) C dX11_feed_116 fl_X11_136 (by decide) rfl (by decide) rfl (by rw [e1]; omega) (fun r116 => ?_)
        exact s_ireturn C dX11_feed_119 (⟨_, rfl, Or.inr ⟨hlo, rfl, by rw [show i = 5 by omega]; rfl⟩⟩)
      · skip
        refine s_iload C dX11_feed_25 rfl ?_
        refine s_if_ne (tgt := 34) C dX11_feed_27 (by decide) (by omega) (fun c27 => ?_) (fun c27 => ?_)
        · skip
          refine s_iload C dX11_feed_34 rfl ?_
          refine s_iconst C dX11_feed_36 ?_
          refine s_icmp_ne (tgt := 44) C dX11_feed_37 (by decide) (by omega) (by omega) (fun c37 => ?_) (fun c37 => ?_)
          · skip
            refine s_iload C dX11_feed_44 rfl ?_
            refine s_iconst C dX11_feed_46 ?_
            refine s_icmp_ne (tgt := 54) C dX11_feed_47 (by decide) (by omega) (by omega) (fun c47 => ?_) (fun c47 => ?_)
            · skip
              refine s_iload C dX11_feed_54 rfl ?_
              refine s_iconst C dX11_feed_56 ?_
              refine s_icmp_ne (tgt := 65) C dX11_feed_57 (by decide) (by omega) (by omega) (fun c57 => ?_) (fun c57 => ?_)
              · skip
                refine s_iload C dX11_feed_65 rfl ?_
                exact L67 _ _ _ (by omega) (by unfold vs5; first | (rw [if_pos (by omega)]; done) | (rw [if_neg (by omega), if_pos (by omega)]; done) | (rw [if_neg (by omega), if_neg (by omega), if_pos (by omega)]; done) | (rw [if_neg (by omega), if_neg (by omega), if_neg (by omega), if_pos (by omega)]; done) | (rw [if_neg (by omega), if_neg (by omega), if_neg (by omega), if_neg (by omega)]; done))
              · skip
                refine s_iload C dX11_feed_60 rfl ?_
                refine s_goto (tgt := 67) C dX11_feed_62 (by decide) ?_
                exact L67 _ _ _ (by omega) (by unfold vs5; first | (rw [if_pos (by omega)]; done) | (rw [if_neg (by omega), if_pos (by omega)]; done) | (rw [if_neg (by omega), if_neg (by omega), if_pos (by omega)]; done) | (rw [if_neg (by omega), if_neg (by omega), if_neg (by omega), if_pos (by omega)]; done) | (rw [if_neg (by omega), if_neg (by omega), if_neg (by omega), if_neg (by omega)]; done))
            · skip
              refine s_iload_n C dX11_feed_50 rfl ?_
              refine s_goto (tgt := 67) C dX11_feed_51 (by decide) ?_
              exact L67 _ _ _ (by omega) (by unfold vs5; first | (rw [if_pos (by omega)]; done) | (rw [if_neg (by omega), if_pos (by omega)]; done) | (rw [if_neg (by omega), if_neg (by omega), if_pos (by omega)]; done) | (rw [if_neg (by omega), if_neg (by omega), if_neg (by omega), if_pos (by omega)]; done) | (rw [if_neg (by omega), if_neg (by omega), if_neg (by omega), if_neg (by omega)]; done))
          · skip
            refine s_iload_n C dX11_feed_40 rfl ?_
            refine s_goto (tgt := 67) C dX11_feed_41 (by decide) ?_
            exact L67 _ _ _ (by omega) (by unfold vs5; first | (rw [if_pos (by omega)]; done) | (rw [if_neg (by omega), if_pos (by omega)]; done) | (rw [if_neg (by omega), if_neg (by omega), if_pos (by omega)]; done) | (rw [if_neg (by omega), if_neg (by omega), if_neg (by omega), if_pos (by omega)]; done) | (rw [if_neg (by omega), if_neg (by omega), if_neg (by omega), if_neg (by omega)]; done))
        · skip
          refine s_iload_n C dX11_feed_30 rfl ?_
          refine s_goto (tgt := 67) C dX11_feed_31 (by decide) ?_
          exact L67 _ _ _ (by omega) (by unfold vs5; first | (rw [if_pos (by omega)]; done) | (rw [if_neg (by omega), if_pos (by omega)]; done) | (rw [if_neg (by omega), if_neg (by omega), if_pos (by omega)]; done) | (rw [if_neg (by omega), if_neg (by omega), if_neg (by omega), if_pos (by omega)]; done) | (rw [if_neg (by omega), if_neg (by omega), if_neg (by omega), if_neg (by omega)]; done))
  refine s_aload_n C dX11_feed_0 rfl ?_
  refine s_geti (k := 1) (j := 1) C dX11_feed_1 fl_X11_136 (by decide) rfl (by decide) rfl (rfl) (fun r1 => ?_)
  refine s_bipush C dX11_feed_4 (by decide) ?_
  refine s_iadd C dX11_feed_6 ?_
  refine s_sipush C dX11_feed_7 (by decide) ?_
  refine s_icmp_le (tgt := 16) C dX11_feed_10 (by decide) (by omega) (by omega) (fun c10 => ?_) (fun c10 => ?_)
  · skip
    refine s_iconst C dX11_feed_16 ?_
    refine s_istore (lv' := [_, _, _, _, _, _, _, _, _]) C dX11_feed_17 (by decide) rfl rfl ?_
    exact L19 _ 0 _ _ (by omega) (by omega) (Nat.lt_succ_self _)
  · skip
    refine s_bipush C dX11_feed_13 (by decide) ?_
    exact s_ireturn C dX11_feed_15 (⟨_, rfl, Or.inl ⟨by omega, rfl, rfl⟩⟩)

set_option maxRecDepth 20000 in
set_option maxHeartbeats 4000000 in
theorem ct_X11_stop (E : Ev) (M : Mm) (hs : 0 ≤ M 66 1 ∧ M 66 1 ≤ 3000) (hw : tR M 6 70 60) : Ct E yX11_stop cX11_stop 2 (some .int) 2 [zr E 66] M (pI (fun z M' => rtg M M' 69 70 6 60 16 z)) := by
  refine Ct.of (own := RX11) (lv0 := [some (zr E 66), none]) (by decide) rfl (Nat.le_of_ble_eq_true rfl) rfl (fun κ C => ?_)
  refine s_aload_n C dX11_stop_0 rfl ?_
  refine s_bipush C dX11_stop_1 (by decide) ?_
  refine s_callV1 C dX11_stop_3 cy_X11_takeWord cv_X11_takeWord lk_X11_158 (ct_X11_takeWord E M 16 (by omega) hs) (by decide) (by decide) (by first | decide | (decide)) rfl (Nat.le_of_ble_eq_true rfl) (k_I (fun z3 M3 q3 => ?_))
  obtain ⟨o1, o2⟩ := q3
  obtain ⟨o11, o12, o13⟩ := o1
  have ec : M3 66 6 = M 66 6 := o13 6 (by decide) (by decide)
  have ew : M3 70 = M 70 := o11 70 (by decide)
  have hc := hw.1
  have o1 : mTk M M3 := ⟨o11, o12, o13⟩
  refine s_if_ne (tgt := 12) C dX11_stop_6 (by decide) (by rcases o2 with ⟨g, _⟩ | ⟨g, _⟩ <;> omega) (fun c6 => ?_) (fun c6 => ?_)
  · skip
    have ho : mWd M 16 ∧ rHeld M M3 := by
      rcases o2 with ⟨g, _⟩ | ⟨_, g1, g2, g3⟩
      · exact absurd g c6
      · exact ⟨g1, g2, g3⟩
    obtain ⟨ho1, ho2⟩ := ho
    clear o2
    have hh : 0 ≤ M3 66 3 ∧ M3 66 3 ≤ 16 := by rw [ho2.1]; have := ho1.1; have := ho1.2.1; omega
    refine s_aload_n C dX11_stop_12 rfl ?_
    refine s_getr (k := 4) (b := 69) C dX11_stop_13 fl_X11_16 (by decide) rfl (by decide) rfl ?_
    refine s_aload_n C dX11_stop_16 rfl ?_
    refine s_getr (k := 5) (b := 70) C dX11_stop_17 fl_X11_19 (by decide) rfl (by decide) rfl ?_
    refine s_aload_n C dX11_stop_20 rfl ?_
    refine s_geti (k := 6) (j := 6) C dX11_stop_21 fl_X11_161 (by decide) rfl (by decide) rfl (rfl) (fun r21 => ?_)
    refine s_aload_n C dX11_stop_24 rfl ?_
    refine s_getr (k := 2) (b := 68) C dX11_stop_25 fl_X11_13 (by decide) rfl (by decide) rfl ?_
    refine s_iconst C dX11_stop_28 ?_
    refine s_aload_n C dX11_stop_29 rfl ?_
    refine s_geti (k := 3) (j := 3) C dX11_stop_30 fl_X11_151 (by decide) rfl (by decide) rfl (rfl) (fun r30 => ?_)
    refine s_callS6 C dX11_stop_33 cy_X11_find cs_X11_find lk_X11_164 (ct_X11_find E 70 (by decide) 69 68 (by decide) (by decide) (by decide) (by decide) M3 (M3 66 6) 0 (M3 66 3) (by have l1 : ln 70 = 60 := rfl; have l2 : ln 69 = 960 := rfl; omega) (fun q a b => by rw [ew]; exact hw.2 q a (by omega)) (by omega) (by have l2 : ln 68 = 16 := rfl; omega)) (by decide) (Nat.le_of_ble_eq_true rfl) (k_P (fun z33 q33 => ?_))
    have hf : rFind M3 69 70 6 z33 := q33
    clear q33
    have hfr := rFind_rg hf
    refine s_istore_n (lv' := [_, _]) C dX11_stop_36 (by decide) rfl rfl ?_
    refine s_iload_n C dX11_stop_37 rfl ?_
    refine s_iconst C dX11_stop_38 ?_
    refine s_icmp_ne (tgt := 54) C dX11_stop_39 (by decide) (by omega) (by omega) (fun c39 => ?_) (fun c39 => ?_)
    · skip
      refine s_iload_n C dX11_stop_54 rfl ?_
      refine s_iconst C dX11_stop_55 ?_
      refine s_icmp_ne (tgt := 88) C dX11_stop_56 (by decide) (by omega) (by omega) (fun c56 => ?_) (fun c56 => ?_)
      · skip
        refine s_aload_n C dX11_stop_88 rfl ?_
        refine s_dup C dX11_stop_89 rfl ?_
        refine s_geti (k := 6) (j := 6) (z := M3 66 6) C dX11_stop_90 fl_X11_161 (by decide) rfl (by decide) rfl (rfl) (fun r90 => ?_)
        refine s_iconst C dX11_stop_93 ?_
        refine s_isub C dX11_stop_94 ?_
        refine s_puti (k := 6) (j := 6) C dX11_stop_95 fp_X11_161 (by decide) rfl rfl rfl (by omega) ?_
        refine s_aload_n C dX11_stop_98 rfl ?_
        refine s_getr (k := 4) (b := 69) C dX11_stop_99 fl_X11_16 (by decide) rfl (by decide) rfl ?_
        refine s_aload_n C dX11_stop_102 rfl ?_
        refine s_getr (k := 5) (b := 70) C dX11_stop_103 fl_X11_19 (by decide) rfl (by decide) rfl ?_
        refine s_iload_n C dX11_stop_106 rfl ?_
        refine s_aload_n C dX11_stop_107 rfl ?_
        refine s_geti (k := 6) (j := 6) (z := M3 66 6 - 1) C dX11_stop_108 fl_X11_161 (by decide) rfl (by decide) rfl (by rw [mput_eq]) (fun r108 => ?_)
        refine s_callS4 C dX11_stop_111 cy_X11_takeAway cs_X11_takeAway lk_X11_172 (ct_X11_takeAway E 69 70 (by decide) (by decide) (by decide) (mput M3 66 6 (M3 66 6 - 1)) z33 (M3 66 6 - 1) (by omega) (by have l1 : ln 70 = 60 := rfl; have l2 : ln 69 = 960 := rfl; omega)) (by decide) (Nat.le_of_ble_eq_true rfl) (k_V (fun M111 q111 => ?_))
        rw [mput_ne (by decide : 70 ≠ 66)] at q111
        subst q111
        refine s_aload_n C dX11_stop_114 rfl ?_
        refine s_iconst C dX11_stop_115 ?_
        refine s_putz (k := 32) (j := 32) C dX11_stop_116 fp_X11_176 (by decide) rfl rfl rfl (by decide) ?_
        refine s_aload_n C dX11_stop_119 rfl ?_
        refine s_geti (k := 6) (j := 6) C dX11_stop_120 fl_X11_161 (by decide) rfl (by decide) rfl (rfl) (fun r120 => ?_)
        exact s_ireturn C dX11_stop_123 (⟨_, rfl, ⟨M3, o1, Or.inr ⟨ho1, ho2, z33, hf, by
      first
        | exact Or.inl ⟨by omega, by rw [mput_nk (by decide), mput_ne (by decide), tAw_ne (by decide), mput_eq], rfl⟩
        | exact Or.inr (Or.inr ⟨by omega, by omega, by rw [mput_nk (by decide), mput_eq], rfl⟩)⟩⟩⟩)
      · skip
        refine s_aload_n C dX11_stop_59 rfl ?_
        refine s_aload_n C dX11_stop_60 rfl ?_
        refine s_getr (k := 4) (b := 69) C dX11_stop_61 fl_X11_16 (by decide) rfl (by decide) rfl ?_
        refine s_aload_n C dX11_stop_64 rfl ?_
        refine s_getr (k := 5) (b := 70) C dX11_stop_65 fl_X11_19 (by decide) rfl (by decide) rfl ?_
        refine s_aload_n C dX11_stop_68 rfl ?_
        refine s_geti (k := 6) (j := 6) C dX11_stop_69 fl_X11_161 (by decide) rfl (by decide) rfl (rfl) (fun r69 => ?_)
        refine s_callV3 C dX11_stop_72 cy_X11_put cv_X11_put lk_X11_168 (ct_X11_put E 69 70 (by decide) (by decide) (by decide) M3 (M3 66 6) (by have l1 : ln 70 = 60 := rfl; have l2 : ln 69 = 960 := rfl; omega) (by omega)) (by decide) (by decide) (by first | decide | (decide)) rfl (Nat.le_of_ble_eq_true rfl) (k_V (fun M72 q72 => ?_))
        subst q72
        refine s_aload_n C dX11_stop_75 rfl ?_
        refine s_dup C dX11_stop_76 rfl ?_
        refine s_geti (k := 6) (j := 6) (z := M3 66 6) C dX11_stop_77 fl_X11_161 (by decide) rfl (by decide) rfl (by rw [mput_ne (by decide), mcopy_ne (by decide)]) (fun r77 => ?_)
        refine s_iconst C dX11_stop_80 ?_
        refine s_iadd C dX11_stop_81 ?_
        refine s_puti (k := 6) (j := 6) C dX11_stop_82 fp_X11_161 (by decide) rfl rfl rfl (by omega) ?_
        refine s_goto (tgt := 114) C dX11_stop_85 (by decide) ?_
        refine s_aload_n C dX11_stop_114 rfl ?_
        refine s_iconst C dX11_stop_115 ?_
        refine s_putz (k := 32) (j := 32) C dX11_stop_116 fp_X11_176 (by decide) rfl rfl rfl (by decide) ?_
        refine s_aload_n C dX11_stop_119 rfl ?_
        refine s_geti (k := 6) (j := 6) C dX11_stop_120 fl_X11_161 (by decide) rfl (by decide) rfl (rfl) (fun r120 => ?_)
        exact s_ireturn C dX11_stop_123 (⟨_, rfl, ⟨M3, o1, Or.inr ⟨ho1, ho2, z33, hf, by
      first
        | exact Or.inl ⟨by omega, by rw [mput_nk (by decide), mput_ne (by decide), tAw_ne (by decide), mput_eq], rfl⟩
        | exact Or.inr (Or.inr ⟨by omega, by omega, by rw [mput_nk (by decide), mput_eq], rfl⟩)⟩⟩⟩)
    · skip
      refine s_aload_n C dX11_stop_42 rfl ?_
      refine s_geti (k := 6) (j := 6) C dX11_stop_43 fl_X11_161 (by decide) rfl (by decide) rfl (rfl) (fun r43 => ?_)
      refine s_bipush C dX11_stop_46 (by decide) ?_
      refine s_icmp_ne (tgt := 54) C dX11_stop_48 (by decide) (by omega) (by omega) (fun c48 => ?_) (fun c48 => ?_)
      · skip
        refine s_iload_n C dX11_stop_54 rfl ?_
        refine s_iconst C dX11_stop_55 ?_
        refine s_icmp_ne (tgt := 88) C dX11_stop_56 (by decide) (by omega) (by omega) (fun c56 => ?_) (fun c56 => ?_)
        · skip
          refine s_aload_n C dX11_stop_88 rfl ?_
          refine s_dup C dX11_stop_89 rfl ?_
          refine s_geti (k := 6) (j := 6) (z := M3 66 6) C dX11_stop_90 fl_X11_161 (by decide) rfl (by decide) rfl (rfl) (fun r90 => ?_)
          refine s_iconst C dX11_stop_93 ?_
          refine s_isub C dX11_stop_94 ?_
          refine s_puti (k := 6) (j := 6) C dX11_stop_95 fp_X11_161 (by decide) rfl rfl rfl (by omega) ?_
          refine s_aload_n C dX11_stop_98 rfl ?_
          refine s_getr (k := 4) (b := 69) C dX11_stop_99 fl_X11_16 (by decide) rfl (by decide) rfl ?_
          refine s_aload_n C dX11_stop_102 rfl ?_
          refine s_getr (k := 5) (b := 70) C dX11_stop_103 fl_X11_19 (by decide) rfl (by decide) rfl ?_
          refine s_iload_n C dX11_stop_106 rfl ?_
          refine s_aload_n C dX11_stop_107 rfl ?_
          refine s_geti (k := 6) (j := 6) (z := M3 66 6 - 1) C dX11_stop_108 fl_X11_161 (by decide) rfl (by decide) rfl (by rw [mput_eq]) (fun r108 => ?_)
          refine s_callS4 C dX11_stop_111 cy_X11_takeAway cs_X11_takeAway lk_X11_172 (ct_X11_takeAway E 69 70 (by decide) (by decide) (by decide) (mput M3 66 6 (M3 66 6 - 1)) z33 (M3 66 6 - 1) (by omega) (by have l1 : ln 70 = 60 := rfl; have l2 : ln 69 = 960 := rfl; omega)) (by decide) (Nat.le_of_ble_eq_true rfl) (k_V (fun M111 q111 => ?_))
          rw [mput_ne (by decide : 70 ≠ 66)] at q111
          subst q111
          refine s_aload_n C dX11_stop_114 rfl ?_
          refine s_iconst C dX11_stop_115 ?_
          refine s_putz (k := 32) (j := 32) C dX11_stop_116 fp_X11_176 (by decide) rfl rfl rfl (by decide) ?_
          refine s_aload_n C dX11_stop_119 rfl ?_
          refine s_geti (k := 6) (j := 6) C dX11_stop_120 fl_X11_161 (by decide) rfl (by decide) rfl (rfl) (fun r120 => ?_)
          exact s_ireturn C dX11_stop_123 (⟨_, rfl, ⟨M3, o1, Or.inr ⟨ho1, ho2, z33, hf, by
      first
        | exact Or.inl ⟨by omega, by rw [mput_nk (by decide), mput_ne (by decide), tAw_ne (by decide), mput_eq], rfl⟩
        | exact Or.inr (Or.inr ⟨by omega, by omega, by rw [mput_nk (by decide), mput_eq], rfl⟩)⟩⟩⟩)
        · skip
          refine s_aload_n C dX11_stop_59 rfl ?_
          refine s_aload_n C dX11_stop_60 rfl ?_
          refine s_getr (k := 4) (b := 69) C dX11_stop_61 fl_X11_16 (by decide) rfl (by decide) rfl ?_
          refine s_aload_n C dX11_stop_64 rfl ?_
          refine s_getr (k := 5) (b := 70) C dX11_stop_65 fl_X11_19 (by decide) rfl (by decide) rfl ?_
          refine s_aload_n C dX11_stop_68 rfl ?_
          refine s_geti (k := 6) (j := 6) C dX11_stop_69 fl_X11_161 (by decide) rfl (by decide) rfl (rfl) (fun r69 => ?_)
          refine s_callV3 C dX11_stop_72 cy_X11_put cv_X11_put lk_X11_168 (ct_X11_put E 69 70 (by decide) (by decide) (by decide) M3 (M3 66 6) (by have l1 : ln 70 = 60 := rfl; have l2 : ln 69 = 960 := rfl; omega) (by omega)) (by decide) (by decide) (by first | decide | (decide)) rfl (Nat.le_of_ble_eq_true rfl) (k_V (fun M72 q72 => ?_))
          subst q72
          refine s_aload_n C dX11_stop_75 rfl ?_
          refine s_dup C dX11_stop_76 rfl ?_
          refine s_geti (k := 6) (j := 6) (z := M3 66 6) C dX11_stop_77 fl_X11_161 (by decide) rfl (by decide) rfl (by rw [mput_ne (by decide), mcopy_ne (by decide)]) (fun r77 => ?_)
          refine s_iconst C dX11_stop_80 ?_
          refine s_iadd C dX11_stop_81 ?_
          refine s_puti (k := 6) (j := 6) C dX11_stop_82 fp_X11_161 (by decide) rfl rfl rfl (by omega) ?_
          refine s_goto (tgt := 114) C dX11_stop_85 (by decide) ?_
          refine s_aload_n C dX11_stop_114 rfl ?_
          refine s_iconst C dX11_stop_115 ?_
          refine s_putz (k := 32) (j := 32) C dX11_stop_116 fp_X11_176 (by decide) rfl rfl rfl (by decide) ?_
          refine s_aload_n C dX11_stop_119 rfl ?_
          refine s_geti (k := 6) (j := 6) C dX11_stop_120 fl_X11_161 (by decide) rfl (by decide) rfl (rfl) (fun r120 => ?_)
          exact s_ireturn C dX11_stop_123 (⟨_, rfl, ⟨M3, o1, Or.inr ⟨ho1, ho2, z33, hf, by
      first
        | exact Or.inl ⟨by omega, by rw [mput_nk (by decide), mput_ne (by decide), tAw_ne (by decide), mput_eq], rfl⟩
        | exact Or.inr (Or.inr ⟨by omega, by omega, by rw [mput_nk (by decide), mput_eq], rfl⟩)⟩⟩⟩)
      · skip
        refine s_bipush C dX11_stop_51 (by decide) ?_
        exact s_ireturn C dX11_stop_53 (⟨_, rfl, ⟨M3, o1, Or.inr ⟨ho1, ho2, z33, hf, Or.inr (Or.inl ⟨by omega, by omega, rfl, rfl⟩)⟩⟩⟩)
  · skip
    refine s_bipush C dX11_stop_9 (by decide) ?_
    exact s_ireturn C dX11_stop_11 (⟨_, rfl, ⟨M3, o1, Or.inl ⟨by rcases o2 with ⟨_, g⟩ | ⟨g, _⟩; exact g; omega, rfl, rfl⟩⟩⟩)

set_option maxRecDepth 20000 in
set_option maxHeartbeats 4000000 in
theorem ct_X11_ending (E : Ev) (M : Mm) (hs : 0 ≤ M 66 1 ∧ M 66 1 ≤ 3000) (hw : tR M 13 75 10) : Ct E yX11_ending cX11_ending 2 (some .int) 2 [zr E 66] M (pI (fun z M' => rtg M M' 74 75 13 10 6 z)) := by
  refine Ct.of (own := RX11) (lv0 := [some (zr E 66), none]) (by decide) rfl (Nat.le_of_ble_eq_true rfl) rfl (fun κ C => ?_)
  refine s_aload_n C dX11_ending_0 rfl ?_
  refine s_bipush C dX11_ending_1 (by decide) ?_
  refine s_callV1 C dX11_ending_3 cy_X11_takeWord cv_X11_takeWord lk_X11_158 (ct_X11_takeWord E M 6 (by omega) hs) (by decide) (by decide) (by first | decide | (decide)) rfl (Nat.le_of_ble_eq_true rfl) (k_I (fun z3 M3 q3 => ?_))
  obtain ⟨o1, o2⟩ := q3
  obtain ⟨o11, o12, o13⟩ := o1
  have ec : M3 66 13 = M 66 13 := o13 13 (by decide) (by decide)
  have ew : M3 75 = M 75 := o11 75 (by decide)
  have hc := hw.1
  have o1 : mTk M M3 := ⟨o11, o12, o13⟩
  refine s_if_ne (tgt := 12) C dX11_ending_6 (by decide) (by rcases o2 with ⟨g, _⟩ | ⟨g, _⟩ <;> omega) (fun c6 => ?_) (fun c6 => ?_)
  · skip
    have ho : mWd M 6 ∧ rHeld M M3 := by
      rcases o2 with ⟨g, _⟩ | ⟨_, g1, g2, g3⟩
      · exact absurd g c6
      · exact ⟨g1, g2, g3⟩
    obtain ⟨ho1, ho2⟩ := ho
    clear o2
    have hh : 0 ≤ M3 66 3 ∧ M3 66 3 ≤ 6 := by rw [ho2.1]; have := ho1.1; have := ho1.2.1; omega
    refine s_aload_n C dX11_ending_12 rfl ?_
    refine s_getr (k := 11) (b := 74) C dX11_ending_13 fl_X11_32 (by decide) rfl (by decide) rfl ?_
    refine s_aload_n C dX11_ending_16 rfl ?_
    refine s_getr (k := 12) (b := 75) C dX11_ending_17 fl_X11_35 (by decide) rfl (by decide) rfl ?_
    refine s_aload_n C dX11_ending_20 rfl ?_
    refine s_geti (k := 13) (j := 13) C dX11_ending_21 fl_X11_183 (by decide) rfl (by decide) rfl (rfl) (fun r21 => ?_)
    refine s_aload_n C dX11_ending_24 rfl ?_
    refine s_getr (k := 2) (b := 68) C dX11_ending_25 fl_X11_13 (by decide) rfl (by decide) rfl ?_
    refine s_iconst C dX11_ending_28 ?_
    refine s_aload_n C dX11_ending_29 rfl ?_
    refine s_geti (k := 3) (j := 3) C dX11_ending_30 fl_X11_151 (by decide) rfl (by decide) rfl (rfl) (fun r30 => ?_)
    refine s_callS6 C dX11_ending_33 cy_X11_find cs_X11_find lk_X11_164 (ct_X11_find E 75 (by decide) 74 68 (by decide) (by decide) (by decide) (by decide) M3 (M3 66 13) 0 (M3 66 3) (by have l1 : ln 75 = 10 := rfl; have l2 : ln 74 = 160 := rfl; omega) (fun q a b => by rw [ew]; exact hw.2 q a (by omega)) (by omega) (by have l2 : ln 68 = 16 := rfl; omega)) (by decide) (Nat.le_of_ble_eq_true rfl) (k_P (fun z33 q33 => ?_))
    have hf : rFind M3 74 75 13 z33 := q33
    clear q33
    have hfr := rFind_rg hf
    refine s_istore_n (lv' := [_, _]) C dX11_ending_36 (by decide) rfl rfl ?_
    refine s_iload_n C dX11_ending_37 rfl ?_
    refine s_iconst C dX11_ending_38 ?_
    refine s_icmp_ne (tgt := 54) C dX11_ending_39 (by decide) (by omega) (by omega) (fun c39 => ?_) (fun c39 => ?_)
    · skip
      refine s_iload_n C dX11_ending_54 rfl ?_
      refine s_iconst C dX11_ending_55 ?_
      refine s_icmp_ne (tgt := 88) C dX11_ending_56 (by decide) (by omega) (by omega) (fun c56 => ?_) (fun c56 => ?_)
      · skip
        refine s_aload_n C dX11_ending_88 rfl ?_
        refine s_dup C dX11_ending_89 rfl ?_
        refine s_geti (k := 13) (j := 13) (z := M3 66 13) C dX11_ending_90 fl_X11_183 (by decide) rfl (by decide) rfl (rfl) (fun r90 => ?_)
        refine s_iconst C dX11_ending_93 ?_
        refine s_isub C dX11_ending_94 ?_
        refine s_puti (k := 13) (j := 13) C dX11_ending_95 fp_X11_183 (by decide) rfl rfl rfl (by omega) ?_
        refine s_aload_n C dX11_ending_98 rfl ?_
        refine s_getr (k := 11) (b := 74) C dX11_ending_99 fl_X11_32 (by decide) rfl (by decide) rfl ?_
        refine s_aload_n C dX11_ending_102 rfl ?_
        refine s_getr (k := 12) (b := 75) C dX11_ending_103 fl_X11_35 (by decide) rfl (by decide) rfl ?_
        refine s_iload_n C dX11_ending_106 rfl ?_
        refine s_aload_n C dX11_ending_107 rfl ?_
        refine s_geti (k := 13) (j := 13) (z := M3 66 13 - 1) C dX11_ending_108 fl_X11_183 (by decide) rfl (by decide) rfl (by rw [mput_eq]) (fun r108 => ?_)
        refine s_callS4 C dX11_ending_111 cy_X11_takeAway cs_X11_takeAway lk_X11_172 (ct_X11_takeAway E 74 75 (by decide) (by decide) (by decide) (mput M3 66 13 (M3 66 13 - 1)) z33 (M3 66 13 - 1) (by omega) (by have l1 : ln 75 = 10 := rfl; have l2 : ln 74 = 160 := rfl; omega)) (by decide) (Nat.le_of_ble_eq_true rfl) (k_V (fun M111 q111 => ?_))
        rw [mput_ne (by decide : 75 ≠ 66)] at q111
        subst q111
        refine s_aload_n C dX11_ending_114 rfl ?_
        refine s_iconst C dX11_ending_115 ?_
        refine s_putz (k := 32) (j := 32) C dX11_ending_116 fp_X11_176 (by decide) rfl rfl rfl (by decide) ?_
        refine s_aload_n C dX11_ending_119 rfl ?_
        refine s_geti (k := 13) (j := 13) C dX11_ending_120 fl_X11_183 (by decide) rfl (by decide) rfl (rfl) (fun r120 => ?_)
        exact s_ireturn C dX11_ending_123 (⟨_, rfl, ⟨M3, o1, Or.inr ⟨ho1, ho2, z33, hf, by
      first
        | exact Or.inl ⟨by omega, by rw [mput_nk (by decide), mput_ne (by decide), tAw_ne (by decide), mput_eq], rfl⟩
        | exact Or.inr (Or.inr ⟨by omega, by omega, by rw [mput_nk (by decide), mput_eq], rfl⟩)⟩⟩⟩)
      · skip
        refine s_aload_n C dX11_ending_59 rfl ?_
        refine s_aload_n C dX11_ending_60 rfl ?_
        refine s_getr (k := 11) (b := 74) C dX11_ending_61 fl_X11_32 (by decide) rfl (by decide) rfl ?_
        refine s_aload_n C dX11_ending_64 rfl ?_
        refine s_getr (k := 12) (b := 75) C dX11_ending_65 fl_X11_35 (by decide) rfl (by decide) rfl ?_
        refine s_aload_n C dX11_ending_68 rfl ?_
        refine s_geti (k := 13) (j := 13) C dX11_ending_69 fl_X11_183 (by decide) rfl (by decide) rfl (rfl) (fun r69 => ?_)
        refine s_callV3 C dX11_ending_72 cy_X11_put cv_X11_put lk_X11_168 (ct_X11_put E 74 75 (by decide) (by decide) (by decide) M3 (M3 66 13) (by have l1 : ln 75 = 10 := rfl; have l2 : ln 74 = 160 := rfl; omega) (by omega)) (by decide) (by decide) (by first | decide | (decide)) rfl (Nat.le_of_ble_eq_true rfl) (k_V (fun M72 q72 => ?_))
        subst q72
        refine s_aload_n C dX11_ending_75 rfl ?_
        refine s_dup C dX11_ending_76 rfl ?_
        refine s_geti (k := 13) (j := 13) (z := M3 66 13) C dX11_ending_77 fl_X11_183 (by decide) rfl (by decide) rfl (by rw [mput_ne (by decide), mcopy_ne (by decide)]) (fun r77 => ?_)
        refine s_iconst C dX11_ending_80 ?_
        refine s_iadd C dX11_ending_81 ?_
        refine s_puti (k := 13) (j := 13) C dX11_ending_82 fp_X11_183 (by decide) rfl rfl rfl (by omega) ?_
        refine s_goto (tgt := 114) C dX11_ending_85 (by decide) ?_
        refine s_aload_n C dX11_ending_114 rfl ?_
        refine s_iconst C dX11_ending_115 ?_
        refine s_putz (k := 32) (j := 32) C dX11_ending_116 fp_X11_176 (by decide) rfl rfl rfl (by decide) ?_
        refine s_aload_n C dX11_ending_119 rfl ?_
        refine s_geti (k := 13) (j := 13) C dX11_ending_120 fl_X11_183 (by decide) rfl (by decide) rfl (rfl) (fun r120 => ?_)
        exact s_ireturn C dX11_ending_123 (⟨_, rfl, ⟨M3, o1, Or.inr ⟨ho1, ho2, z33, hf, by
      first
        | exact Or.inl ⟨by omega, by rw [mput_nk (by decide), mput_ne (by decide), tAw_ne (by decide), mput_eq], rfl⟩
        | exact Or.inr (Or.inr ⟨by omega, by omega, by rw [mput_nk (by decide), mput_eq], rfl⟩)⟩⟩⟩)
    · skip
      refine s_aload_n C dX11_ending_42 rfl ?_
      refine s_geti (k := 13) (j := 13) C dX11_ending_43 fl_X11_183 (by decide) rfl (by decide) rfl (rfl) (fun r43 => ?_)
      refine s_bipush C dX11_ending_46 (by decide) ?_
      refine s_icmp_ne (tgt := 54) C dX11_ending_48 (by decide) (by omega) (by omega) (fun c48 => ?_) (fun c48 => ?_)
      · skip
        refine s_iload_n C dX11_ending_54 rfl ?_
        refine s_iconst C dX11_ending_55 ?_
        refine s_icmp_ne (tgt := 88) C dX11_ending_56 (by decide) (by omega) (by omega) (fun c56 => ?_) (fun c56 => ?_)
        · skip
          refine s_aload_n C dX11_ending_88 rfl ?_
          refine s_dup C dX11_ending_89 rfl ?_
          refine s_geti (k := 13) (j := 13) (z := M3 66 13) C dX11_ending_90 fl_X11_183 (by decide) rfl (by decide) rfl (rfl) (fun r90 => ?_)
          refine s_iconst C dX11_ending_93 ?_
          refine s_isub C dX11_ending_94 ?_
          refine s_puti (k := 13) (j := 13) C dX11_ending_95 fp_X11_183 (by decide) rfl rfl rfl (by omega) ?_
          refine s_aload_n C dX11_ending_98 rfl ?_
          refine s_getr (k := 11) (b := 74) C dX11_ending_99 fl_X11_32 (by decide) rfl (by decide) rfl ?_
          refine s_aload_n C dX11_ending_102 rfl ?_
          refine s_getr (k := 12) (b := 75) C dX11_ending_103 fl_X11_35 (by decide) rfl (by decide) rfl ?_
          refine s_iload_n C dX11_ending_106 rfl ?_
          refine s_aload_n C dX11_ending_107 rfl ?_
          refine s_geti (k := 13) (j := 13) (z := M3 66 13 - 1) C dX11_ending_108 fl_X11_183 (by decide) rfl (by decide) rfl (by rw [mput_eq]) (fun r108 => ?_)
          refine s_callS4 C dX11_ending_111 cy_X11_takeAway cs_X11_takeAway lk_X11_172 (ct_X11_takeAway E 74 75 (by decide) (by decide) (by decide) (mput M3 66 13 (M3 66 13 - 1)) z33 (M3 66 13 - 1) (by omega) (by have l1 : ln 75 = 10 := rfl; have l2 : ln 74 = 160 := rfl; omega)) (by decide) (Nat.le_of_ble_eq_true rfl) (k_V (fun M111 q111 => ?_))
          rw [mput_ne (by decide : 75 ≠ 66)] at q111
          subst q111
          refine s_aload_n C dX11_ending_114 rfl ?_
          refine s_iconst C dX11_ending_115 ?_
          refine s_putz (k := 32) (j := 32) C dX11_ending_116 fp_X11_176 (by decide) rfl rfl rfl (by decide) ?_
          refine s_aload_n C dX11_ending_119 rfl ?_
          refine s_geti (k := 13) (j := 13) C dX11_ending_120 fl_X11_183 (by decide) rfl (by decide) rfl (rfl) (fun r120 => ?_)
          exact s_ireturn C dX11_ending_123 (⟨_, rfl, ⟨M3, o1, Or.inr ⟨ho1, ho2, z33, hf, by
      first
        | exact Or.inl ⟨by omega, by rw [mput_nk (by decide), mput_ne (by decide), tAw_ne (by decide), mput_eq], rfl⟩
        | exact Or.inr (Or.inr ⟨by omega, by omega, by rw [mput_nk (by decide), mput_eq], rfl⟩)⟩⟩⟩)
        · skip
          refine s_aload_n C dX11_ending_59 rfl ?_
          refine s_aload_n C dX11_ending_60 rfl ?_
          refine s_getr (k := 11) (b := 74) C dX11_ending_61 fl_X11_32 (by decide) rfl (by decide) rfl ?_
          refine s_aload_n C dX11_ending_64 rfl ?_
          refine s_getr (k := 12) (b := 75) C dX11_ending_65 fl_X11_35 (by decide) rfl (by decide) rfl ?_
          refine s_aload_n C dX11_ending_68 rfl ?_
          refine s_geti (k := 13) (j := 13) C dX11_ending_69 fl_X11_183 (by decide) rfl (by decide) rfl (rfl) (fun r69 => ?_)
          refine s_callV3 C dX11_ending_72 cy_X11_put cv_X11_put lk_X11_168 (ct_X11_put E 74 75 (by decide) (by decide) (by decide) M3 (M3 66 13) (by have l1 : ln 75 = 10 := rfl; have l2 : ln 74 = 160 := rfl; omega) (by omega)) (by decide) (by decide) (by first | decide | (decide)) rfl (Nat.le_of_ble_eq_true rfl) (k_V (fun M72 q72 => ?_))
          subst q72
          refine s_aload_n C dX11_ending_75 rfl ?_
          refine s_dup C dX11_ending_76 rfl ?_
          refine s_geti (k := 13) (j := 13) (z := M3 66 13) C dX11_ending_77 fl_X11_183 (by decide) rfl (by decide) rfl (by rw [mput_ne (by decide), mcopy_ne (by decide)]) (fun r77 => ?_)
          refine s_iconst C dX11_ending_80 ?_
          refine s_iadd C dX11_ending_81 ?_
          refine s_puti (k := 13) (j := 13) C dX11_ending_82 fp_X11_183 (by decide) rfl rfl rfl (by omega) ?_
          refine s_goto (tgt := 114) C dX11_ending_85 (by decide) ?_
          refine s_aload_n C dX11_ending_114 rfl ?_
          refine s_iconst C dX11_ending_115 ?_
          refine s_putz (k := 32) (j := 32) C dX11_ending_116 fp_X11_176 (by decide) rfl rfl rfl (by decide) ?_
          refine s_aload_n C dX11_ending_119 rfl ?_
          refine s_geti (k := 13) (j := 13) C dX11_ending_120 fl_X11_183 (by decide) rfl (by decide) rfl (rfl) (fun r120 => ?_)
          exact s_ireturn C dX11_ending_123 (⟨_, rfl, ⟨M3, o1, Or.inr ⟨ho1, ho2, z33, hf, by
      first
        | exact Or.inl ⟨by omega, by rw [mput_nk (by decide), mput_ne (by decide), tAw_ne (by decide), mput_eq], rfl⟩
        | exact Or.inr (Or.inr ⟨by omega, by omega, by rw [mput_nk (by decide), mput_eq], rfl⟩)⟩⟩⟩)
      · skip
        refine s_bipush C dX11_ending_51 (by decide) ?_
        exact s_ireturn C dX11_ending_53 (⟨_, rfl, ⟨M3, o1, Or.inr ⟨ho1, ho2, z33, hf, Or.inr (Or.inl ⟨by omega, by omega, rfl, rfl⟩)⟩⟩⟩)
  · skip
    refine s_bipush C dX11_ending_9 (by decide) ?_
    exact s_ireturn C dX11_ending_11 (⟨_, rfl, ⟨M3, o1, Or.inl ⟨by rcases o2 with ⟨_, g⟩ | ⟨g, _⟩; exact g; omega, rfl, rfl⟩⟩⟩)

set_option maxRecDepth 20000 in
set_option maxHeartbeats 4000000 in
theorem ct_X11_sign (E : Ev) (M : Mm) (hs : 0 ≤ M 66 1 ∧ M 66 1 ≤ 3000) (hw : tR M 10 72 30) (kind : Int) (hk : rg kind) : Ct E yX11_sign cX11_sign 3 (some .int) 2 [zr E 66, zi kind] M (pI (fun z M' => rsg M M' kind z)) := by
  refine Ct.of (own := RX11) (lv0 := [some (zr E 66), some (zi kind), none]) (by decide) rfl (Nat.le_of_ble_eq_true rfl) rfl (fun κ C => ?_)
  refine s_aload_n C dX11_sign_0 rfl ?_
  refine s_bipush C dX11_sign_1 (by decide) ?_
  refine s_callV1 C dX11_sign_3 cy_X11_takeWord cv_X11_takeWord lk_X11_158 (ct_X11_takeWord E M 16 (by omega) hs) (by decide) (by decide) (by first | decide | (decide)) rfl (Nat.le_of_ble_eq_true rfl) (k_I (fun z3 M3 q3 => ?_))
  obtain ⟨o1, o2⟩ := q3
  obtain ⟨o11, o12, o13⟩ := o1
  have ec : M3 66 10 = M 66 10 := o13 10 (by decide) (by decide)
  have ew : M3 72 = M 72 := o11 72 (by decide)
  have hc := hw.1
  have o1 : mTk M M3 := ⟨o11, o12, o13⟩
  refine s_if_eq (tgt := 18) C dX11_sign_6 (by decide) (by rcases o2 with ⟨g, _⟩ | ⟨g, _⟩ <;> omega) (fun c6 => ?_) (fun c6 => ?_)
  · skip
    refine s_bipush C dX11_sign_18 (by decide) ?_
    exact s_ireturn C dX11_sign_20 (⟨_, rfl, ⟨M3, o1, Or.inl ⟨by first | (intro q; rcases o2 with ⟨_, g⟩ | ⟨g, _⟩; exact g q.1; omega) | (intro q; have := q.2; omega), rfl, rfl⟩⟩⟩)
  · skip
    refine s_iload_n C dX11_sign_9 rfl ?_
    refine s_iconst C dX11_sign_10 ?_
    refine s_iconst C dX11_sign_11 ?_
    refine s_callS3 C dX11_sign_12 cy_X11_in cs_X11_in lk_X11_139 (ct_X11_in E M3 kind 0 4 hk (by decide) (by decide)) (by decide) (Nat.le_of_ble_eq_true rfl) (k_P (fun z12 q12 => ?_))
    have k12 : (z12 = 1 ∧ 0 ≤ kind ∧ kind ≤ 4) ∨ (z12 = 0 ∧ ¬ (0 ≤ kind ∧ kind ≤ 4)) := q12
    clear q12
    refine s_if_ne (tgt := 21) C dX11_sign_15 (by decide) (by omega) (fun c15 => ?_) (fun c15 => ?_)
    · skip
      have ho : mWd M 16 ∧ rHeld M M3 := by
        rcases o2 with ⟨g, _⟩ | ⟨_, g1, g2, g3⟩
        · exact absurd g c6
        · exact ⟨g1, g2, g3⟩
      obtain ⟨ho1, ho2⟩ := ho
      clear o2
      have hh : 0 ≤ M3 66 3 ∧ M3 66 3 ≤ 16 := by rw [ho2.1]; have := ho1.1; have := ho1.2.1; omega
      refine s_aload_n C dX11_sign_21 rfl ?_
      refine s_getr (k := 7) (b := 71) C dX11_sign_22 fl_X11_23 (by decide) rfl (by decide) rfl ?_
      refine s_aload_n C dX11_sign_25 rfl ?_
      refine s_getr (k := 8) (b := 72) C dX11_sign_26 fl_X11_26 (by decide) rfl (by decide) rfl ?_
      refine s_aload_n C dX11_sign_29 rfl ?_
      refine s_geti (k := 10) (j := 10) C dX11_sign_30 fl_X11_180 (by decide) rfl (by decide) rfl (rfl) (fun r30 => ?_)
      refine s_aload_n C dX11_sign_33 rfl ?_
      refine s_getr (k := 2) (b := 68) C dX11_sign_34 fl_X11_13 (by decide) rfl (by decide) rfl ?_
      refine s_iconst C dX11_sign_37 ?_
      refine s_aload_n C dX11_sign_38 rfl ?_
      refine s_geti (k := 3) (j := 3) C dX11_sign_39 fl_X11_151 (by decide) rfl (by decide) rfl (rfl) (fun r39 => ?_)
      refine s_callS6 C dX11_sign_42 cy_X11_find cs_X11_find lk_X11_164 (ct_X11_find E 72 (by decide) 71 68 (by decide) (by decide) (by decide) (by decide) M3 (M3 66 10) 0 (M3 66 3) (by have l1 : ln 72 = 30 := rfl; have l2 : ln 71 = 480 := rfl; omega) (fun q a b => by rw [ew]; exact hw.2 q a (by omega)) (by omega) (by have l2 : ln 68 = 16 := rfl; omega)) (by decide) (Nat.le_of_ble_eq_true rfl) (k_P (fun z42 q42 => ?_))
      have hf : rFind M3 71 72 10 z42 := q42
      clear q42
      have hfr := rFind_rg hf
      refine s_istore_n (lv' := [_, _, _]) C dX11_sign_45 (by decide) rfl rfl ?_
      refine s_iload_n C dX11_sign_46 rfl ?_
      refine s_if_ne (tgt := 104) C dX11_sign_47 (by decide) (by omega) (fun c47 => ?_) (fun c47 => ?_)
      · skip
        refine s_iload_n C dX11_sign_104 rfl ?_
        refine s_iconst C dX11_sign_105 ?_
        refine s_icmp_ne (tgt := 121) C dX11_sign_106 (by decide) (by omega) (by omega) (fun c106 => ?_) (fun c106 => ?_)
        · skip
          refine s_iload_n C dX11_sign_121 rfl ?_
          refine s_iconst C dX11_sign_122 ?_
          refine s_icmp_ne (tgt := 154) C dX11_sign_123 (by decide) (by omega) (by omega) (fun c123 => ?_) (fun c123 => ?_)
          · skip
            refine s_aload_n C dX11_sign_154 rfl ?_
            refine s_getr (k := 9) (b := 73) C dX11_sign_155 fl_X11_29 (by decide) rfl (by decide) rfl ?_
            refine s_iload_n C dX11_sign_158 rfl ?_
            refine s_iload_n C dX11_sign_159 rfl ?_
            refine s_iastore (n := 30) C dX11_sign_160 (by decide) rfl rfl (by omega) (by omega) (by omega) (by omega) ?_
            refine s_aload_n C dX11_sign_161 rfl ?_
            refine s_iconst C dX11_sign_162 ?_
            refine s_putz (k := 32) (j := 32) C dX11_sign_163 fp_X11_176 (by decide) rfl rfl rfl (by decide) ?_
            refine s_aload_n C dX11_sign_166 rfl ?_
            refine s_geti (k := 10) (j := 10) C dX11_sign_167 fl_X11_180 (by decide) rfl (by decide) rfl (rfl) (fun r167 => ?_)
            exact s_ireturn C dX11_sign_170 (⟨_, rfl, ⟨M3, o1, Or.inr ⟨ho1, by omega, ho2, z42, hf, by
      first
        | exact Or.inl ⟨c47, by omega, by rw [mput_nk (by decide), mput_ne (by decide), mput_ne (by decide), tAw_ne (by decide), mput_eq], rfl⟩
        | exact Or.inr (Or.inr (Or.inl ⟨c47, by omega, by rw [mput_nk (by decide), mput_ne (by decide)], rfl⟩))
        | exact Or.inr (Or.inr (Or.inr (Or.inr ⟨c47, by omega, by omega, by rw [mput_nk (by decide), mput_ne (by decide), mput_eq], rfl⟩)))⟩⟩⟩)
          · skip
            refine s_aload_n C dX11_sign_126 rfl ?_
            refine s_geti (k := 10) (j := 10) C dX11_sign_127 fl_X11_180 (by decide) rfl (by decide) rfl (rfl) (fun r127 => ?_)
            refine s_istore_n (lv' := [_, _, _]) C dX11_sign_130 (by decide) rfl rfl ?_
            refine s_aload_n C dX11_sign_131 rfl ?_
            refine s_aload_n C dX11_sign_132 rfl ?_
            refine s_getr (k := 7) (b := 71) C dX11_sign_133 fl_X11_23 (by decide) rfl (by decide) rfl ?_
            refine s_aload_n C dX11_sign_136 rfl ?_
            refine s_getr (k := 8) (b := 72) C dX11_sign_137 fl_X11_26 (by decide) rfl (by decide) rfl ?_
            refine s_iload_n C dX11_sign_140 rfl ?_
            refine s_callV3 C dX11_sign_141 cy_X11_put cv_X11_put lk_X11_168 (ct_X11_put E 71 72 (by decide) (by decide) (by decide) M3 (M3 66 10) (by have l1 : ln 72 = 30 := rfl; have l2 : ln 71 = 480 := rfl; omega) (by omega)) (by decide) (by decide) (by first | decide | (decide)) rfl (Nat.le_of_ble_eq_true rfl) (k_V (fun M141 q141 => ?_))
            subst q141
            refine s_aload_n C dX11_sign_144 rfl ?_
            refine s_dup C dX11_sign_145 rfl ?_
            refine s_geti (k := 10) (j := 10) (z := M3 66 10) C dX11_sign_146 fl_X11_180 (by decide) rfl (by decide) rfl (by rw [mput_ne (by decide), mcopy_ne (by decide)]) (fun r146 => ?_)
            refine s_iconst C dX11_sign_149 ?_
            refine s_iadd C dX11_sign_150 ?_
            refine s_puti (k := 10) (j := 10) C dX11_sign_151 fp_X11_180 (by decide) rfl rfl rfl (by omega) ?_
            refine s_aload_n C dX11_sign_154 rfl ?_
            refine s_getr (k := 9) (b := 73) C dX11_sign_155 fl_X11_29 (by decide) rfl (by decide) rfl ?_
            refine s_iload_n C dX11_sign_158 rfl ?_
            refine s_iload_n C dX11_sign_159 rfl ?_
            refine s_iastore (n := 30) C dX11_sign_160 (by decide) rfl rfl (by omega) (by omega) (by omega) (by omega) ?_
            refine s_aload_n C dX11_sign_161 rfl ?_
            refine s_iconst C dX11_sign_162 ?_
            refine s_putz (k := 32) (j := 32) C dX11_sign_163 fp_X11_176 (by decide) rfl rfl rfl (by decide) ?_
            refine s_aload_n C dX11_sign_166 rfl ?_
            refine s_geti (k := 10) (j := 10) C dX11_sign_167 fl_X11_180 (by decide) rfl (by decide) rfl (rfl) (fun r167 => ?_)
            exact s_ireturn C dX11_sign_170 (⟨_, rfl, ⟨M3, o1, Or.inr ⟨ho1, by omega, ho2, z42, hf, by
      first
        | exact Or.inl ⟨c47, by omega, by rw [mput_nk (by decide), mput_ne (by decide), mput_ne (by decide), tAw_ne (by decide), mput_eq], rfl⟩
        | exact Or.inr (Or.inr (Or.inl ⟨c47, by omega, by rw [mput_nk (by decide), mput_ne (by decide)], rfl⟩))
        | exact Or.inr (Or.inr (Or.inr (Or.inr ⟨c47, by omega, by omega, by rw [mput_nk (by decide), mput_ne (by decide), mput_eq], rfl⟩)))⟩⟩⟩)
        · skip
          refine s_aload_n C dX11_sign_109 rfl ?_
          refine s_geti (k := 10) (j := 10) C dX11_sign_110 fl_X11_180 (by decide) rfl (by decide) rfl (rfl) (fun r110 => ?_)
          refine s_bipush C dX11_sign_113 (by decide) ?_
          refine s_icmp_ne (tgt := 121) C dX11_sign_115 (by decide) (by omega) (by omega) (fun c115 => ?_) (fun c115 => ?_)
          · skip
            refine s_iload_n C dX11_sign_121 rfl ?_
            refine s_iconst C dX11_sign_122 ?_
            refine s_icmp_ne (tgt := 154) C dX11_sign_123 (by decide) (by omega) (by omega) (fun c123 => ?_) (fun c123 => ?_)
            · skip
              refine s_aload_n C dX11_sign_154 rfl ?_
              refine s_getr (k := 9) (b := 73) C dX11_sign_155 fl_X11_29 (by decide) rfl (by decide) rfl ?_
              refine s_iload_n C dX11_sign_158 rfl ?_
              refine s_iload_n C dX11_sign_159 rfl ?_
              refine s_iastore (n := 30) C dX11_sign_160 (by decide) rfl rfl (by omega) (by omega) (by omega) (by omega) ?_
              refine s_aload_n C dX11_sign_161 rfl ?_
              refine s_iconst C dX11_sign_162 ?_
              refine s_putz (k := 32) (j := 32) C dX11_sign_163 fp_X11_176 (by decide) rfl rfl rfl (by decide) ?_
              refine s_aload_n C dX11_sign_166 rfl ?_
              refine s_geti (k := 10) (j := 10) C dX11_sign_167 fl_X11_180 (by decide) rfl (by decide) rfl (rfl) (fun r167 => ?_)
              exact s_ireturn C dX11_sign_170 (⟨_, rfl, ⟨M3, o1, Or.inr ⟨ho1, by omega, ho2, z42, hf, by
      first
        | exact Or.inl ⟨c47, by omega, by rw [mput_nk (by decide), mput_ne (by decide), mput_ne (by decide), tAw_ne (by decide), mput_eq], rfl⟩
        | exact Or.inr (Or.inr (Or.inl ⟨c47, by omega, by rw [mput_nk (by decide), mput_ne (by decide)], rfl⟩))
        | exact Or.inr (Or.inr (Or.inr (Or.inr ⟨c47, by omega, by omega, by rw [mput_nk (by decide), mput_ne (by decide), mput_eq], rfl⟩)))⟩⟩⟩)
            · skip
              refine s_aload_n C dX11_sign_126 rfl ?_
              refine s_geti (k := 10) (j := 10) C dX11_sign_127 fl_X11_180 (by decide) rfl (by decide) rfl (rfl) (fun r127 => ?_)
              refine s_istore_n (lv' := [_, _, _]) C dX11_sign_130 (by decide) rfl rfl ?_
              refine s_aload_n C dX11_sign_131 rfl ?_
              refine s_aload_n C dX11_sign_132 rfl ?_
              refine s_getr (k := 7) (b := 71) C dX11_sign_133 fl_X11_23 (by decide) rfl (by decide) rfl ?_
              refine s_aload_n C dX11_sign_136 rfl ?_
              refine s_getr (k := 8) (b := 72) C dX11_sign_137 fl_X11_26 (by decide) rfl (by decide) rfl ?_
              refine s_iload_n C dX11_sign_140 rfl ?_
              refine s_callV3 C dX11_sign_141 cy_X11_put cv_X11_put lk_X11_168 (ct_X11_put E 71 72 (by decide) (by decide) (by decide) M3 (M3 66 10) (by have l1 : ln 72 = 30 := rfl; have l2 : ln 71 = 480 := rfl; omega) (by omega)) (by decide) (by decide) (by first | decide | (decide)) rfl (Nat.le_of_ble_eq_true rfl) (k_V (fun M141 q141 => ?_))
              subst q141
              refine s_aload_n C dX11_sign_144 rfl ?_
              refine s_dup C dX11_sign_145 rfl ?_
              refine s_geti (k := 10) (j := 10) (z := M3 66 10) C dX11_sign_146 fl_X11_180 (by decide) rfl (by decide) rfl (by rw [mput_ne (by decide), mcopy_ne (by decide)]) (fun r146 => ?_)
              refine s_iconst C dX11_sign_149 ?_
              refine s_iadd C dX11_sign_150 ?_
              refine s_puti (k := 10) (j := 10) C dX11_sign_151 fp_X11_180 (by decide) rfl rfl rfl (by omega) ?_
              refine s_aload_n C dX11_sign_154 rfl ?_
              refine s_getr (k := 9) (b := 73) C dX11_sign_155 fl_X11_29 (by decide) rfl (by decide) rfl ?_
              refine s_iload_n C dX11_sign_158 rfl ?_
              refine s_iload_n C dX11_sign_159 rfl ?_
              refine s_iastore (n := 30) C dX11_sign_160 (by decide) rfl rfl (by omega) (by omega) (by omega) (by omega) ?_
              refine s_aload_n C dX11_sign_161 rfl ?_
              refine s_iconst C dX11_sign_162 ?_
              refine s_putz (k := 32) (j := 32) C dX11_sign_163 fp_X11_176 (by decide) rfl rfl rfl (by decide) ?_
              refine s_aload_n C dX11_sign_166 rfl ?_
              refine s_geti (k := 10) (j := 10) C dX11_sign_167 fl_X11_180 (by decide) rfl (by decide) rfl (rfl) (fun r167 => ?_)
              exact s_ireturn C dX11_sign_170 (⟨_, rfl, ⟨M3, o1, Or.inr ⟨ho1, by omega, ho2, z42, hf, by
      first
        | exact Or.inl ⟨c47, by omega, by rw [mput_nk (by decide), mput_ne (by decide), mput_ne (by decide), tAw_ne (by decide), mput_eq], rfl⟩
        | exact Or.inr (Or.inr (Or.inl ⟨c47, by omega, by rw [mput_nk (by decide), mput_ne (by decide)], rfl⟩))
        | exact Or.inr (Or.inr (Or.inr (Or.inr ⟨c47, by omega, by omega, by rw [mput_nk (by decide), mput_ne (by decide), mput_eq], rfl⟩)))⟩⟩⟩)
          · skip
            refine s_bipush C dX11_sign_118 (by decide) ?_
            exact s_ireturn C dX11_sign_120 (⟨_, rfl, ⟨M3, o1, Or.inr ⟨ho1, by omega, ho2, z42, hf, Or.inr (Or.inr (Or.inr (Or.inl ⟨c47, by omega, by omega, rfl, rfl⟩)))⟩⟩⟩)
      · skip
        refine s_iload_n C dX11_sign_50 rfl ?_
        refine s_iconst C dX11_sign_51 ?_
        refine s_icmp_ne (tgt := 60) C dX11_sign_52 (by decide) (by omega) (by omega) (fun c52 => ?_) (fun c52 => ?_)
        · skip
          refine s_aload_n C dX11_sign_60 rfl ?_
          refine s_dup C dX11_sign_61 rfl ?_
          refine s_geti (k := 10) (j := 10) (z := M3 66 10) C dX11_sign_62 fl_X11_180 (by decide) rfl (by decide) rfl (rfl) (fun r62 => ?_)
          refine s_iconst C dX11_sign_65 ?_
          refine s_isub C dX11_sign_66 ?_
          refine s_puti (k := 10) (j := 10) C dX11_sign_67 fp_X11_180 (by decide) rfl rfl rfl (by omega) ?_
          refine s_aload_n C dX11_sign_70 rfl ?_
          refine s_getr (k := 7) (b := 71) C dX11_sign_71 fl_X11_23 (by decide) rfl (by decide) rfl ?_
          refine s_aload_n C dX11_sign_74 rfl ?_
          refine s_getr (k := 8) (b := 72) C dX11_sign_75 fl_X11_26 (by decide) rfl (by decide) rfl ?_
          refine s_iload_n C dX11_sign_78 rfl ?_
          refine s_aload_n C dX11_sign_79 rfl ?_
          refine s_geti (k := 10) (j := 10) (z := M3 66 10 - 1) C dX11_sign_80 fl_X11_180 (by decide) rfl (by decide) rfl (by rw [mput_eq]) (fun r80 => ?_)
          refine s_callS4 C dX11_sign_83 cy_X11_takeAway cs_X11_takeAway lk_X11_172 (ct_X11_takeAway E 71 72 (by decide) (by decide) (by decide) (mput M3 66 10 (M3 66 10 - 1)) z42 (M3 66 10 - 1) (by omega) (by have l1 : ln 72 = 30 := rfl; have l2 : ln 71 = 480 := rfl; omega)) (by decide) (Nat.le_of_ble_eq_true rfl) (k_V (fun M83 q83 => ?_))
          rw [mput_ne (by decide : 72 ≠ 66)] at q83
          subst q83
          refine s_aload_n C dX11_sign_86 rfl ?_
          refine s_getr (k := 9) (b := 73) C dX11_sign_87 fl_X11_29 (by decide) rfl (by decide) rfl ?_
          refine s_iload_n C dX11_sign_90 rfl ?_
          refine s_aload_n C dX11_sign_91 rfl ?_
          refine s_getr (k := 9) (b := 73) C dX11_sign_92 fl_X11_29 (by decide) rfl (by decide) rfl ?_
          refine s_aload_n C dX11_sign_95 rfl ?_
          refine s_geti (k := 10) (j := 10) (z := M3 66 10 - 1) C dX11_sign_96 fl_X11_180 (by decide) rfl (by decide) rfl (by rw [mput_ne (by decide), tAw_ne (by decide), mput_eq]) (fun r96 => ?_)
          refine s_iaload (n := 30) (z := M3 73 (M3 66 10 - 1)) C dX11_sign_99 (by decide) rfl rfl (by omega) (by omega) (by omega) (by rw [mput_ne (by decide), tAw_ne (by decide), mput_ne (by decide)]) (fun r99 => ?_)
          refine s_iastore (n := 30) C dX11_sign_100 (by decide) rfl rfl (by omega) (by omega) (by omega) (by omega) ?_
          refine s_goto (tgt := 161) C dX11_sign_101 (by decide) ?_
          refine s_aload_n C dX11_sign_161 rfl ?_
          refine s_iconst C dX11_sign_162 ?_
          refine s_putz (k := 32) (j := 32) C dX11_sign_163 fp_X11_176 (by decide) rfl rfl rfl (by decide) ?_
          refine s_aload_n C dX11_sign_166 rfl ?_
          refine s_geti (k := 10) (j := 10) C dX11_sign_167 fl_X11_180 (by decide) rfl (by decide) rfl (rfl) (fun r167 => ?_)
          exact s_ireturn C dX11_sign_170 (⟨_, rfl, ⟨M3, o1, Or.inr ⟨ho1, by omega, ho2, z42, hf, by
      first
        | exact Or.inl ⟨c47, by omega, by rw [mput_nk (by decide), mput_ne (by decide), mput_ne (by decide), tAw_ne (by decide), mput_eq], rfl⟩
        | exact Or.inr (Or.inr (Or.inl ⟨c47, by omega, by rw [mput_nk (by decide), mput_ne (by decide)], rfl⟩))
        | exact Or.inr (Or.inr (Or.inr (Or.inr ⟨c47, by omega, by omega, by rw [mput_nk (by decide), mput_ne (by decide), mput_eq], rfl⟩)))⟩⟩⟩)
        · skip
          refine s_aload_n C dX11_sign_55 rfl ?_
          refine s_geti (k := 10) (j := 10) C dX11_sign_56 fl_X11_180 (by decide) rfl (by decide) rfl (rfl) (fun r56 => ?_)
          exact s_ireturn C dX11_sign_59 (⟨_, rfl, ⟨M3, o1, Or.inr ⟨ho1, by omega, ho2, z42, hf, Or.inr (Or.inl ⟨c47, by omega, rfl, rfl⟩)⟩⟩⟩)
    · skip
      refine s_bipush C dX11_sign_18 (by decide) ?_
      exact s_ireturn C dX11_sign_20 (⟨_, rfl, ⟨M3, o1, Or.inl ⟨by first | (intro q; rcases o2 with ⟨_, g⟩ | ⟨g, _⟩; exact g q.1; omega) | (intro q; have := q.2; omega), rfl, rfl⟩⟩⟩)
