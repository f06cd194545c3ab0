/-- words in the reference's rows: x from i on is y from p on, n bytes -/
def lk (M : Mm) (x : Nat) (i : Int) (y : Nat) (p n : Int) : Prop := ∀ k, 0 ≤ k → k < n → M x (i + k) = M y (p + k)
abbrev ofM (c : Int) : Prop := (65 ≤ c ∧ c ≤ 90) ∨ (97 ≤ c ∧ c ≤ 122) ∨ (48 ≤ c ∧ c ≤ 57) ∨ c = 39

set_option maxRecDepth 20000 in
set_option maxHeartbeats 4000000 in
theorem ct_X11_in (E : Ev) (M : Mm) (v a b : Int) (hv : rg v) (ha : rg a) (hb : rg b) : Ct E yX11_in cX11_in 3 (some .boolean) 0 [zi v, zi a, zi b] M (pP M (fun z => Bz z (a ≤ v ∧ v ≤ b))) := by
  refine Ct.of (own := RX11) (lv0 := [some (zi v), some (zi a), some (zi b)]) (by decide) rfl (Nat.le_of_ble_eq_true rfl) rfl (fun κ C => ?_)
  refine s_iload_n C dX11_in_0 rfl ?_
  refine s_iload_n C dX11_in_1 rfl ?_
  refine s_icmp_lt (tgt := 14) C dX11_in_2 (by decide) (by omega) (by omega) (fun c2 => ?_) (fun c2 => ?_)
  · skip
    refine s_iconst C dX11_in_14 ?_
    exact s_zreturn C dX11_in_15 (by decide) (⟨_, rfl, rfl, by first | exact Bz.t (by omega) | exact Bz.f (by omega)⟩)
  · skip
    refine s_iload_n C dX11_in_5 rfl ?_
    refine s_iload_n C dX11_in_6 rfl ?_
    refine s_icmp_gt (tgt := 14) C dX11_in_7 (by decide) (by omega) (by omega) (fun c7 => ?_) (fun c7 => ?_)
    · skip
      refine s_iconst C dX11_in_14 ?_
      exact s_zreturn C dX11_in_15 (by decide) (⟨_, rfl, rfl, by first | exact Bz.t (by omega) | exact Bz.f (by omega)⟩)
    · skip
      refine s_iconst C dX11_in_10 ?_
      refine s_goto (tgt := 15) C dX11_in_11 (by decide) ?_
      exact s_zreturn C dX11_in_15 (by decide) (⟨_, rfl, rfl, by first | exact Bz.t (by omega) | exact Bz.f (by omega)⟩)

set_option maxRecDepth 20000 in
set_option maxHeartbeats 4000000 in
theorem ct_X11_isOfWord (E : Ev) (M : Mm) (c : Int) (hc : rg c) : Ct E yX11_isOfWord cX11_isOfWord 1 (some .boolean) 0 [zi c] M (pP M (fun z => Bz z (ofM c))) := by
  refine Ct.of (own := RX11) (lv0 := [some (zi c)]) (by decide) rfl (Nat.le_of_ble_eq_true rfl) rfl (fun κ C => ?_)
  refine s_iload_n C dX11_isOfWord_0 rfl ?_
  refine s_bipush C dX11_isOfWord_1 (by decide) ?_
  refine s_icmp_lt (tgt := 12) C dX11_isOfWord_3 (by decide) (by omega) (by omega) (fun c3 => ?_) (fun c3 => ?_)
  · skip
    refine s_iload_n C dX11_isOfWord_12 rfl ?_
    refine s_bipush C dX11_isOfWord_13 (by decide) ?_
    refine s_icmp_lt (tgt := 24) C dX11_isOfWord_15 (by decide) (by omega) (by omega) (fun c15 => ?_) (fun c15 => ?_)
    · skip
      refine s_iload_n C dX11_isOfWord_24 rfl ?_
      refine s_bipush C dX11_isOfWord_25 (by decide) ?_
      refine s_icmp_lt (tgt := 36) C dX11_isOfWord_27 (by decide) (by omega) (by omega) (fun c27 => ?_) (fun c27 => ?_)
      · skip
        refine s_iload_n C dX11_isOfWord_36 rfl ?_
        refine s_bipush C dX11_isOfWord_37 (by decide) ?_
        refine s_icmp_ne (tgt := 46) C dX11_isOfWord_39 (by decide) (by omega) (by omega) (fun c39 => ?_) (fun c39 => ?_)
        · skip
          refine s_iconst C dX11_isOfWord_46 ?_
          exact s_zreturn C dX11_isOfWord_47 (by decide) (⟨_, rfl, rfl, by first | exact Bz.t (by omega) | exact Bz.f (by omega)⟩)
        · skip
          refine s_iconst C dX11_isOfWord_42 ?_
          refine s_goto (tgt := 47) C dX11_isOfWord_43 (by decide) ?_
          exact s_zreturn C dX11_isOfWord_47 (by decide) (⟨_, rfl, rfl, by first | exact Bz.t (by omega) | exact Bz.f (by omega)⟩)
      · skip
        refine s_iload_n C dX11_isOfWord_30 rfl ?_
        refine s_bipush C dX11_isOfWord_31 (by decide) ?_
        refine s_icmp_le (tgt := 42) C dX11_isOfWord_33 (by decide) (by omega) (by omega) (fun c33 => ?_) (fun c33 => ?_)
        · skip
          refine s_iconst C dX11_isOfWord_42 ?_
          refine s_goto (tgt := 47) C dX11_isOfWord_43 (by decide) ?_
          exact s_zreturn C dX11_isOfWord_47 (by decide) (⟨_, rfl, rfl, by first | exact Bz.t (by omega) | exact Bz.f (by omega)⟩)
        · skip
          refine s_iload_n C dX11_isOfWord_36 rfl ?_
          refine s_bipush C dX11_isOfWord_37 (by decide) ?_
          refine s_icmp_ne (tgt := 46) C dX11_isOfWord_39 (by decide) (by omega) (by omega) (fun c39 => ?_) (fun c39 => ?_)
          · skip
            refine s_iconst C dX11_isOfWord_46 ?_
            exact s_zreturn C dX11_isOfWord_47 (by decide) (⟨_, rfl, rfl, by first | exact Bz.t (by omega) | exact Bz.f (by omega)⟩)
          · skip
            refine s_iconst C dX11_isOfWord_42 ?_
            refine s_goto (tgt := 47) C dX11_isOfWord_43 (by decide) ?_
            exact s_zreturn C dX11_isOfWord_47 (by decide) (⟨_, rfl, rfl, by first | exact Bz.t (by omega) | exact Bz.f (by omega)⟩)
    · skip
      refine s_iload_n C dX11_isOfWord_18 rfl ?_
      refine s_bipush C dX11_isOfWord_19 (by decide) ?_
      refine s_icmp_le (tgt := 42) C dX11_isOfWord_21 (by decide) (by omega) (by omega) (fun c21 => ?_) (fun c21 => ?_)
      · skip
        refine s_iconst C dX11_isOfWord_42 ?_
        refine s_goto (tgt := 47) C dX11_isOfWord_43 (by decide) ?_
        exact s_zreturn C dX11_isOfWord_47 (by decide) (⟨_, rfl, rfl, by first | exact Bz.t (by omega) | exact Bz.f (by omega)⟩)
      · skip
        refine s_iload_n C dX11_isOfWord_24 rfl ?_
        refine s_bipush C dX11_isOfWord_25 (by decide) ?_
        refine s_icmp_lt (tgt := 36) C dX11_isOfWord_27 (by decide) (by omega) (by omega) (fun c27 => ?_) (fun c27 => ?_)
        · skip
          refine s_iload_n C dX11_isOfWord_36 rfl ?_
          refine s_bipush C dX11_isOfWord_37 (by decide) ?_
          refine s_icmp_ne (tgt := 46) C dX11_isOfWord_39 (by decide) (by omega) (by omega) (fun c39 => ?_) (fun c39 => ?_)
          · skip
            refine s_iconst C dX11_isOfWord_46 ?_
            exact s_zreturn C dX11_isOfWord_47 (by decide) (⟨_, rfl, rfl, by first | exact Bz.t (by omega) | exact Bz.f (by omega)⟩)
          · skip
            refine s_iconst C dX11_isOfWord_42 ?_
            refine s_goto (tgt := 47) C dX11_isOfWord_43 (by decide) ?_
            exact s_zreturn C dX11_isOfWord_47 (by decide) (⟨_, rfl, rfl, by first | exact Bz.t (by omega) | exact Bz.f (by omega)⟩)
        · skip
          refine s_iload_n C dX11_isOfWord_30 rfl ?_
          refine s_bipush C dX11_isOfWord_31 (by decide) ?_
          refine s_icmp_le (tgt := 42) C dX11_isOfWord_33 (by decide) (by omega) (by omega) (fun c33 => ?_) (fun c33 => ?_)
          · skip
            refine s_iconst C dX11_isOfWord_42 ?_
            refine s_goto (tgt := 47) C dX11_isOfWord_43 (by decide) ?_
            exact s_zreturn C dX11_isOfWord_47 (by decide) (⟨_, rfl, rfl, by first | exact Bz.t (by omega) | exact Bz.f (by omega)⟩)
          · skip
            refine s_iload_n C dX11_isOfWord_36 rfl ?_
            refine s_bipush C dX11_isOfWord_37 (by decide) ?_
            refine s_icmp_ne (tgt := 46) C dX11_isOfWord_39 (by decide) (by omega) (by omega) (fun c39 => ?_) (fun c39 => ?_)
            · skip
              refine s_iconst C dX11_isOfWord_46 ?_
              exact s_zreturn C dX11_isOfWord_47 (by decide) (⟨_, rfl, rfl, by first | exact Bz.t (by omega) | exact Bz.f (by omega)⟩)
            · skip
              refine s_iconst C dX11_isOfWord_42 ?_
              refine s_goto (tgt := 47) C dX11_isOfWord_43 (by decide) ?_
              exact s_zreturn C dX11_isOfWord_47 (by decide) (⟨_, rfl, rfl, by first | exact Bz.t (by omega) | exact Bz.f (by omega)⟩)
  · skip
    refine s_iload_n C dX11_isOfWord_6 rfl ?_
    refine s_bipush C dX11_isOfWord_7 (by decide) ?_
    refine s_icmp_le (tgt := 42) C dX11_isOfWord_9 (by decide) (by omega) (by omega) (fun c9 => ?_) (fun c9 => ?_)
    · skip
      refine s_iconst C dX11_isOfWord_42 ?_
      refine s_goto (tgt := 47) C dX11_isOfWord_43 (by decide) ?_
      exact s_zreturn C dX11_isOfWord_47 (by decide) (⟨_, rfl, rfl, by first | exact Bz.t (by omega) | exact Bz.f (by omega)⟩)
    · skip
      refine s_iload_n C dX11_isOfWord_12 rfl ?_
      refine s_bipush C dX11_isOfWord_13 (by decide) ?_
      refine s_icmp_lt (tgt := 24) C dX11_isOfWord_15 (by decide) (by omega) (by omega) (fun c15 => ?_) (fun c15 => ?_)
      · skip
        refine s_iload_n C dX11_isOfWord_24 rfl ?_
        refine s_bipush C dX11_isOfWord_25 (by decide) ?_
        refine s_icmp_lt (tgt := 36) C dX11_isOfWord_27 (by decide) (by omega) (by omega) (fun c27 => ?_) (fun c27 => ?_)
        · skip
          refine s_iload_n C dX11_isOfWord_36 rfl ?_
          refine s_bipush C dX11_isOfWord_37 (by decide) ?_
          refine s_icmp_ne (tgt := 46) C dX11_isOfWord_39 (by decide) (by omega) (by omega) (fun c39 => ?_) (fun c39 => ?_)
          · skip
            refine s_iconst C dX11_isOfWord_46 ?_
            exact s_zreturn C dX11_isOfWord_47 (by decide) (⟨_, rfl, rfl, by first | exact Bz.t (by omega) | exact Bz.f (by omega)⟩)
          · skip
            refine s_iconst C dX11_isOfWord_42 ?_
            refine s_goto (tgt := 47) C dX11_isOfWord_43 (by decide) ?_
            exact s_zreturn C dX11_isOfWord_47 (by decide) (⟨_, rfl, rfl, by first | exact Bz.t (by omega) | exact Bz.f (by omega)⟩)
        · skip
          refine s_iload_n C dX11_isOfWord_30 rfl ?_
          refine s_bipush C dX11_isOfWord_31 (by decide) ?_
          refine s_icmp_le (tgt := 42) C dX11_isOfWord_33 (by decide) (by omega) (by omega) (fun c33 => ?_) (fun c33 => ?_)
          · skip
            refine s_iconst C dX11_isOfWord_42 ?_
            refine s_goto (tgt := 47) C dX11_isOfWord_43 (by decide) ?_
            exact s_zreturn C dX11_isOfWord_47 (by decide) (⟨_, rfl, rfl, by first | exact Bz.t (by omega) | exact Bz.f (by omega)⟩)
          · skip
            refine s_iload_n C dX11_isOfWord_36 rfl ?_
            refine s_bipush C dX11_isOfWord_37 (by decide) ?_
            refine s_icmp_ne (tgt := 46) C dX11_isOfWord_39 (by decide) (by omega) (by omega) (fun c39 => ?_) (fun c39 => ?_)
            · skip
              refine s_iconst C dX11_isOfWord_46 ?_
              exact s_zreturn C dX11_isOfWord_47 (by decide) (⟨_, rfl, rfl, by first | exact Bz.t (by omega) | exact Bz.f (by omega)⟩)
            · skip
              refine s_iconst C dX11_isOfWord_42 ?_
              refine s_goto (tgt := 47) C dX11_isOfWord_43 (by decide) ?_
              exact s_zreturn C dX11_isOfWord_47 (by decide) (⟨_, rfl, rfl, by first | exact Bz.t (by omega) | exact Bz.f (by omega)⟩)
      · skip
        refine s_iload_n C dX11_isOfWord_18 rfl ?_
        refine s_bipush C dX11_isOfWord_19 (by decide) ?_
        refine s_icmp_le (tgt := 42) C dX11_isOfWord_21 (by decide) (by omega) (by omega) (fun c21 => ?_) (fun c21 => ?_)
        · skip
          refine s_iconst C dX11_isOfWord_42 ?_
          refine s_goto (tgt := 47) C dX11_isOfWord_43 (by decide) ?_
          exact s_zreturn C dX11_isOfWord_47 (by decide) (⟨_, rfl, rfl, by first | exact Bz.t (by omega) | exact Bz.f (by omega)⟩)
        · skip
          refine s_iload_n C dX11_isOfWord_24 rfl ?_
          refine s_bipush C dX11_isOfWord_25 (by decide) ?_
          refine s_icmp_lt (tgt := 36) C dX11_isOfWord_27 (by decide) (by omega) (by omega) (fun c27 => ?_) (fun c27 => ?_)
          · skip
            refine s_iload_n C dX11_isOfWord_36 rfl ?_
            refine s_bipush C dX11_isOfWord_37 (by decide) ?_
            refine s_icmp_ne (tgt := 46) C dX11_isOfWord_39 (by decide) (by omega) (by omega) (fun c39 => ?_) (fun c39 => ?_)
            · skip
              refine s_iconst C dX11_isOfWord_46 ?_
              exact s_zreturn C dX11_isOfWord_47 (by decide) (⟨_, rfl, rfl, by first | exact Bz.t (by omega) | exact Bz.f (by omega)⟩)
            · skip
              refine s_iconst C dX11_isOfWord_42 ?_
              refine s_goto (tgt := 47) C dX11_isOfWord_43 (by decide) ?_
              exact s_zreturn C dX11_isOfWord_47 (by decide) (⟨_, rfl, rfl, by first | exact Bz.t (by omega) | exact Bz.f (by omega)⟩)
          · skip
            refine s_iload_n C dX11_isOfWord_30 rfl ?_
            refine s_bipush C dX11_isOfWord_31 (by decide) ?_
            refine s_icmp_le (tgt := 42) C dX11_isOfWord_33 (by decide) (by omega) (by omega) (fun c33 => ?_) (fun c33 => ?_)
            · skip
              refine s_iconst C dX11_isOfWord_42 ?_
              refine s_goto (tgt := 47) C dX11_isOfWord_43 (by decide) ?_
              exact s_zreturn C dX11_isOfWord_47 (by decide) (⟨_, rfl, rfl, by first | exact Bz.t (by omega) | exact Bz.f (by omega)⟩)
            · skip
              refine s_iload_n C dX11_isOfWord_36 rfl ?_
              refine s_bipush C dX11_isOfWord_37 (by decide) ?_
              refine s_icmp_ne (tgt := 46) C dX11_isOfWord_39 (by decide) (by omega) (by omega) (fun c39 => ?_) (fun c39 => ?_)
              · skip
                refine s_iconst C dX11_isOfWord_46 ?_
                exact s_zreturn C dX11_isOfWord_47 (by decide) (⟨_, rfl, rfl, by first | exact Bz.t (by omega) | exact Bz.f (by omega)⟩)
              · skip
                refine s_iconst C dX11_isOfWord_42 ?_
                refine s_goto (tgt := 47) C dX11_isOfWord_43 (by decide) ?_
                exact s_zreturn C dX11_isOfWord_47 (by decide) (⟨_, rfl, rfl, by first | exact Bz.t (by omega) | exact Bz.f (by omega)⟩)

set_option maxRecDepth 20000 in
set_option maxHeartbeats 4000000 in
theorem ct_X11_small (E : Ev) (M : Mm) (x : Int) (hx : rg x) : Ct E yX11_small cX11_small 1 (some .int) 0 [zi x] M (pP M (fun z => z = low x)) := by
  refine Ct.of (own := RX11) (lv0 := [some (zi x)]) (by decide) rfl (Nat.le_of_ble_eq_true rfl) rfl (fun κ C => ?_)
  refine s_iload_n C dX11_small_0 rfl ?_
  refine s_bipush C dX11_small_1 (by decide) ?_
  refine s_icmp_lt (tgt := 19) C dX11_small_3 (by decide) (by omega) (by omega) (fun c3 => ?_) (fun c3 => ?_)
  · skip
    refine s_iload_n C dX11_small_19 rfl ?_
    exact s_ireturn C dX11_small_20 (⟨_, rfl, rfl, by unfold low; first | (rw [if_pos (by omega)]; done) | (rw [if_neg (by omega)]; done)⟩)
  · skip
    refine s_iload_n C dX11_small_6 rfl ?_
    refine s_bipush C dX11_small_7 (by decide) ?_
    refine s_icmp_gt (tgt := 19) C dX11_small_9 (by decide) (by omega) (by omega) (fun c9 => ?_) (fun c9 => ?_)
    · skip
      refine s_iload_n C dX11_small_19 rfl ?_
      exact s_ireturn C dX11_small_20 (⟨_, rfl, rfl, by unfold low; first | (rw [if_pos (by omega)]; done) | (rw [if_neg (by omega)]; done)⟩)
    · skip
      refine s_iload_n C dX11_small_12 rfl ?_
      refine s_bipush C dX11_small_13 (by decide) ?_
      refine s_iadd C dX11_small_15 ?_
      refine s_goto (tgt := 20) C dX11_small_16 (by decide) ?_
      exact s_ireturn C dX11_small_20 (⟨_, rfl, rfl, by unfold low; first | (rw [if_pos (by omega)]; done) | (rw [if_neg (by omega)]; done)⟩)

set_option maxRecDepth 20000 in
set_option maxHeartbeats 4000000 in
theorem ct_X11_end (E : Ev) (M : Mm) (n : Int) (hn : rg n) : Ct E yX11_end cX11_end 2 (some .int) 0 [zr E 66, zi n] M (pI (fun z M' => ((n < 0 ∨ M 66 1 < n) ∧ z = -1 ∧ M' = M) ∨ (0 ≤ n ∧ n ≤ M 66 1 ∧ z = n ∧ M' = mput M 66 1 n))) := by
  refine Ct.of (own := RX11) (lv0 := [some (zr E 66), some (zi n)]) (by decide) rfl (Nat.le_of_ble_eq_true rfl) rfl (fun κ C => ?_)
  refine s_iload_n C dX11_end_0 rfl ?_
  refine s_if_lt (tgt := 12) C dX11_end_1 (by decide) (by omega) (fun c1 => ?_) (fun c1 => ?_)
  · skip
    refine s_iconst C dX11_end_12 ?_
    exact s_ireturn C dX11_end_13 (⟨_, rfl, Or.inl ⟨by omega, rfl, rfl⟩⟩)
  · skip
    refine s_iload_n C dX11_end_4 rfl ?_
    refine s_aload_n C dX11_end_5 rfl ?_
    refine s_geti (k := 1) (j := 1) C dX11_end_6 fl_X11_136 (by decide) rfl (by decide) rfl (rfl) (fun r6 => ?_)
    refine s_icmp_le (tgt := 14) C dX11_end_9 (by decide) (by omega) (by omega) (fun c9 => ?_) (fun c9 => ?_)
    · skip
      refine s_aload_n C dX11_end_14 rfl ?_
      refine s_iload_n C dX11_end_15 rfl ?_
      refine s_puti (k := 1) (j := 1) C dX11_end_16 fp_X11_136 (by decide) rfl rfl rfl (by omega) ?_
      refine s_iload_n C dX11_end_19 rfl ?_
      exact s_ireturn C dX11_end_20 (⟨_, rfl, Or.inr ⟨by omega, by omega, rfl, rfl⟩⟩)
    · skip
      refine s_iconst C dX11_end_12 ?_
      exact s_ireturn C dX11_end_13 (⟨_, rfl, Or.inl ⟨by omega, rfl, rfl⟩⟩)

set_option maxRecDepth 20000 in
set_option maxHeartbeats 4000000 in
theorem ct_X11_isLike (E : Ev) (x y : Nat) (hx : x < NID ∧ kd x = 22) (hy : y < NID ∧ kd y = 22) (hlx : ln x < 20000) (hly : ln y < 20000) (M : Mm) (i n p m : Int) (hn : rg n) (hm : rg m) (hb : n = m → 0 ≤ i ∧ 0 ≤ n ∧ i + n ≤ (ln x : Int) ∧ 0 ≤ p ∧ p + n ≤ (ln y : Int)) : Ct E yX11_isLike cX11_isLike 7 (some .boolean) 0 [zr E x, zi i, zi n, zr E y, zi p, zi m] M (pP M (fun z => Bz z (n = m ∧ lk M x i y p n))) := by
  refine Ct.of (own := RX11) (lv0 := [some (zr E x), some (zi i), some (zi n), some (zr E y), some (zi p), some (zi m), none]) (by decide) rfl (Nat.le_of_ble_eq_true rfl) rfl (fun κ C => ?_)
  have L11 : ∀ (n9 : Nat) (k : Int) (hnm : n = m) (hk : 0 ≤ k ∧ k ≤ n) (hs : ∀ q, 0 ≤ q → q < k → M x (i + q) = M y (p + q)) (hm : (n - k).toNat < n9), Gm E κ (pP M (fun z => Bz z (n = m ∧ lk M x i y p n))) 7 11 [some (zr E x), some (zi i), some (zi n), some (zr E y), some (zi p), some (zi m), some (zi k)] [] M := by
    intro n9
    induction n9 with
    | zero => intro k  hnm hk hs hm; exact absurd hm (Nat.not_lt_zero _)
    | succ n9 ih11 =>
      intro k  hnm hk hs hm
      have hbb := hb hnm
      refine s_iload C dX11_isLike_11 rfl ?_
      refine s_iload_n C dX11_isLike_13 rfl ?_
      refine s_icmp_ge (tgt := 41) C dX11_isLike_14 (by decide) (by omega) (by omega) (fun c14 => ?_) (fun c14 => ?_)
      · skip
        refine s_iconst C dX11_isLike_41 ?_
        exact s_zreturn C dX11_isLike_42 (by decide) (⟨_, rfl, rfl, Bz.t ⟨hnm, fun q h1 h2 => hs q h1 (by omega)⟩⟩)
      · skip
        refine s_aload_n C dX11_isLike_17 rfl ?_
        refine s_iload_n C dX11_isLike_18 rfl ?_
        refine s_iload C dX11_isLike_19 rfl ?_
        refine s_iadd C dX11_isLike_21 ?_
        refine s_baload C dX11_isLike_22 (by first | exact hx.1 | exact hx.2) (by first | exact hx.1 | exact hx.2) rfl (by omega) (by omega) (by omega) (rfl) (fun r22 => ?_)
        refine s_aload_n C dX11_isLike_23 rfl ?_
        refine s_iload C dX11_isLike_24 rfl ?_
        refine s_iload C dX11_isLike_26 rfl ?_
        refine s_iadd C dX11_isLike_28 ?_
        refine s_baload C dX11_isLike_29 (by first | exact hy.1 | exact hy.2) (by first | exact hy.1 | exact hy.2) rfl (by omega) (by omega) (by omega) (rfl) (fun r29 => ?_)
        refine s_icmp_eq (tgt := 35) C dX11_isLike_30 (by decide) (by omega) (by omega) (fun c30 => ?_) (fun c30 => ?_)
        · skip
          refine s_iinc (lv' := [_, _, _, _, _, _, _]) C dX11_isLike_35 rfl (by decide) rfl rfl rfl ?_
          refine s_goto (tgt := 11) C dX11_isLike_38 (by decide) ?_
          exact ih11 _  (by first | assumption | omega) (by first | assumption | omega) (fun q h1 h2 => by
        by_cases c : q = k
        · rw [c]; exact c30
        · exact hs q h1 (by omega)) (by omega)
        · skip
          refine s_iconst C dX11_isLike_33 ?_
          exact s_zreturn C dX11_isLike_34 (by decide) (⟨_, rfl, rfl, Bz.f (fun q => c30 (q.2 k hk.1 (by omega)))⟩)
  refine s_iload_n C dX11_isLike_0 rfl ?_
  refine s_iload C dX11_isLike_1 rfl ?_
  refine s_icmp_eq (tgt := 8) C dX11_isLike_3 (by decide) (by omega) (by omega) (fun c3 => ?_) (fun c3 => ?_)
  · skip
    refine s_iconst C dX11_isLike_8 ?_
    refine s_istore (lv' := [_, _, _, _, _, _, _]) C dX11_isLike_9 (by decide) rfl rfl ?_
    exact L11 _ _  (c3) (by have := hb c3; omega) (fun q h1 h2 => by omega) (Nat.lt_succ_self _)
  · skip
    refine s_iconst C dX11_isLike_6 ?_
    exact s_zreturn C dX11_isLike_7 (by decide) (⟨_, rfl, rfl, Bz.f (fun q => c3 q.1)⟩)

set_option maxRecDepth 20000 in
set_option maxHeartbeats 4000000 in
theorem ct_X11_find (E : Ev) (w : Nat) (hw : w < NID ∧ kd w = 20) (x y : Nat) (hx : x < NID ∧ kd x = 22) (hy : y < NID ∧ kd y = 22) (hlx : ln x < 20000) (hly : ln y < 20000) (M : Mm) (c p n : Int) (hc : 0 ≤ c ∧ c ≤ (ln w : Int) ∧ ln w < 20000 ∧ 16 * c ≤ (ln x : Int)) (hT : ∀ q, 0 ≤ q → q < c → 0 ≤ M w q ∧ M w q ≤ 16) (hn : rg n) (hp : 0 ≤ p ∧ p + n ≤ (ln y : Int)) : Ct E yX11_find cX11_find 7 (some .int) 1 [zr E x, zr E w, zi c, zr E y, zi p, zi n] M (pP M (fun z => (z = -1 ∧ ∀ q, 0 ≤ q → q < c → ¬ (M w q = n ∧ lk M x (16 * q) y p (M w q))) ∨ (0 ≤ z ∧ z < c ∧ (M w z = n ∧ lk M x (16 * z) y p (M w z)) ∧ ∀ q, 0 ≤ q → q < z → ¬ (M w q = n ∧ lk M x (16 * q) y p (M w q))))) := by
  refine Ct.of (own := RX11) (lv0 := [some (zr E x), some (zr E w), some (zi c), some (zr E y), some (zi p), some (zi n), none]) (by decide) rfl (Nat.le_of_ble_eq_true rfl) rfl (fun κ C => ?_)
  have L3 : ∀ (n9 : Nat) (k : Int) (hk : 0 ≤ k ∧ k ≤ c) (hno : ∀ q, 0 ≤ q → q < k → ¬ (M w q = n ∧ lk M x (16 * q) y p (M w q))) (hm : (c - k).toNat < n9), Gm E κ (pP M (fun z => (z = -1 ∧ ∀ q, 0 ≤ q → q < c → ¬ (M w q = n ∧ lk M x (16 * q) y p (M w q))) ∨ (0 ≤ z ∧ z < c ∧ (M w z = n ∧ lk M x (16 * z) y p (M w z)) ∧ ∀ q, 0 ≤ q → q < z → ¬ (M w q = n ∧ lk M x (16 * q) y p (M w q))))) 7 3 [some (zr E x), some (zr E w), some (zi c), some (zr E y), some (zi p), some (zi n), some (zi k)] [] M := by
    intro n9
    induction n9 with
    | zero => intro k  hk hno hm; exact absurd hm (Nat.not_lt_zero _)
    | succ n9 ih3 =>
      intro k  hk hno hm
      refine s_iload C dX11_find_3 rfl ?_
      refine s_iload_n C dX11_find_5 rfl ?_
      refine s_icmp_ge (tgt := 39) C dX11_find_6 (by decide) (by omega) (by omega) (fun c6 => ?_) (fun c6 => ?_)
      · skip
        refine s_iconst C dX11_find_39 ?_
        exact s_ireturn C dX11_find_40 (⟨_, rfl, rfl, Or.inl ⟨rfl, fun q h1 h2 => hno q h1 (by omega)⟩⟩)
      · skip
        have hTk := hT k hk.1 (by omega)
        refine s_aload_n C dX11_find_9 rfl ?_
        refine s_bipush C dX11_find_10 (by decide) ?_
        refine s_iload C dX11_find_12 rfl ?_
        refine s_imul C dX11_find_14 ?_
        refine s_aload_n C dX11_find_15 rfl ?_
        refine s_iload C dX11_find_16 rfl ?_
        refine s_iaload C dX11_find_18 (by first | exact hw.1 | exact hw.2) (by first | exact hw.1 | exact hw.2) rfl (by omega) (by omega) (by omega) (rfl) (fun r18 => ?_)
        refine s_aload_n C dX11_find_19 rfl ?_
        refine s_iload C dX11_find_20 rfl ?_
        refine s_iload C dX11_find_22 rfl ?_
        refine s_callS6 C dX11_find_24 cy_X11_isLike cs_X11_isLike lk_X11_154 (ct_X11_isLike E x y hx hy hlx hly M (16 * k) (M w k) p n (by omega) hn (fun q => by omega)) (by decide) (Nat.le_of_ble_eq_true rfl) (k_P (fun z24 q24 => ?_))
        refine s_if_eq (tgt := 33) C dX11_find_27 (by decide) (by rcases q24 with ⟨q, _⟩ | ⟨q, _⟩ <;> omega) (fun c27 => ?_) (fun c27 => ?_)
        · skip
          refine s_iinc (lv' := [_, _, _, _, _, _, _]) C dX11_find_33 rfl (by decide) rfl rfl rfl ?_
          refine s_goto (tgt := 3) C dX11_find_36 (by decide) ?_
          exact ih3 _  (by first | assumption | omega) (fun q h1 h2 => by
        by_cases cc : q = k
        · rw [cc]; rcases q24 with ⟨g, _⟩ | ⟨_, g⟩
          · exact absurd (g.symm.trans c27) (by decide)
          · exact g
        · exact hno q h1 (by omega)) (by omega)
        · skip
          refine s_iload C dX11_find_30 rfl ?_
          exact s_ireturn C dX11_find_32 (⟨_, rfl, rfl, Or.inr ⟨hk.1, by omega, by rcases q24 with ⟨_, g⟩ | ⟨g, _⟩; exact g; exact absurd g c27, hno⟩⟩)
  refine s_iconst C dX11_find_0 ?_
  refine s_istore (lv' := [_, _, _, _, _, _, _]) C dX11_find_1 (by decide) rfl rfl ?_
  exact L3 _ _  (by first | assumption | omega) (fun q h1 h2 => by omega) (Nat.lt_succ_self _)

set_option maxRecDepth 20000 in
set_option maxHeartbeats 4000000 in
theorem ct_X11_wrong (E : Ev) (M : Mm) (k p : Int) (hk : rg k) (hp : rg p) : Ct E yX11_wrong cX11_wrong 3 (some .int) 0 [zr E 66, zi k, zi p] M (pI (fun z M' => z = -1 ∧ M' = mput (mput M 66 26 k) 66 27 p)) := by
  refine Ct.of (own := RX11) (lv0 := [some (zr E 66), some (zi k), some (zi p)]) (by decide) rfl (Nat.le_of_ble_eq_true rfl) rfl (fun κ C => ?_)
  refine s_aload_n C dX11_wrong_0 rfl ?_
  refine s_iload_n C dX11_wrong_1 rfl ?_
  refine s_puti (k := 26) (j := 26) C dX11_wrong_2 fp_X11_186 (by decide) rfl rfl rfl (by omega) ?_
  refine s_aload_n C dX11_wrong_5 rfl ?_
  refine s_iload_n C dX11_wrong_6 rfl ?_
  refine s_puti (k := 27) (j := 27) C dX11_wrong_7 fp_X11_68 (by decide) rfl rfl rfl (by omega) ?_
  refine s_iconst C dX11_wrong_10 ?_
  exact s_ireturn C dX11_wrong_11 (⟨_, rfl, rfl, rfl⟩)

set_option maxRecDepth 20000 in
set_option maxHeartbeats 4000000 in
theorem ct_X11_fault (E : Ev) (M : Mm) (w : Int) (hw : rg w) : Ct E yX11_fault cX11_fault 2 (some .int) 0 [zr E 66, zi w] M (pP M (fun z => z = if w = 0 then M 66 26 else if w = 1 then M 66 27 else -1)) := by
  refine Ct.of (own := RX11) (lv0 := [some (zr E 66), some (zi w)]) (by decide) rfl (Nat.le_of_ble_eq_true rfl) rfl (fun κ C => ?_)
  refine s_iload_n C dX11_fault_0 rfl ?_
  refine s_if_ne (tgt := 11) C dX11_fault_1 (by decide) (by omega) (fun c1 => ?_) (fun c1 => ?_)
  · skip
    refine s_iload_n C dX11_fault_11 rfl ?_
    refine s_iconst C dX11_fault_12 ?_
    refine s_icmp_ne (tgt := 23) C dX11_fault_13 (by decide) (by omega) (by omega) (fun c13 => ?_) (fun c13 => ?_)
    · skip
      refine s_iconst C dX11_fault_23 ?_
      exact s_ireturn C dX11_fault_24 (⟨_, rfl, rfl, by first | (rw [if_pos c1]; done) | (rw [if_neg c1]; first | rw [if_pos c13] | rw [if_neg c13])⟩)
    · skip
      refine s_aload_n C dX11_fault_16 rfl ?_
      refine s_geti (k := 27) (j := 27) C dX11_fault_17 fl_X11_68 (by decide) rfl (by decide) rfl (rfl) (fun r17 => ?_)
      refine s_goto (tgt := 24) C dX11_fault_20 (by decide) ?_
      exact s_ireturn C dX11_fault_24 (⟨_, rfl, rfl, by first | (rw [if_pos c1]; done) | (rw [if_neg c1]; first | rw [if_pos c13] | rw [if_neg c13])⟩)
  · skip
    refine s_aload_n C dX11_fault_4 rfl ?_
    refine s_geti (k := 26) (j := 26) C dX11_fault_5 fl_X11_186 (by decide) rfl (by decide) rfl (rfl) (fun r5 => ?_)
    refine s_goto (tgt := 24) C dX11_fault_8 (by decide) ?_
    exact s_ireturn C dX11_fault_24 (⟨_, rfl, rfl, by first | (rw [if_pos c1]; done) | (rw [if_neg c1]; first | rw [if_pos c13] | rw [if_neg c13])⟩)

set_option maxRecDepth 20000 in
set_option maxHeartbeats 4000000 in
theorem ct_X11_isHere (E : Ev) (M : Mm) (i : Int) (hi : rg i) (hn : 0 ≤ M 66 24 ∧ M 66 24 ≤ 24) : Ct E yX11_isHere cX11_isHere 2 (some .boolean) 1 [zr E 66, zi i] M (pP M (fun z => Bz z (0 ≤ i ∧ i ≤ M 66 24 - 1))) := by
  refine Ct.of (own := RX11) (lv0 := [some (zr E 66), some (zi i)]) (by decide) rfl (Nat.le_of_ble_eq_true rfl) rfl (fun κ C => ?_)
  refine s_iload_n C dX11_isHere_0 rfl ?_
  refine s_iconst C dX11_isHere_1 ?_
  refine s_aload_n C dX11_isHere_2 rfl ?_
  refine s_geti (k := 24) (j := 24) C dX11_isHere_3 fl_X11_196 (by decide) rfl (by decide) rfl (rfl) (fun r3 => ?_)
  refine s_iconst C dX11_isHere_6 ?_
  refine s_isub C dX11_isHere_7 ?_
  refine s_callS3 C dX11_isHere_8 cy_X11_in cs_X11_in lk_X11_139 (ct_X11_in E M i 0 (M 66 24 - 1) hi (by decide) (by omega)) (by decide) (Nat.le_of_ble_eq_true rfl) (k_P (fun z8 q8 => ?_))
  exact s_zreturn C dX11_isHere_11 (by rcases q8 with ⟨g, _⟩ | ⟨g, _⟩ <;> omega) (⟨_, rfl, rfl, q8⟩)

set_option maxRecDepth 20000 in
set_option maxHeartbeats 4000000 in
theorem ct_X11_isPoint (E : Ev) (M : Mm) (v : Int) (hv : rg v) : Ct E yX11_isPoint cX11_isPoint 1 (some .boolean) 1 [zi v] M (pP M (fun z => Bz z (-100 ≤ v ∧ v ≤ 100))) := by
  refine Ct.of (own := RX11) (lv0 := [some (zi v)]) (by decide) rfl (Nat.le_of_ble_eq_true rfl) rfl (fun κ C => ?_)
  refine s_iload_n C dX11_isPoint_0 rfl ?_
  refine s_bipush C dX11_isPoint_1 (by decide) ?_
  refine s_bipush C dX11_isPoint_3 (by decide) ?_
  refine s_callS3 C dX11_isPoint_5 cy_X11_in cs_X11_in lk_X11_139 (ct_X11_in E M v (-100) 100 hv (by decide) (by decide)) (by decide) (Nat.le_of_ble_eq_true rfl) (k_P (fun z5 q5 => ?_))
  exact s_zreturn C dX11_isPoint_8 (by rcases q5 with ⟨g, _⟩ | ⟨g, _⟩ <;> omega) (⟨_, rfl, rfl, q5⟩)

set_option maxRecDepth 20000 in
set_option maxHeartbeats 4000000 in
theorem ct_X11_arc (E : Ev) (M : Mm) (h d : Int) (hh : -1 ≤ h ∧ h < 24) (hd : 0 ≤ d ∧ d < 24) (h0 : 0 ≤ h) : Ct E yX11_arc cX11_arc 3 (some .int) 0 [zr E 66, zi h, zi d] M (pP M (fun z => z = if M 92 (25 * d + h + 1) = 0 then M 90 (24 * h + d) else 1000000)) := by
  refine Ct.of (own := RX11) (lv0 := [some (zr E 66), some (zi h), some (zi d)]) (by decide) rfl (Nat.le_of_ble_eq_true rfl) rfl (fun κ C => ?_)
  refine s_aload_n C dX11_arc_0 rfl ?_
  refine s_getr (k := 35) (b := 92) C dX11_arc_1 fl_X11_90 (by decide) rfl (by decide) rfl ?_
  refine s_bipush C dX11_arc_4 (by decide) ?_
  refine s_iload_n C dX11_arc_6 rfl ?_
  refine s_imul C dX11_arc_7 ?_
  refine s_iload_n C dX11_arc_8 rfl ?_
  refine s_iadd C dX11_arc_9 ?_
  refine s_iconst C dX11_arc_10 ?_
  refine s_iadd C dX11_arc_11 ?_
  refine s_zaload (n := 600) C dX11_arc_12 (by decide) rfl rfl (by omega) (by omega) (by omega) (rfl) (fun r12 => ?_)
  refine s_if_eq (tgt := 21) C dX11_arc_13 (by decide) (by omega) (fun c13 => ?_) (fun c13 => ?_)
  · skip
    refine s_aload_n C dX11_arc_21 rfl ?_
    refine s_getr (k := 33) (b := 90) C dX11_arc_22 fl_X11_84 (by decide) rfl (by decide) rfl ?_
    refine s_bipush C dX11_arc_25 (by decide) ?_
    refine s_iload_n C dX11_arc_27 rfl ?_
    refine s_imul C dX11_arc_28 ?_
    refine s_iload_n C dX11_arc_29 rfl ?_
    refine s_iadd C dX11_arc_30 ?_
    refine s_iaload (n := 576) C dX11_arc_31 (by decide) rfl rfl (by omega) (by omega) (by omega) (rfl) (fun r31 => ?_)
    exact s_ireturn C dX11_arc_32 (⟨_, rfl, rfl, by first | (rw [if_pos c13]; done) | (rw [if_neg c13]; done)⟩)
  · skip
    refine s_ldc C dX11_arc_16 kc_X11_218 ?_
    refine s_goto (tgt := 32) C dX11_arc_18 (by decide) ?_
    exact s_ireturn C dX11_arc_32 (⟨_, rfl, rfl, by first | (rw [if_pos c13]; done) | (rw [if_neg c13]; done)⟩)
