/-- z is the answer to a question -/
def Bz (z : Int) (P : Prop) : Prop := (z = 1 ∧ P) ∨ (z = 0 ∧ ¬ P)
theorem Bz.t {P : Prop} (h : P) : Bz 1 P := Or.inl ⟨rfl, h⟩
theorem Bz.f {P : Prop} (h : ¬ P) : Bz 0 P := Or.inr ⟨rfl, h⟩
/-- small letters; a byte of words -/
def low (x : Int) : Int := if 65 ≤ x ∧ x ≤ 90 then x + 32 else x
abbrev ofW (x : Int) : Prop := (97 ≤ x ∧ x ≤ 122) ∨ (48 ≤ x ∧ x ≤ 57) ∨ x = 39
/-- word i of a table (bytes b, rows L apart, lengths l) stands in src from p on -/
def wAt (M : Mm) (b l : Nat) (L i : Int) (src : Nat) (p : Int) : Prop := ∀ k, 0 ≤ k → k < M l i → M b (i * L + k) = M src (p + k)

set_option maxRecDepth 20000 in
set_option maxHeartbeats 4000000 in
theorem ct_X10_smallLetter (E : Ev) (M : Mm) (x : Int) (hx : rg x) : Ct E yX10_smallLetter cX10_smallLetter 1 (some .int) 0 [zi x] M (pP M (fun z => z = low x)) := by
  refine Ct.of (own := RX10) (lv0 := [some (zi x)]) (by decide) rfl (Nat.le_of_ble_eq_true rfl) rfl (fun κ C => ?_)
  refine s_iload_n C dX10_smallLetter_0 rfl ?_
  refine s_bipush C dX10_smallLetter_1 (by decide) ?_
  refine s_icmp_lt (tgt := 19) C dX10_smallLetter_3 (by decide) (by omega) (by omega) (fun c3 => ?_) (fun c3 => ?_)
  · skip
    refine s_iload_n C dX10_smallLetter_19 rfl ?_
    exact s_ireturn C dX10_smallLetter_20 (⟨_, rfl, rfl, by unfold low; first | (rw [if_pos (by omega)]; done) | (rw [if_neg (by omega)]; done)⟩)
  · skip
    refine s_iload_n C dX10_smallLetter_6 rfl ?_
    refine s_bipush C dX10_smallLetter_7 (by decide) ?_
    refine s_icmp_gt (tgt := 19) C dX10_smallLetter_9 (by decide) (by omega) (by omega) (fun c9 => ?_) (fun c9 => ?_)
    · skip
      refine s_iload_n C dX10_smallLetter_19 rfl ?_
      exact s_ireturn C dX10_smallLetter_20 (⟨_, rfl, rfl, by unfold low; first | (rw [if_pos (by omega)]; done) | (rw [if_neg (by omega)]; done)⟩)
    · skip
      refine s_iload_n C dX10_smallLetter_12 rfl ?_
      refine s_bipush C dX10_smallLetter_13 (by decide) ?_
      refine s_iadd C dX10_smallLetter_15 ?_
      refine s_goto (tgt := 20) C dX10_smallLetter_16 (by decide) ?_
      exact s_ireturn C dX10_smallLetter_20 (⟨_, rfl, rfl, by unfold low; first | (rw [if_pos (by omega)]; done) | (rw [if_neg (by omega)]; done)⟩)

set_option maxRecDepth 20000 in
set_option maxHeartbeats 4000000 in
theorem ct_X10_isOfWords (E : Ev) (M : Mm) (x : Int) (hx : rg x) : Ct E yX10_isOfWords cX10_isOfWords 1 (some .boolean) 0 [zi x] M (pP M (fun z => Bz z (ofW x))) := by
  refine Ct.of (own := RX10) (lv0 := [some (zi x)]) (by decide) rfl (Nat.le_of_ble_eq_true rfl) rfl (fun κ C => ?_)
  refine s_iload_n C dX10_isOfWords_0 rfl ?_
  refine s_bipush C dX10_isOfWords_1 (by decide) ?_
  refine s_icmp_lt (tgt := 12) C dX10_isOfWords_3 (by decide) (by omega) (by omega) (fun c3 => ?_) (fun c3 => ?_)
  · skip
    refine s_iload_n C dX10_isOfWords_12 rfl ?_
    refine s_bipush C dX10_isOfWords_13 (by decide) ?_
    refine s_icmp_lt (tgt := 24) C dX10_isOfWords_15 (by decide) (by omega) (by omega) (fun c15 => ?_) (fun c15 => ?_)
    · skip
      refine s_iload_n C dX10_isOfWords_24 rfl ?_
      refine s_bipush C dX10_isOfWords_25 (by decide) ?_
      refine s_icmp_ne (tgt := 34) C dX10_isOfWords_27 (by decide) (by omega) (by omega) (fun c27 => ?_) (fun c27 => ?_)
      · skip
        refine s_iconst C dX10_isOfWords_34 ?_
        exact s_zreturn C dX10_isOfWords_35 (by decide) (⟨_, rfl, rfl, by unfold ofW; first | exact Bz.t (by omega) | exact Bz.f (by omega)⟩)
      · skip
        refine s_iconst C dX10_isOfWords_30 ?_
        refine s_goto (tgt := 35) C dX10_isOfWords_31 (by decide) ?_
        exact s_zreturn C dX10_isOfWords_35 (by decide) (⟨_, rfl, rfl, by unfold ofW; first | exact Bz.t (by omega) | exact Bz.f (by omega)⟩)
    · skip
      refine s_iload_n C dX10_isOfWords_18 rfl ?_
      refine s_bipush C dX10_isOfWords_19 (by decide) ?_
      refine s_icmp_le (tgt := 30) C dX10_isOfWords_21 (by decide) (by omega) (by omega) (fun c21 => ?_) (fun c21 => ?_)
      · skip
        refine s_iconst C dX10_isOfWords_30 ?_
        refine s_goto (tgt := 35) C dX10_isOfWords_31 (by decide) ?_
        exact s_zreturn C dX10_isOfWords_35 (by decide) (⟨_, rfl, rfl, by unfold ofW; first | exact Bz.t (by omega) | exact Bz.f (by omega)⟩)
      · skip
        refine s_iload_n C dX10_isOfWords_24 rfl ?_
        refine s_bipush C dX10_isOfWords_25 (by decide) ?_
        refine s_icmp_ne (tgt := 34) C dX10_isOfWords_27 (by decide) (by omega) (by omega) (fun c27 => ?_) (fun c27 => ?_)
        · skip
          refine s_iconst C dX10_isOfWords_34 ?_
          exact s_zreturn C dX10_isOfWords_35 (by decide) (⟨_, rfl, rfl, by unfold ofW; first | exact Bz.t (by omega) | exact Bz.f (by omega)⟩)
        · skip
          refine s_iconst C dX10_isOfWords_30 ?_
          refine s_goto (tgt := 35) C dX10_isOfWords_31 (by decide) ?_
          exact s_zreturn C dX10_isOfWords_35 (by decide) (⟨_, rfl, rfl, by unfold ofW; first | exact Bz.t (by omega) | exact Bz.f (by omega)⟩)
  · skip
    refine s_iload_n C dX10_isOfWords_6 rfl ?_
    refine s_bipush C dX10_isOfWords_7 (by decide) ?_
    refine s_icmp_le (tgt := 30) C dX10_isOfWords_9 (by decide) (by omega) (by omega) (fun c9 => ?_) (fun c9 => ?_)
    · skip
      refine s_iconst C dX10_isOfWords_30 ?_
      refine s_goto (tgt := 35) C dX10_isOfWords_31 (by decide) ?_
      exact s_zreturn C dX10_isOfWords_35 (by decide) (⟨_, rfl, rfl, by unfold ofW; first | exact Bz.t (by omega) | exact Bz.f (by omega)⟩)
    · skip
      refine s_iload_n C dX10_isOfWords_12 rfl ?_
      refine s_bipush C dX10_isOfWords_13 (by decide) ?_
      refine s_icmp_lt (tgt := 24) C dX10_isOfWords_15 (by decide) (by omega) (by omega) (fun c15 => ?_) (fun c15 => ?_)
      · skip
        refine s_iload_n C dX10_isOfWords_24 rfl ?_
        refine s_bipush C dX10_isOfWords_25 (by decide) ?_
        refine s_icmp_ne (tgt := 34) C dX10_isOfWords_27 (by decide) (by omega) (by omega) (fun c27 => ?_) (fun c27 => ?_)
        · skip
          refine s_iconst C dX10_isOfWords_34 ?_
          exact s_zreturn C dX10_isOfWords_35 (by decide) (⟨_, rfl, rfl, by unfold ofW; first | exact Bz.t (by omega) | exact Bz.f (by omega)⟩)
        · skip
          refine s_iconst C dX10_isOfWords_30 ?_
          refine s_goto (tgt := 35) C dX10_isOfWords_31 (by decide) ?_
          exact s_zreturn C dX10_isOfWords_35 (by decide) (⟨_, rfl, rfl, by unfold ofW; first | exact Bz.t (by omega) | exact Bz.f (by omega)⟩)
      · skip
        refine s_iload_n C dX10_isOfWords_18 rfl ?_
        refine s_bipush C dX10_isOfWords_19 (by decide) ?_
        refine s_icmp_le (tgt := 30) C dX10_isOfWords_21 (by decide) (by omega) (by omega) (fun c21 => ?_) (fun c21 => ?_)
        · skip
          refine s_iconst C dX10_isOfWords_30 ?_
          refine s_goto (tgt := 35) C dX10_isOfWords_31 (by decide) ?_
          exact s_zreturn C dX10_isOfWords_35 (by decide) (⟨_, rfl, rfl, by unfold ofW; first | exact Bz.t (by omega) | exact Bz.f (by omega)⟩)
        · skip
          refine s_iload_n C dX10_isOfWords_24 rfl ?_
          refine s_bipush C dX10_isOfWords_25 (by decide) ?_
          refine s_icmp_ne (tgt := 34) C dX10_isOfWords_27 (by decide) (by omega) (by omega) (fun c27 => ?_) (fun c27 => ?_)
          · skip
            refine s_iconst C dX10_isOfWords_34 ?_
            exact s_zreturn C dX10_isOfWords_35 (by decide) (⟨_, rfl, rfl, by unfold ofW; first | exact Bz.t (by omega) | exact Bz.f (by omega)⟩)
          · skip
            refine s_iconst C dX10_isOfWords_30 ?_
            refine s_goto (tgt := 35) C dX10_isOfWords_31 (by decide) ?_
            exact s_zreturn C dX10_isOfWords_35 (by decide) (⟨_, rfl, rfl, by unfold ofW; first | exact Bz.t (by omega) | exact Bz.f (by omega)⟩)

set_option maxRecDepth 20000 in
set_option maxHeartbeats 4000000 in
theorem ct_X9_isFull_3 (E : Ev) (M : Mm) (h0 : M 3 0 = 60) (h1 : M 3 1 = 16)  : Ct E yX9_isFull cX9_isFull 1 (some .boolean) 0 [zr E 3] M (pP M (fun z => Bz z (60 ≤ M 3 5))) := by
  refine Ct.of (own := RX9) (lv0 := [some (zr E 3)]) (by decide) rfl (Nat.le_of_ble_eq_true rfl) rfl (fun κ C => ?_)
  refine s_aload_n C dX9_isFull_0 rfl ?_
  refine s_geti (k := 5) (j := 5) C dX9_isFull_1 fl_X9_28 (by decide) rfl (by decide) rfl (rfl) (fun r1 => ?_)
  refine s_aload_n C dX9_isFull_4 rfl ?_
  refine s_geti (k := 0) (j := 0) (z := 60) C dX9_isFull_5 fl_X9_9 (by decide) rfl (by decide) rfl (h0) (fun r5 => ?_)
  refine s_icmp_lt (tgt := 15) C dX9_isFull_8 (by decide) (by omega) (by omega) (fun c8 => ?_) (fun c8 => ?_)
  · skip
    refine s_iconst C dX9_isFull_15 ?_
    exact s_zreturn C dX9_isFull_16 (by decide) (⟨_, rfl, rfl, by first | exact Bz.t (by omega) | exact Bz.f (by omega)⟩)
  · skip
    refine s_iconst C dX9_isFull_11 ?_
    refine s_goto (tgt := 16) C dX9_isFull_12 (by decide) ?_
    exact s_zreturn C dX9_isFull_16 (by decide) (⟨_, rfl, rfl, by first | exact Bz.t (by omega) | exact Bz.f (by omega)⟩)

set_option maxRecDepth 20000 in
set_option maxHeartbeats 4000000 in
theorem ct_X9_isAt_3 (E : Ev) (src : Nat) (hs : src < NID ∧ kd src = 20) (M : Mm) (h0 : M 3 0 = 60) (h1 : M 3 1 = 16) (i p : Int) (hi : 0 ≤ i ∧ i < 60) (hl : 0 ≤ M 5 i ∧ M 5 i ≤ 16) (hp : 0 ≤ p ∧ p + M 5 i ≤ (ln src : Int)) (hln : ln src < 4000) : Ct E yX9_isAt cX9_isAt 6 (some .boolean) 0 [zr E 3, zi i, zr E src, zi p] M (pP M (fun z => Bz z (wAt M 4 5 16 i src p))) := by
  refine Ct.of (own := RX9) (lv0 := [some (zr E 3), some (zi i), some (zr E src), some (zi p), none, none]) (by decide) rfl (Nat.le_of_ble_eq_true rfl) rfl (fun κ C => ?_)
  have L11 : ∀ (n9 : Nat) (k : Int) (hk : 0 ≤ k ∧ k ≤ M 5 i) (hall : ∀ j, 0 ≤ j → j < k → M 4 (i * 16 + j) = M src (p + j)) (hm : (M 5 i - k).toNat < n9), Gm E κ (pP M (fun z => Bz z (wAt M 4 5 16 i src p))) 6 11 [some (zr E 3), some (zi i), some (zr E src), some (zi p), some (zi (i * 16)), some (zi k)] [] M := by
    intro n9
    induction n9 with
    | zero => intro k  hk hall hm; exact absurd hm (Nat.not_lt_zero _)
    | succ n9 ih11 =>
      intro k  hk hall hm
      refine s_iload C dX9_isAt_11 rfl ?_
      refine s_aload_n C dX9_isAt_13 rfl ?_
      refine s_getr (k := 3) (b := 5) C dX9_isAt_14 fl_X9_22 (by decide) rfl (by decide) rfl ?_
      refine s_iload_n C dX9_isAt_17 rfl ?_
      refine s_iaload (n := 60) C dX9_isAt_18 (by decide) rfl rfl (by omega) (by omega) (by omega) (rfl) (fun r18 => ?_)
      refine s_icmp_ge (tgt := 49) C dX9_isAt_19 (by decide) (by omega) (by omega) (fun c19 => ?_) (fun c19 => ?_)
      · skip
        refine s_iconst C dX9_isAt_49 ?_
        exact s_zreturn C dX9_isAt_50 (by decide) (⟨_, rfl, rfl, Bz.t (fun j h1 h2 => hall j h1 (by omega))⟩)
      · skip
        refine s_aload_n C dX9_isAt_22 rfl ?_
        refine s_getr (k := 2) (b := 4) C dX9_isAt_23 fl_X9_18 (by decide) rfl (by decide) rfl ?_
        refine s_iload C dX9_isAt_26 rfl ?_
        refine s_iload C dX9_isAt_28 rfl ?_
        refine s_iadd C dX9_isAt_30 ?_
        refine s_iaload (n := 960) C dX9_isAt_31 (by decide) rfl rfl (by omega) (by omega) (by omega) (rfl) (fun r31 => ?_)
        refine s_aload_n C dX9_isAt_32 rfl ?_
        refine s_iload_n C dX9_isAt_33 rfl ?_
        refine s_iload C dX9_isAt_34 rfl ?_
        refine s_iadd C dX9_isAt_36 ?_
        refine s_iaload C dX9_isAt_37 (by first | exact hs.1 | exact hs.2) (by first | exact hs.1 | exact hs.2) rfl (by omega) (by omega) (by omega) (rfl) (fun r37 => ?_)
        refine s_icmp_eq (tgt := 43) C dX9_isAt_38 (by decide) (by omega) (by omega) (fun c38 => ?_) (fun c38 => ?_)
        · skip
          refine s_iinc (lv' := [_, _, _, _, _, _]) C dX9_isAt_43 rfl (by decide) rfl rfl rfl ?_
          refine s_goto (tgt := 11) C dX9_isAt_46 (by decide) ?_
          exact ih11 _  (by first | assumption | omega) (fun j h1 h2 => by rcases Int.lt_or_eq_of_le (Int.lt_add_one_iff.mp h2) with h | rfl; exact hall j h1 h; exact c38) (by omega)
        · skip
          refine s_iconst C dX9_isAt_41 ?_
          exact s_zreturn C dX9_isAt_42 (by decide) (⟨_, rfl, rfl, Bz.f (fun q => by have := q k (by omega) (by omega); omega)⟩)
  refine s_iload_n C dX9_isAt_0 rfl ?_
  refine s_aload_n C dX9_isAt_1 rfl ?_
  refine s_geti (k := 1) (j := 1) (z := 16) C dX9_isAt_2 fl_X9_15 (by decide) rfl (by decide) rfl (h1) (fun r2 => ?_)
  refine s_imul C dX9_isAt_5 ?_
  refine s_istore (lv' := [_, _, _, _, _, _]) C dX9_isAt_6 (by decide) rfl rfl ?_
  refine s_iconst C dX9_isAt_8 ?_
  refine s_istore (lv' := [_, _, _, _, _, _]) C dX9_isAt_9 (by decide) rfl rfl ?_
  exact L11 _ _  (by first | assumption | omega) (fun j h1 h2 => by omega) (Nat.lt_succ_self _)

set_option maxRecDepth 20000 in
set_option maxHeartbeats 4000000 in
theorem ct_X9_find_3 (E : Ev) (src : Nat) (hs : src < NID ∧ kd src = 20) (M : Mm) (h0 : M 3 0 = 60) (h1 : M 3 1 = 16) (h5 : 0 ≤ M 3 5 ∧ M 3 5 ≤ 60) (hT : ∀ i, 0 ≤ i → i < M 3 5 → 0 ≤ M 5 i ∧ M 5 i ≤ 16) (p n : Int) (hp : 0 ≤ p ∧ 0 ≤ n ∧ n < 4000 ∧ p + n ≤ (ln src : Int)) (hln : ln src < 4000) : Ct E yX9_find cX9_find 5 (some .int) 1 [zr E 3, zr E src, zi p, zi n] M (pP M (fun z => (z = -1 ∧ ∀ i, 0 ≤ i → i < M 3 5 → ¬ (M 5 i = n ∧ wAt M 4 5 16 i src p)) ∨ (0 ≤ z ∧ z < M 3 5 ∧ (M 5 z = n ∧ wAt M 4 5 16 z src p) ∧ ∀ i, 0 ≤ i → i < z → ¬ (M 5 i = n ∧ wAt M 4 5 16 i src p)))) := by
  refine Ct.of (own := RX9) (lv0 := [some (zr E 3), some (zr E src), some (zi p), some (zi n), none]) (by decide) rfl (Nat.le_of_ble_eq_true rfl) rfl (fun κ C => ?_)
  have L3 : ∀ (n9 : Nat) (i : Int) (hi : 0 ≤ i ∧ i ≤ M 3 5) (hall : ∀ j, 0 ≤ j → j < i → ¬ (M 5 j = n ∧ wAt M 4 5 16 j src p)) (hm : (M 3 5 - i).toNat < n9), Gm E κ (pP M (fun z => (z = -1 ∧ ∀ i, 0 ≤ i → i < M 3 5 → ¬ (M 5 i = n ∧ wAt M 4 5 16 i src p)) ∨ (0 ≤ z ∧ z < M 3 5 ∧ (M 5 z = n ∧ wAt M 4 5 16 z src p) ∧ ∀ i, 0 ≤ i → i < z → ¬ (M 5 i = n ∧ wAt M 4 5 16 i src p)))) 5 3 [some (zr E 3), some (zr E src), some (zi p), some (zi n), some (zi i)] [] M := by
    intro n9
    induction n9 with
    | zero => intro i  hi hall hm; exact absurd hm (Nat.not_lt_zero _)
    | succ n9 ih3 =>
      intro i  hi hall hm
      have L37 : ∀  (hno : ¬ (M 5 i = n ∧ wAt M 4 5 16 i src p)) (hlt : i < M 3 5), Gm E κ (pP M (fun z => (z = -1 ∧ ∀ i, 0 ≤ i → i < M 3 5 → ¬ (M 5 i = n ∧ wAt M 4 5 16 i src p)) ∨ (0 ≤ z ∧ z < M 3 5 ∧ (M 5 z = n ∧ wAt M 4 5 16 z src p) ∧ ∀ i, 0 ≤ i → i < z → ¬ (M 5 i = n ∧ wAt M 4 5 16 i src p)))) 5 37 [some (zr E 3), some (zr E src), some (zi p), some (zi n), some (zi i)] [] M := by
        intro   hno hlt
        refine s_iinc (lv' := [_, _, _, _, _]) C dX9_find_37 rfl (by decide) rfl rfl rfl ?_
        refine s_goto (tgt := 3) C dX9_find_40 (by decide) ?_
        exact ih3 _  (by first | assumption | omega) (fun j h1 h2 => by rcases Int.lt_or_eq_of_le (Int.lt_add_one_iff.mp h2) with h | rfl; exact hall j h1 h; exact hno) (by omega)
      refine s_iload C dX9_find_3 rfl ?_
      refine s_aload_n C dX9_find_5 rfl ?_
      refine s_geti (k := 5) (j := 5) C dX9_find_6 fl_X9_28 (by decide) rfl (by decide) rfl (rfl) (fun r6 => ?_)
      refine s_icmp_ge (tgt := 43) C dX9_find_9 (by decide) (by omega) (by omega) (fun c9 => ?_) (fun c9 => ?_)
      · skip
        refine s_iconst C dX9_find_43 ?_
        exact s_ireturn C dX9_find_44 (⟨_, rfl, rfl, Or.inl ⟨rfl, fun j h1 h2 => hall j h1 (by omega)⟩⟩)
      · skip
        have hTi := hT i hi.1 (by omega)
        refine s_aload_n C dX9_find_12 rfl ?_
        refine s_getr (k := 3) (b := 5) C dX9_find_13 fl_X9_22 (by decide) rfl (by decide) rfl ?_
        refine s_iload C dX9_find_16 rfl ?_
        refine s_iaload (n := 60) C dX9_find_18 (by decide) rfl rfl (by omega) (by omega) (by omega) (rfl) (fun r18 => ?_)
        refine s_iload_n C dX9_find_19 rfl ?_
        refine s_icmp_ne (tgt := 37) C dX9_find_20 (by decide) (by omega) (by omega) (fun c20 => ?_) (fun c20 => ?_)
        · skip
          exact L37   (fun q => c20 q.1) (by first | assumption | omega)
        · skip
          refine s_aload_n C dX9_find_23 rfl ?_
          refine s_iload C dX9_find_24 rfl ?_
          refine s_aload_n C dX9_find_26 rfl ?_
          refine s_iload_n C dX9_find_27 rfl ?_
          refine s_callV3 C dX9_find_28 cy_X9_isAt cv_X9_isAt lk_X9_31 (ct_X9_isAt_3 E src hs M h0 h1 i p (by omega) hTi (by omega) hln) (by decide) (by decide) (by first | decide | (decide)) rfl (Nat.le_of_ble_eq_true rfl) (k_P (fun z28 q28 => ?_))
          refine s_if_eq (tgt := 37) C dX9_find_31 (by decide) (by rcases q28 with q | q <;> omega) (fun c31 => ?_) (fun c31 => ?_)
          · skip
            exact L37   (fun q => by rcases q28 with ⟨q1, _⟩ | ⟨_, q2⟩; omega; exact q2 q.2) (by first | assumption | omega)
          · skip
            refine s_iload C dX9_find_34 rfl ?_
            exact s_ireturn C dX9_find_36 (⟨_, rfl, rfl, Or.inr ⟨hi.1, by omega, ⟨c20, by rcases q28 with ⟨_, q2⟩ | ⟨q1, _⟩; exact q2; exact absurd q1 c31⟩, hall⟩⟩)
  refine s_iconst C dX9_find_0 ?_
  refine s_istore (lv' := [_, _, _, _, _]) C dX9_find_1 (by decide) rfl rfl ?_
  exact L3 _ _  (by first | assumption | omega) (fun j h1 h2 => by omega) (Nat.lt_succ_self _)

set_option maxRecDepth 20000 in
set_option maxHeartbeats 4000000 in
theorem ct_X9_isFull_7 (E : Ev) (M : Mm) (h0 : M 7 0 = 30) (h1 : M 7 1 = 16)  : Ct E yX9_isFull cX9_isFull 1 (some .boolean) 0 [zr E 7] M (pP M (fun z => Bz z (30 ≤ M 7 5))) := by
  refine Ct.of (own := RX9) (lv0 := [some (zr E 7)]) (by decide) rfl (Nat.le_of_ble_eq_true rfl) rfl (fun κ C => ?_)
  refine s_aload_n C dX9_isFull_0 rfl ?_
  refine s_geti (k := 5) (j := 5) C dX9_isFull_1 fl_X9_28 (by decide) rfl (by decide) rfl (rfl) (fun r1 => ?_)
  refine s_aload_n C dX9_isFull_4 rfl ?_
  refine s_geti (k := 0) (j := 0) (z := 30) C dX9_isFull_5 fl_X9_9 (by decide) rfl (by decide) rfl (h0) (fun r5 => ?_)
  refine s_icmp_lt (tgt := 15) C dX9_isFull_8 (by decide) (by omega) (by omega) (fun c8 => ?_) (fun c8 => ?_)
  · skip
    refine s_iconst C dX9_isFull_15 ?_
    exact s_zreturn C dX9_isFull_16 (by decide) (⟨_, rfl, rfl, by first | exact Bz.t (by omega) | exact Bz.f (by omega)⟩)
  · skip
    refine s_iconst C dX9_isFull_11 ?_
    refine s_goto (tgt := 16) C dX9_isFull_12 (by decide) ?_
    exact s_zreturn C dX9_isFull_16 (by decide) (⟨_, rfl, rfl, by first | exact Bz.t (by omega) | exact Bz.f (by omega)⟩)

set_option maxRecDepth 20000 in
set_option maxHeartbeats 4000000 in
theorem ct_X9_isAt_7 (E : Ev) (src : Nat) (hs : src < NID ∧ kd src = 20) (M : Mm) (h0 : M 7 0 = 30) (h1 : M 7 1 = 16) (i p : Int) (hi : 0 ≤ i ∧ i < 30) (hl : 0 ≤ M 9 i ∧ M 9 i ≤ 16) (hp : 0 ≤ p ∧ p + M 9 i ≤ (ln src : Int)) (hln : ln src < 4000) : Ct E yX9_isAt cX9_isAt 6 (some .boolean) 0 [zr E 7, zi i, zr E src, zi p] M (pP M (fun z => Bz z (wAt M 8 9 16 i src p))) := by
  refine Ct.of (own := RX9) (lv0 := [some (zr E 7), some (zi i), some (zr E src), some (zi p), none, none]) (by decide) rfl (Nat.le_of_ble_eq_true rfl) rfl (fun κ C => ?_)
  have L11 : ∀ (n9 : Nat) (k : Int) (hk : 0 ≤ k ∧ k ≤ M 9 i) (hall : ∀ j, 0 ≤ j → j < k → M 8 (i * 16 + j) = M src (p + j)) (hm : (M 9 i - k).toNat < n9), Gm E κ (pP M (fun z => Bz z (wAt M 8 9 16 i src p))) 6 11 [some (zr E 7), some (zi i), some (zr E src), some (zi p), some (zi (i * 16)), some (zi k)] [] M := by
    intro n9
    induction n9 with
    | zero => intro k  hk hall hm; exact absurd hm (Nat.not_lt_zero _)
    | succ n9 ih11 =>
      intro k  hk hall hm
      refine s_iload C dX9_isAt_11 rfl ?_
      refine s_aload_n C dX9_isAt_13 rfl ?_
      refine s_getr (k := 3) (b := 9) C dX9_isAt_14 fl_X9_22 (by decide) rfl (by decide) rfl ?_
      refine s_iload_n C dX9_isAt_17 rfl ?_
      refine s_iaload (n := 30) C dX9_isAt_18 (by decide) rfl rfl (by omega) (by omega) (by omega) (rfl) (fun r18 => ?_)
      refine s_icmp_ge (tgt := 49) C dX9_isAt_19 (by decide) (by omega) (by omega) (fun c19 => ?_) (fun c19 => ?_)
      · skip
        refine s_iconst C dX9_isAt_49 ?_
        exact s_zreturn C dX9_isAt_50 (by decide) (⟨_, rfl, rfl, Bz.t (fun j h1 h2 => hall j h1 (by omega))⟩)
      · skip
        refine s_aload_n C dX9_isAt_22 rfl ?_
        refine s_getr (k := 2) (b := 8) C dX9_isAt_23 fl_X9_18 (by decide) rfl (by decide) rfl ?_
        refine s_iload C dX9_isAt_26 rfl ?_
        refine s_iload C dX9_isAt_28 rfl ?_
        refine s_iadd C dX9_isAt_30 ?_
        refine s_iaload (n := 480) C dX9_isAt_31 (by decide) rfl rfl (by omega) (by omega) (by omega) (rfl) (fun r31 => ?_)
        refine s_aload_n C dX9_isAt_32 rfl ?_
        refine s_iload_n C dX9_isAt_33 rfl ?_
        refine s_iload C dX9_isAt_34 rfl ?_
        refine s_iadd C dX9_isAt_36 ?_
        refine s_iaload C dX9_isAt_37 (by first | exact hs.1 | exact hs.2) (by first | exact hs.1 | exact hs.2) rfl (by omega) (by omega) (by omega) (rfl) (fun r37 => ?_)
        refine s_icmp_eq (tgt := 43) C dX9_isAt_38 (by decide) (by omega) (by omega) (fun c38 => ?_) (fun c38 => ?_)
        · skip
          refine s_iinc (lv' := [_, _, _, _, _, _]) C dX9_isAt_43 rfl (by decide) rfl rfl rfl ?_
          refine s_goto (tgt := 11) C dX9_isAt_46 (by decide) ?_
          exact ih11 _  (by first | assumption | omega) (fun j h1 h2 => by rcases Int.lt_or_eq_of_le (Int.lt_add_one_iff.mp h2) with h | rfl; exact hall j h1 h; exact c38) (by omega)
        · skip
          refine s_iconst C dX9_isAt_41 ?_
          exact s_zreturn C dX9_isAt_42 (by decide) (⟨_, rfl, rfl, Bz.f (fun q => by have := q k (by omega) (by omega); omega)⟩)
  refine s_iload_n C dX9_isAt_0 rfl ?_
  refine s_aload_n C dX9_isAt_1 rfl ?_
  refine s_geti (k := 1) (j := 1) (z := 16) C dX9_isAt_2 fl_X9_15 (by decide) rfl (by decide) rfl (h1) (fun r2 => ?_)
  refine s_imul C dX9_isAt_5 ?_
  refine s_istore (lv' := [_, _, _, _, _, _]) C dX9_isAt_6 (by decide) rfl rfl ?_
  refine s_iconst C dX9_isAt_8 ?_
  refine s_istore (lv' := [_, _, _, _, _, _]) C dX9_isAt_9 (by decide) rfl rfl ?_
  exact L11 _ _  (by first | assumption | omega) (fun j h1 h2 => by omega) (Nat.lt_succ_self _)

set_option maxRecDepth 20000 in
set_option maxHeartbeats 4000000 in
theorem ct_X9_find_7 (E : Ev) (src : Nat) (hs : src < NID ∧ kd src = 20) (M : Mm) (h0 : M 7 0 = 30) (h1 : M 7 1 = 16) (h5 : 0 ≤ M 7 5 ∧ M 7 5 ≤ 30) (hT : ∀ i, 0 ≤ i → i < M 7 5 → 0 ≤ M 9 i ∧ M 9 i ≤ 16) (p n : Int) (hp : 0 ≤ p ∧ 0 ≤ n ∧ n < 4000 ∧ p + n ≤ (ln src : Int)) (hln : ln src < 4000) : Ct E yX9_find cX9_find 5 (some .int) 1 [zr E 7, zr E src, zi p, zi n] M (pP M (fun z => (z = -1 ∧ ∀ i, 0 ≤ i → i < M 7 5 → ¬ (M 9 i = n ∧ wAt M 8 9 16 i src p)) ∨ (0 ≤ z ∧ z < M 7 5 ∧ (M 9 z = n ∧ wAt M 8 9 16 z src p) ∧ ∀ i, 0 ≤ i → i < z → ¬ (M 9 i = n ∧ wAt M 8 9 16 i src p)))) := by
  refine Ct.of (own := RX9) (lv0 := [some (zr E 7), some (zr E src), some (zi p), some (zi n), none]) (by decide) rfl (Nat.le_of_ble_eq_true rfl) rfl (fun κ C => ?_)
  have L3 : ∀ (n9 : Nat) (i : Int) (hi : 0 ≤ i ∧ i ≤ M 7 5) (hall : ∀ j, 0 ≤ j → j < i → ¬ (M 9 j = n ∧ wAt M 8 9 16 j src p)) (hm : (M 7 5 - i).toNat < n9), Gm E κ (pP M (fun z => (z = -1 ∧ ∀ i, 0 ≤ i → i < M 7 5 → ¬ (M 9 i = n ∧ wAt M 8 9 16 i src p)) ∨ (0 ≤ z ∧ z < M 7 5 ∧ (M 9 z = n ∧ wAt M 8 9 16 z src p) ∧ ∀ i, 0 ≤ i → i < z → ¬ (M 9 i = n ∧ wAt M 8 9 16 i src p)))) 5 3 [some (zr E 7), some (zr E src), some (zi p), some (zi n), some (zi i)] [] M := by
    intro n9
    induction n9 with
    | zero => intro i  hi hall hm; exact absurd hm (Nat.not_lt_zero _)
    | succ n9 ih3 =>
      intro i  hi hall hm
      have L37 : ∀  (hno : ¬ (M 9 i = n ∧ wAt M 8 9 16 i src p)) (hlt : i < M 7 5), Gm E κ (pP M (fun z => (z = -1 ∧ ∀ i, 0 ≤ i → i < M 7 5 → ¬ (M 9 i = n ∧ wAt M 8 9 16 i src p)) ∨ (0 ≤ z ∧ z < M 7 5 ∧ (M 9 z = n ∧ wAt M 8 9 16 z src p) ∧ ∀ i, 0 ≤ i → i < z → ¬ (M 9 i = n ∧ wAt M 8 9 16 i src p)))) 5 37 [some (zr E 7), some (zr E src), some (zi p), some (zi n), some (zi i)] [] M := by
        intro   hno hlt
        refine s_iinc (lv' := [_, _, _, _, _]) C dX9_find_37 rfl (by decide) rfl rfl rfl ?_
        refine s_goto (tgt := 3) C dX9_find_40 (by decide) ?_
        exact ih3 _  (by first | assumption | omega) (fun j h1 h2 => by rcases Int.lt_or_eq_of_le (Int.lt_add_one_iff.mp h2) with h | rfl; exact hall j h1 h; exact hno) (by omega)
      refine s_iload C dX9_find_3 rfl ?_
      refine s_aload_n C dX9_find_5 rfl ?_
      refine s_geti (k := 5) (j := 5) C dX9_find_6 fl_X9_28 (by decide) rfl (by decide) rfl (rfl) (fun r6 => ?_)
      refine s_icmp_ge (tgt := 43) C dX9_find_9 (by decide) (by omega) (by omega) (fun c9 => ?_) (fun c9 => ?_)
      · skip
        refine s_iconst C dX9_find_43 ?_
        exact s_ireturn C dX9_find_44 (⟨_, rfl, rfl, Or.inl ⟨rfl, fun j h1 h2 => hall j h1 (by omega)⟩⟩)
      · skip
        have hTi := hT i hi.1 (by omega)
        refine s_aload_n C dX9_find_12 rfl ?_
        refine s_getr (k := 3) (b := 9) C dX9_find_13 fl_X9_22 (by decide) rfl (by decide) rfl ?_
        refine s_iload C dX9_find_16 rfl ?_
        refine s_iaload (n := 30) C dX9_find_18 (by decide) rfl rfl (by omega) (by omega) (by omega) (rfl) (fun r18 => ?_)
        refine s_iload_n C dX9_find_19 rfl ?_
        refine s_icmp_ne (tgt := 37) C dX9_find_20 (by decide) (by omega) (by omega) (fun c20 => ?_) (fun c20 => ?_)
        · skip
          exact L37   (fun q => c20 q.1) (by first | assumption | omega)
        · skip
          refine s_aload_n C dX9_find_23 rfl ?_
          refine s_iload C dX9_find_24 rfl ?_
          refine s_aload_n C dX9_find_26 rfl ?_
          refine s_iload_n C dX9_find_27 rfl ?_
          refine s_callV3 C dX9_find_28 cy_X9_isAt cv_X9_isAt lk_X9_31 (ct_X9_isAt_7 E src hs M h0 h1 i p (by omega) hTi (by omega) hln) (by decide) (by decide) (by first | decide | (decide)) rfl (Nat.le_of_ble_eq_true rfl) (k_P (fun z28 q28 => ?_))
          refine s_if_eq (tgt := 37) C dX9_find_31 (by decide) (by rcases q28 with q | q <;> omega) (fun c31 => ?_) (fun c31 => ?_)
          · skip
            exact L37   (fun q => by rcases q28 with ⟨q1, _⟩ | ⟨_, q2⟩; omega; exact q2 q.2) (by first | assumption | omega)
          · skip
            refine s_iload C dX9_find_34 rfl ?_
            exact s_ireturn C dX9_find_36 (⟨_, rfl, rfl, Or.inr ⟨hi.1, by omega, ⟨c20, by rcases q28 with ⟨_, q2⟩ | ⟨q1, _⟩; exact q2; exact absurd q1 c31⟩, hall⟩⟩)
  refine s_iconst C dX9_find_0 ?_
  refine s_istore (lv' := [_, _, _, _, _]) C dX9_find_1 (by decide) rfl rfl ?_
  exact L3 _ _  (by first | assumption | omega) (fun j h1 h2 => by omega) (Nat.lt_succ_self _)

set_option maxRecDepth 20000 in
set_option maxHeartbeats 4000000 in
theorem ct_X9_isFull_11 (E : Ev) (M : Mm) (h0 : M 11 0 = 10) (h1 : M 11 1 = 6)  : Ct E yX9_isFull cX9_isFull 1 (some .boolean) 0 [zr E 11] M (pP M (fun z => Bz z (10 ≤ M 11 5))) := by
  refine Ct.of (own := RX9) (lv0 := [some (zr E 11)]) (by decide) rfl (Nat.le_of_ble_eq_true rfl) rfl (fun κ C => ?_)
  refine s_aload_n C dX9_isFull_0 rfl ?_
  refine s_geti (k := 5) (j := 5) C dX9_isFull_1 fl_X9_28 (by decide) rfl (by decide) rfl (rfl) (fun r1 => ?_)
  refine s_aload_n C dX9_isFull_4 rfl ?_
  refine s_geti (k := 0) (j := 0) (z := 10) C dX9_isFull_5 fl_X9_9 (by decide) rfl (by decide) rfl (h0) (fun r5 => ?_)
  refine s_icmp_lt (tgt := 15) C dX9_isFull_8 (by decide) (by omega) (by omega) (fun c8 => ?_) (fun c8 => ?_)
  · skip
    refine s_iconst C dX9_isFull_15 ?_
    exact s_zreturn C dX9_isFull_16 (by decide) (⟨_, rfl, rfl, by first | exact Bz.t (by omega) | exact Bz.f (by omega)⟩)
  · skip
    refine s_iconst C dX9_isFull_11 ?_
    refine s_goto (tgt := 16) C dX9_isFull_12 (by decide) ?_
    exact s_zreturn C dX9_isFull_16 (by decide) (⟨_, rfl, rfl, by first | exact Bz.t (by omega) | exact Bz.f (by omega)⟩)

set_option maxRecDepth 20000 in
set_option maxHeartbeats 4000000 in
theorem ct_X9_isAt_11 (E : Ev) (src : Nat) (hs : src < NID ∧ kd src = 20) (M : Mm) (h0 : M 11 0 = 10) (h1 : M 11 1 = 6) (i p : Int) (hi : 0 ≤ i ∧ i < 10) (hl : 0 ≤ M 13 i ∧ M 13 i ≤ 6) (hp : 0 ≤ p ∧ p + M 13 i ≤ (ln src : Int)) (hln : ln src < 4000) : Ct E yX9_isAt cX9_isAt 6 (some .boolean) 0 [zr E 11, zi i, zr E src, zi p] M (pP M (fun z => Bz z (wAt M 12 13 6 i src p))) := by
  refine Ct.of (own := RX9) (lv0 := [some (zr E 11), some (zi i), some (zr E src), some (zi p), none, none]) (by decide) rfl (Nat.le_of_ble_eq_true rfl) rfl (fun κ C => ?_)
  have L11 : ∀ (n9 : Nat) (k : Int) (hk : 0 ≤ k ∧ k ≤ M 13 i) (hall : ∀ j, 0 ≤ j → j < k → M 12 (i * 6 + j) = M src (p + j)) (hm : (M 13 i - k).toNat < n9), Gm E κ (pP M (fun z => Bz z (wAt M 12 13 6 i src p))) 6 11 [some (zr E 11), some (zi i), some (zr E src), some (zi p), some (zi (i * 6)), some (zi k)] [] M := by
    intro n9
    induction n9 with
    | zero => intro k  hk hall hm; exact absurd hm (Nat.not_lt_zero _)
    | succ n9 ih11 =>
      intro k  hk hall hm
      refine s_iload C dX9_isAt_11 rfl ?_
      refine s_aload_n C dX9_isAt_13 rfl ?_
      refine s_getr (k := 3) (b := 13) C dX9_isAt_14 fl_X9_22 (by decide) rfl (by decide) rfl ?_
      refine s_iload_n C dX9_isAt_17 rfl ?_
      refine s_iaload (n := 10) C dX9_isAt_18 (by decide) rfl rfl (by omega) (by omega) (by omega) (rfl) (fun r18 => ?_)
      refine s_icmp_ge (tgt := 49) C dX9_isAt_19 (by decide) (by omega) (by omega) (fun c19 => ?_) (fun c19 => ?_)
      · skip
        refine s_iconst C dX9_isAt_49 ?_
        exact s_zreturn C dX9_isAt_50 (by decide) (⟨_, rfl, rfl, Bz.t (fun j h1 h2 => hall j h1 (by omega))⟩)
      · skip
        refine s_aload_n C dX9_isAt_22 rfl ?_
        refine s_getr (k := 2) (b := 12) C dX9_isAt_23 fl_X9_18 (by decide) rfl (by decide) rfl ?_
        refine s_iload C dX9_isAt_26 rfl ?_
        refine s_iload C dX9_isAt_28 rfl ?_
        refine s_iadd C dX9_isAt_30 ?_
        refine s_iaload (n := 60) C dX9_isAt_31 (by decide) rfl rfl (by omega) (by omega) (by omega) (rfl) (fun r31 => ?_)
        refine s_aload_n C dX9_isAt_32 rfl ?_
        refine s_iload_n C dX9_isAt_33 rfl ?_
        refine s_iload C dX9_isAt_34 rfl ?_
        refine s_iadd C dX9_isAt_36 ?_
        refine s_iaload C dX9_isAt_37 (by first | exact hs.1 | exact hs.2) (by first | exact hs.1 | exact hs.2) rfl (by omega) (by omega) (by omega) (rfl) (fun r37 => ?_)
        refine s_icmp_eq (tgt := 43) C dX9_isAt_38 (by decide) (by omega) (by omega) (fun c38 => ?_) (fun c38 => ?_)
        · skip
          refine s_iinc (lv' := [_, _, _, _, _, _]) C dX9_isAt_43 rfl (by decide) rfl rfl rfl ?_
          refine s_goto (tgt := 11) C dX9_isAt_46 (by decide) ?_
          exact ih11 _  (by first | assumption | omega) (fun j h1 h2 => by rcases Int.lt_or_eq_of_le (Int.lt_add_one_iff.mp h2) with h | rfl; exact hall j h1 h; exact c38) (by omega)
        · skip
          refine s_iconst C dX9_isAt_41 ?_
          exact s_zreturn C dX9_isAt_42 (by decide) (⟨_, rfl, rfl, Bz.f (fun q => by have := q k (by omega) (by omega); omega)⟩)
  refine s_iload_n C dX9_isAt_0 rfl ?_
  refine s_aload_n C dX9_isAt_1 rfl ?_
  refine s_geti (k := 1) (j := 1) (z := 6) C dX9_isAt_2 fl_X9_15 (by decide) rfl (by decide) rfl (h1) (fun r2 => ?_)
  refine s_imul C dX9_isAt_5 ?_
  refine s_istore (lv' := [_, _, _, _, _, _]) C dX9_isAt_6 (by decide) rfl rfl ?_
  refine s_iconst C dX9_isAt_8 ?_
  refine s_istore (lv' := [_, _, _, _, _, _]) C dX9_isAt_9 (by decide) rfl rfl ?_
  exact L11 _ _  (by first | assumption | omega) (fun j h1 h2 => by omega) (Nat.lt_succ_self _)

set_option maxRecDepth 20000 in
set_option maxHeartbeats 4000000 in
theorem ct_X9_find_11 (E : Ev) (src : Nat) (hs : src < NID ∧ kd src = 20) (M : Mm) (h0 : M 11 0 = 10) (h1 : M 11 1 = 6) (h5 : 0 ≤ M 11 5 ∧ M 11 5 ≤ 10) (hT : ∀ i, 0 ≤ i → i < M 11 5 → 0 ≤ M 13 i ∧ M 13 i ≤ 6) (p n : Int) (hp : 0 ≤ p ∧ 0 ≤ n ∧ n < 4000 ∧ p + n ≤ (ln src : Int)) (hln : ln src < 4000) : Ct E yX9_find cX9_find 5 (some .int) 1 [zr E 11, zr E src, zi p, zi n] M (pP M (fun z => (z = -1 ∧ ∀ i, 0 ≤ i → i < M 11 5 → ¬ (M 13 i = n ∧ wAt M 12 13 6 i src p)) ∨ (0 ≤ z ∧ z < M 11 5 ∧ (M 13 z = n ∧ wAt M 12 13 6 z src p) ∧ ∀ i, 0 ≤ i → i < z → ¬ (M 13 i = n ∧ wAt M 12 13 6 i src p)))) := by
  refine Ct.of (own := RX9) (lv0 := [some (zr E 11), some (zr E src), some (zi p), some (zi n), none]) (by decide) rfl (Nat.le_of_ble_eq_true rfl) rfl (fun κ C => ?_)
  have L3 : ∀ (n9 : Nat) (i : Int) (hi : 0 ≤ i ∧ i ≤ M 11 5) (hall : ∀ j, 0 ≤ j → j < i → ¬ (M 13 j = n ∧ wAt M 12 13 6 j src p)) (hm : (M 11 5 - i).toNat < n9), Gm E κ (pP M (fun z => (z = -1 ∧ ∀ i, 0 ≤ i → i < M 11 5 → ¬ (M 13 i = n ∧ wAt M 12 13 6 i src p)) ∨ (0 ≤ z ∧ z < M 11 5 ∧ (M 13 z = n ∧ wAt M 12 13 6 z src p) ∧ ∀ i, 0 ≤ i → i < z → ¬ (M 13 i = n ∧ wAt M 12 13 6 i src p)))) 5 3 [some (zr E 11), some (zr E src), some (zi p), some (zi n), some (zi i)] [] M := by
    intro n9
    induction n9 with
    | zero => intro i  hi hall hm; exact absurd hm (Nat.not_lt_zero _)
    | succ n9 ih3 =>
      intro i  hi hall hm
      have L37 : ∀  (hno : ¬ (M 13 i = n ∧ wAt M 12 13 6 i src p)) (hlt : i < M 11 5), Gm E κ (pP M (fun z => (z = -1 ∧ ∀ i, 0 ≤ i → i < M 11 5 → ¬ (M 13 i = n ∧ wAt M 12 13 6 i src p)) ∨ (0 ≤ z ∧ z < M 11 5 ∧ (M 13 z = n ∧ wAt M 12 13 6 z src p) ∧ ∀ i, 0 ≤ i → i < z → ¬ (M 13 i = n ∧ wAt M 12 13 6 i src p)))) 5 37 [some (zr E 11), some (zr E src), some (zi p), some (zi n), some (zi i)] [] M := by
        intro   hno hlt
        refine s_iinc (lv' := [_, _, _, _, _]) C dX9_find_37 rfl (by decide) rfl rfl rfl ?_
        refine s_goto (tgt := 3) C dX9_find_40 (by decide) ?_
        exact ih3 _  (by first | assumption | omega) (fun j h1 h2 => by rcases Int.lt_or_eq_of_le (Int.lt_add_one_iff.mp h2) with h | rfl; exact hall j h1 h; exact hno) (by omega)
      refine s_iload C dX9_find_3 rfl ?_
      refine s_aload_n C dX9_find_5 rfl ?_
      refine s_geti (k := 5) (j := 5) C dX9_find_6 fl_X9_28 (by decide) rfl (by decide) rfl (rfl) (fun r6 => ?_)
      refine s_icmp_ge (tgt := 43) C dX9_find_9 (by decide) (by omega) (by omega) (fun c9 => ?_) (fun c9 => ?_)
      · skip
        refine s_iconst C dX9_find_43 ?_
        exact s_ireturn C dX9_find_44 (⟨_, rfl, rfl, Or.inl ⟨rfl, fun j h1 h2 => hall j h1 (by omega)⟩⟩)
      · skip
        have hTi := hT i hi.1 (by omega)
        refine s_aload_n C dX9_find_12 rfl ?_
        refine s_getr (k := 3) (b := 13) C dX9_find_13 fl_X9_22 (by decide) rfl (by decide) rfl ?_
        refine s_iload C dX9_find_16 rfl ?_
        refine s_iaload (n := 10) C dX9_find_18 (by decide) rfl rfl (by omega) (by omega) (by omega) (rfl) (fun r18 => ?_)
        refine s_iload_n C dX9_find_19 rfl ?_
        refine s_icmp_ne (tgt := 37) C dX9_find_20 (by decide) (by omega) (by omega) (fun c20 => ?_) (fun c20 => ?_)
        · skip
          exact L37   (fun q => c20 q.1) (by first | assumption | omega)
        · skip
          refine s_aload_n C dX9_find_23 rfl ?_
          refine s_iload C dX9_find_24 rfl ?_
          refine s_aload_n C dX9_find_26 rfl ?_
          refine s_iload_n C dX9_find_27 rfl ?_
          refine s_callV3 C dX9_find_28 cy_X9_isAt cv_X9_isAt lk_X9_31 (ct_X9_isAt_11 E src hs M h0 h1 i p (by omega) hTi (by omega) hln) (by decide) (by decide) (by first | decide | (decide)) rfl (Nat.le_of_ble_eq_true rfl) (k_P (fun z28 q28 => ?_))
          refine s_if_eq (tgt := 37) C dX9_find_31 (by decide) (by rcases q28 with q | q <;> omega) (fun c31 => ?_) (fun c31 => ?_)
          · skip
            exact L37   (fun q => by rcases q28 with ⟨q1, _⟩ | ⟨_, q2⟩; omega; exact q2 q.2) (by first | assumption | omega)
          · skip
            refine s_iload C dX9_find_34 rfl ?_
            exact s_ireturn C dX9_find_36 (⟨_, rfl, rfl, Or.inr ⟨hi.1, by omega, ⟨c20, by rcases q28 with ⟨_, q2⟩ | ⟨q1, _⟩; exact q2; exact absurd q1 c31⟩, hall⟩⟩)
  refine s_iconst C dX9_find_0 ?_
  refine s_istore (lv' := [_, _, _, _, _]) C dX9_find_1 (by decide) rfl rfl ?_
  exact L3 _ _  (by first | assumption | omega) (fun j h1 h2 => by omega) (Nat.lt_succ_self _)
