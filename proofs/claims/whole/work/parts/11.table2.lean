/-- cells that are the same but for those of a list -/
def Sm (M M' : Mm) (l : List Nat) : Prop := ∀ a, a ∉ l → M' a = M a
theorem Sm.rf (M : Mm) (l : List Nat) : Sm M M l := fun _ _ => rfl
theorem Sm.put {M M' : Mm} {l : List Nat} (h : Sm M M' l) {a : Nat} {k x : Int} (ha : a ∈ l) : Sm M (mput M' a k x) l := fun b hb => by
  have hne : b ≠ a := fun q => hb (q ▸ ha)
  rw [mput_ne hne]; exact h b hb
theorem Sm.tr {M M1 M2 : Mm} {l1 l2 l : List Nat} (h1 : Sm M M1 l1) (h2 : Sm M1 M2 l2) (s1 : ∀ a ∈ l1, a ∈ l) (s2 : ∀ a ∈ l2, a ∈ l) : Sm M M2 l := fun b hb => by
  rw [h2 b (fun q => hb (s2 b q)), h1 b (fun q => hb (s1 b q))]
/-- the first n places of a hold v -/
def mfl (M : Mm) (a : Nat) (n v : Int) : Mm := fun b => if b = a then (fun k => if 0 ≤ k ∧ k < n then v else M a k) else M b
theorem mfl_ne {M : Mm} {a b : Nat} {n v : Int} (h : b ≠ a) : mfl M a n v b = M b := by simp [mfl, h]
theorem mfl_at {M : Mm} {a : Nat} {n v k : Int} : mfl M a n v a k = if 0 ≤ k ∧ k < n then v else M a k := by simp [mfl]
theorem mfl_0 (M : Mm) (a : Nat) (v : Int) : mfl M a 0 v = M := by
  funext b k
  by_cases hb : b = a
  · subst hb; rw [mfl_at, if_neg (by omega)]
  · rw [mfl_ne hb]
theorem mfl_s (M : Mm) (a : Nat) (n v : Int) (hn : 0 ≤ n) : mput (mfl M a n v) a n v = mfl M a (n + 1) v := by
  funext b k
  by_cases hb : b = a
  · subst hb
    rw [mput_at, mfl_at, mfl_at]
    by_cases hk : k = n
    · rw [if_pos hk, if_pos (by omega)]
    · rw [if_neg hk]
      by_cases c : 0 ≤ k ∧ k < n
      · rw [if_pos c, if_pos (by omega)]
      · rw [if_neg c, if_neg (by omega)]
  · rw [mput_ne hb, mfl_ne hb, mfl_ne hb]
/-- an ending that a word of n bytes (from p on) can lose -/
def eFit (M : Mm) (b l : Nat) (L i : Int) (src : Nat) (p n : Int) : Prop := 3 ≤ n - M l i ∧ wAt M b l L i src (p + (n - M l i))
def eLost (M : Mm) (b l : Nat) (L m : Int) (src : Nat) (p n lost : Int) : Prop := 0 ≤ lost ∧ (lost = 0 ∨ ∃ i, 0 ≤ i ∧ i < m ∧ M l i = lost ∧ eFit M b l L i src p n) ∧ ∀ i, 0 ≤ i → i < m → eFit M b l L i src p n → M l i ≤ lost

set_option maxRecDepth 20000 in
set_option maxHeartbeats 4000000 in
theorem ct_X9_add_3 (E : Ev) (M : Mm) (h0 : M 3 0 = 60) (h1 : M 3 1 = 16) (src : Nat) (hs : src < NID ∧ kd src = 20 ∧ src = 2) (n kind : Int) (h5 : 0 ≤ M 3 5 ∧ M 3 5 < 60) (hn : 0 ≤ n ∧ n ≤ 16) (hk : rg kind) : Ct E yX9_add cX9_add 4 none 1 [zr E 3, zr E 2, zi n, zi kind] M (pV (fun M' => M' = mput (mput (mput (mcopy M 2 0 4 (M 3 5 * 16) n) 5 (M 3 5) n) 6 (M 3 5) kind) 3 5 (M 3 5 + 1))) := by
  refine Ct.of (own := RX9) (lv0 := [some (zr E 3), some (zr E 2), some (zi n), some (zi kind)]) (by decide) rfl (Nat.le_of_ble_eq_true rfl) rfl (fun κ C => ?_)
  refine s_aload_n C dX9_add_0 rfl ?_
  refine s_geti (k := 5) (j := 5) C dX9_add_1 fl_X9_28 (by decide) rfl (by decide) rfl (rfl) (fun r1 => ?_)
  refine s_aload_n C dX9_add_4 rfl ?_
  refine s_geti (k := 0) (j := 0) (z := 60) C dX9_add_5 fl_X9_9 (by decide) rfl (by decide) rfl (h0) (fun r5 => ?_)
  refine s_icmp_ge (tgt := 68) C dX9_add_8 (by decide) (by omega) (by omega) (fun c8 => ?_) (fun c8 => ?_)
  · skip
    omega
  · skip
    refine s_iload_n C dX9_add_11 rfl ?_
    refine s_aload_n C dX9_add_12 rfl ?_
    refine s_geti (k := 1) (j := 1) (z := 16) C dX9_add_13 fl_X9_15 (by decide) rfl (by decide) rfl (h1) (fun r13 => ?_)
    refine s_icmp_gt (tgt := 68) C dX9_add_16 (by decide) (by omega) (by omega) (fun c16 => ?_) (fun c16 => ?_)
    · skip
      omega
    · skip
      refine s_aload_n C dX9_add_19 rfl ?_
      refine s_iconst C dX9_add_20 ?_
      refine s_aload_n C dX9_add_21 rfl ?_
      refine s_getr (k := 2) (b := 4) C dX9_add_22 fl_X9_18 (by decide) rfl (by decide) rfl ?_
      refine s_aload_n C dX9_add_25 rfl ?_
      refine s_geti (k := 5) (j := 5) C dX9_add_26 fl_X9_28 (by decide) rfl (by decide) rfl (rfl) (fun r26 => ?_)
      refine s_aload_n C dX9_add_29 rfl ?_
      refine s_geti (k := 1) (j := 1) (z := 16) C dX9_add_30 fl_X9_15 (by decide) rfl (by decide) rfl (h1) (fun r30 => ?_)
      refine s_imul C dX9_add_33 ?_
      refine s_iload_n C dX9_add_34 rfl ?_
      refine s_copy (n0 := 3000) (n1 := 960) C dX9_add_35 lm_X9_35 jn_arraycopy js_arraycopy ji_System (by decide) (Nat.le_of_ble_eq_true rfl) (by decide) rfl rfl (by decide) rfl rfl (by omega) (by omega) (by omega) (by omega) (by omega) (by decide) (by decide) ?_
      refine s_aload_n C dX9_add_38 rfl ?_
      refine s_getr (k := 3) (b := 5) C dX9_add_39 fl_X9_22 (by decide) rfl (by decide) rfl ?_
      refine s_aload_n C dX9_add_42 rfl ?_
      refine s_geti (k := 5) (j := 5) (z := M 3 5) C dX9_add_43 fl_X9_28 (by decide) rfl (by decide) rfl (by simp [mput_ne, mcopy_ne]) (fun r43 => ?_)
      refine s_iload_n C dX9_add_46 rfl ?_
      refine s_iastore (n := 60) C dX9_add_47 (by decide) rfl rfl (by omega) (by omega) (by omega) (by omega) ?_
      refine s_aload_n C dX9_add_48 rfl ?_
      refine s_getr (k := 4) (b := 6) C dX9_add_49 fl_X9_25 (by decide) rfl (by decide) rfl ?_
      refine s_aload_n C dX9_add_52 rfl ?_
      refine s_geti (k := 5) (j := 5) (z := M 3 5) C dX9_add_53 fl_X9_28 (by decide) rfl (by decide) rfl (by simp [mput_ne, mcopy_ne]) (fun r53 => ?_)
      refine s_iload_n C dX9_add_56 rfl ?_
      refine s_iastore (n := 60) C dX9_add_57 (by decide) rfl rfl (by omega) (by omega) (by omega) (by omega) ?_
      refine s_aload_n C dX9_add_58 rfl ?_
      refine s_dup C dX9_add_59 rfl ?_
      refine s_geti (k := 5) (j := 5) (z := M 3 5) C dX9_add_60 fl_X9_28 (by decide) rfl (by decide) rfl (by simp [mput_ne, mcopy_ne]) (fun r60 => ?_)
      refine s_iconst C dX9_add_63 ?_
      refine s_iadd C dX9_add_64 ?_
      refine s_puti (k := 5) (j := 5) C dX9_add_65 fp_X9_28 (by decide) rfl rfl rfl (by omega) ?_
      exact s_return C dX9_add_68 (⟨rfl, rfl⟩)

set_option maxRecDepth 20000 in
set_option maxHeartbeats 4000000 in
theorem ct_X9_drop_3 (E : Ev) (M : Mm) (h0 : M 3 0 = 60) (h1 : M 3 1 = 16) (i : Int) (h5 : 0 ≤ M 3 5 ∧ M 3 5 ≤ 60) (hi : 0 ≤ i ∧ i < M 3 5) : Ct E yX9_drop cX9_drop 2 none 1 [zr E 3, zi i] M (pV (fun M' => M' = mput (mput (mcopy (mput M 3 5 (M 3 5 - 1)) 4 ((M 3 5 - 1) * 16) 4 (i * 16) 16) 5 i (M 5 (M 3 5 - 1))) 6 i (M 6 (M 3 5 - 1)))) := by
  refine Ct.of (own := RX9) (lv0 := [some (zr E 3), some (zi i)]) (by decide) rfl (Nat.le_of_ble_eq_true rfl) rfl (fun κ C => ?_)
  refine s_iload_n C dX9_drop_0 rfl ?_
  refine s_if_lt (tgt := 82) C dX9_drop_1 (by decide) (by omega) (fun c1 => ?_) (fun c1 => ?_)
  · skip
    omega
  · skip
    refine s_iload_n C dX9_drop_4 rfl ?_
    refine s_aload_n C dX9_drop_5 rfl ?_
    refine s_geti (k := 5) (j := 5) C dX9_drop_6 fl_X9_28 (by decide) rfl (by decide) rfl (rfl) (fun r6 => ?_)
    refine s_icmp_ge (tgt := 82) C dX9_drop_9 (by decide) (by omega) (by omega) (fun c9 => ?_) (fun c9 => ?_)
    · skip
      omega
    · skip
      refine s_aload_n C dX9_drop_12 rfl ?_
      refine s_dup C dX9_drop_13 rfl ?_
      refine s_geti (k := 5) (j := 5) C dX9_drop_14 fl_X9_28 (by decide) rfl (by decide) rfl (rfl) (fun r14 => ?_)
      refine s_iconst C dX9_drop_17 ?_
      refine s_isub C dX9_drop_18 ?_
      refine s_puti (k := 5) (j := 5) C dX9_drop_19 fp_X9_28 (by decide) rfl rfl rfl (by omega) ?_
      refine s_aload_n C dX9_drop_22 rfl ?_
      refine s_getr (k := 2) (b := 4) C dX9_drop_23 fl_X9_18 (by decide) rfl (by decide) rfl ?_
      refine s_aload_n C dX9_drop_26 rfl ?_
      refine s_geti (k := 5) (j := 5) (z := (M 3 5 - 1)) C dX9_drop_27 fl_X9_28 (by decide) rfl (by decide) rfl (by simp [mput_ne, mcopy_ne, mput_eq]) (fun r27 => ?_)
      refine s_aload_n C dX9_drop_30 rfl ?_
      refine s_geti (k := 1) (j := 1) (z := 16) C dX9_drop_31 fl_X9_15 (by decide) rfl (by decide) rfl (by rw [mput_nk (by decide)]; exact h1) (fun r31 => ?_)
      refine s_imul C dX9_drop_34 ?_
      refine s_aload_n C dX9_drop_35 rfl ?_
      refine s_getr (k := 2) (b := 4) C dX9_drop_36 fl_X9_18 (by decide) rfl (by decide) rfl ?_
      refine s_iload_n C dX9_drop_39 rfl ?_
      refine s_aload_n C dX9_drop_40 rfl ?_
      refine s_geti (k := 1) (j := 1) (z := 16) C dX9_drop_41 fl_X9_15 (by decide) rfl (by decide) rfl (by rw [mput_nk (by decide)]; exact h1) (fun r41 => ?_)
      refine s_imul C dX9_drop_44 ?_
      refine s_aload_n C dX9_drop_45 rfl ?_
      refine s_geti (k := 1) (j := 1) (z := 16) C dX9_drop_46 fl_X9_15 (by decide) rfl (by decide) rfl (by rw [mput_nk (by decide)]; exact h1) (fun r46 => ?_)
      refine s_copy (n0 := 960) (n1 := 960) C dX9_drop_49 lm_X9_35 jn_arraycopy js_arraycopy ji_System (by decide) (Nat.le_of_ble_eq_true rfl) (by decide) rfl rfl (by decide) rfl rfl (by omega) (by omega) (by omega) (by omega) (by omega) (by decide) (by decide) ?_
      refine s_aload_n C dX9_drop_52 rfl ?_
      refine s_getr (k := 3) (b := 5) C dX9_drop_53 fl_X9_22 (by decide) rfl (by decide) rfl ?_
      refine s_iload_n C dX9_drop_56 rfl ?_
      refine s_aload_n C dX9_drop_57 rfl ?_
      refine s_getr (k := 3) (b := 5) C dX9_drop_58 fl_X9_22 (by decide) rfl (by decide) rfl ?_
      refine s_aload_n C dX9_drop_61 rfl ?_
      refine s_geti (k := 5) (j := 5) (z := (M 3 5 - 1)) C dX9_drop_62 fl_X9_28 (by decide) rfl (by decide) rfl (by simp [mput_ne, mcopy_ne, mput_eq]) (fun r62 => ?_)
      refine s_iaload (n := 60) (z := M 5 (M 3 5 - 1)) C dX9_drop_65 (by decide) rfl rfl (by omega) (by omega) (by omega) (by simp [mput_ne, mcopy_ne]) (fun r65 => ?_)
      refine s_iastore (n := 60) C dX9_drop_66 (by decide) rfl rfl (by omega) (by omega) (by omega) (by omega) ?_
      refine s_aload_n C dX9_drop_67 rfl ?_
      refine s_getr (k := 4) (b := 6) C dX9_drop_68 fl_X9_25 (by decide) rfl (by decide) rfl ?_
      refine s_iload_n C dX9_drop_71 rfl ?_
      refine s_aload_n C dX9_drop_72 rfl ?_
      refine s_getr (k := 4) (b := 6) C dX9_drop_73 fl_X9_25 (by decide) rfl (by decide) rfl ?_
      refine s_aload_n C dX9_drop_76 rfl ?_
      refine s_geti (k := 5) (j := 5) (z := (M 3 5 - 1)) C dX9_drop_77 fl_X9_28 (by decide) rfl (by decide) rfl (by simp [mput_ne, mcopy_ne, mput_eq]) (fun r77 => ?_)
      refine s_iaload (n := 60) (z := M 6 (M 3 5 - 1)) C dX9_drop_80 (by decide) rfl rfl (by omega) (by omega) (by omega) (by simp [mput_ne, mcopy_ne]) (fun r80 => ?_)
      refine s_iastore (n := 60) C dX9_drop_81 (by decide) rfl rfl (by omega) (by omega) (by omega) (by omega) ?_
      exact s_return C dX9_drop_82 (⟨rfl, rfl⟩)

set_option maxRecDepth 20000 in
set_option maxHeartbeats 4000000 in
theorem ct_X9_add_7 (E : Ev) (M : Mm) (h0 : M 7 0 = 30) (h1 : M 7 1 = 16) (src : Nat) (hs : src < NID ∧ kd src = 20 ∧ src = 2) (n kind : Int) (h5 : 0 ≤ M 7 5 ∧ M 7 5 < 30) (hn : 0 ≤ n ∧ n ≤ 16) (hk : rg kind) : Ct E yX9_add cX9_add 4 none 1 [zr E 7, zr E 2, zi n, zi kind] M (pV (fun M' => M' = mput (mput (mput (mcopy M 2 0 8 (M 7 5 * 16) n) 9 (M 7 5) n) 10 (M 7 5) kind) 7 5 (M 7 5 + 1))) := by
  refine Ct.of (own := RX9) (lv0 := [some (zr E 7), some (zr E 2), some (zi n), some (zi kind)]) (by decide) rfl (Nat.le_of_ble_eq_true rfl) rfl (fun κ C => ?_)
  refine s_aload_n C dX9_add_0 rfl ?_
  refine s_geti (k := 5) (j := 5) C dX9_add_1 fl_X9_28 (by decide) rfl (by decide) rfl (rfl) (fun r1 => ?_)
  refine s_aload_n C dX9_add_4 rfl ?_
  refine s_geti (k := 0) (j := 0) (z := 30) C dX9_add_5 fl_X9_9 (by decide) rfl (by decide) rfl (h0) (fun r5 => ?_)
  refine s_icmp_ge (tgt := 68) C dX9_add_8 (by decide) (by omega) (by omega) (fun c8 => ?_) (fun c8 => ?_)
  · skip
    omega
  · skip
    refine s_iload_n C dX9_add_11 rfl ?_
    refine s_aload_n C dX9_add_12 rfl ?_
    refine s_geti (k := 1) (j := 1) (z := 16) C dX9_add_13 fl_X9_15 (by decide) rfl (by decide) rfl (h1) (fun r13 => ?_)
    refine s_icmp_gt (tgt := 68) C dX9_add_16 (by decide) (by omega) (by omega) (fun c16 => ?_) (fun c16 => ?_)
    · skip
      omega
    · skip
      refine s_aload_n C dX9_add_19 rfl ?_
      refine s_iconst C dX9_add_20 ?_
      refine s_aload_n C dX9_add_21 rfl ?_
      refine s_getr (k := 2) (b := 8) C dX9_add_22 fl_X9_18 (by decide) rfl (by decide) rfl ?_
      refine s_aload_n C dX9_add_25 rfl ?_
      refine s_geti (k := 5) (j := 5) C dX9_add_26 fl_X9_28 (by decide) rfl (by decide) rfl (rfl) (fun r26 => ?_)
      refine s_aload_n C dX9_add_29 rfl ?_
      refine s_geti (k := 1) (j := 1) (z := 16) C dX9_add_30 fl_X9_15 (by decide) rfl (by decide) rfl (h1) (fun r30 => ?_)
      refine s_imul C dX9_add_33 ?_
      refine s_iload_n C dX9_add_34 rfl ?_
      refine s_copy (n0 := 3000) (n1 := 480) C dX9_add_35 lm_X9_35 jn_arraycopy js_arraycopy ji_System (by decide) (Nat.le_of_ble_eq_true rfl) (by decide) rfl rfl (by decide) rfl rfl (by omega) (by omega) (by omega) (by omega) (by omega) (by decide) (by decide) ?_
      refine s_aload_n C dX9_add_38 rfl ?_
      refine s_getr (k := 3) (b := 9) C dX9_add_39 fl_X9_22 (by decide) rfl (by decide) rfl ?_
      refine s_aload_n C dX9_add_42 rfl ?_
      refine s_geti (k := 5) (j := 5) (z := M 7 5) C dX9_add_43 fl_X9_28 (by decide) rfl (by decide) rfl (by simp [mput_ne, mcopy_ne]) (fun r43 => ?_)
      refine s_iload_n C dX9_add_46 rfl ?_
      refine s_iastore (n := 30) C dX9_add_47 (by decide) rfl rfl (by omega) (by omega) (by omega) (by omega) ?_
      refine s_aload_n C dX9_add_48 rfl ?_
      refine s_getr (k := 4) (b := 10) C dX9_add_49 fl_X9_25 (by decide) rfl (by decide) rfl ?_
      refine s_aload_n C dX9_add_52 rfl ?_
      refine s_geti (k := 5) (j := 5) (z := M 7 5) C dX9_add_53 fl_X9_28 (by decide) rfl (by decide) rfl (by simp [mput_ne, mcopy_ne]) (fun r53 => ?_)
      refine s_iload_n C dX9_add_56 rfl ?_
      refine s_iastore (n := 30) C dX9_add_57 (by decide) rfl rfl (by omega) (by omega) (by omega) (by omega) ?_
      refine s_aload_n C dX9_add_58 rfl ?_
      refine s_dup C dX9_add_59 rfl ?_
      refine s_geti (k := 5) (j := 5) (z := M 7 5) C dX9_add_60 fl_X9_28 (by decide) rfl (by decide) rfl (by simp [mput_ne, mcopy_ne]) (fun r60 => ?_)
      refine s_iconst C dX9_add_63 ?_
      refine s_iadd C dX9_add_64 ?_
      refine s_puti (k := 5) (j := 5) C dX9_add_65 fp_X9_28 (by decide) rfl rfl rfl (by omega) ?_
      exact s_return C dX9_add_68 (⟨rfl, rfl⟩)

set_option maxRecDepth 20000 in
set_option maxHeartbeats 4000000 in
theorem ct_X9_drop_7 (E : Ev) (M : Mm) (h0 : M 7 0 = 30) (h1 : M 7 1 = 16) (i : Int) (h5 : 0 ≤ M 7 5 ∧ M 7 5 ≤ 30) (hi : 0 ≤ i ∧ i < M 7 5) : Ct E yX9_drop cX9_drop 2 none 1 [zr E 7, zi i] M (pV (fun M' => M' = mput (mput (mcopy (mput M 7 5 (M 7 5 - 1)) 8 ((M 7 5 - 1) * 16) 8 (i * 16) 16) 9 i (M 9 (M 7 5 - 1))) 10 i (M 10 (M 7 5 - 1)))) := by
  refine Ct.of (own := RX9) (lv0 := [some (zr E 7), some (zi i)]) (by decide) rfl (Nat.le_of_ble_eq_true rfl) rfl (fun κ C => ?_)
  refine s_iload_n C dX9_drop_0 rfl ?_
  refine s_if_lt (tgt := 82) C dX9_drop_1 (by decide) (by omega) (fun c1 => ?_) (fun c1 => ?_)
  · skip
    omega
  · skip
    refine s_iload_n C dX9_drop_4 rfl ?_
    refine s_aload_n C dX9_drop_5 rfl ?_
    refine s_geti (k := 5) (j := 5) C dX9_drop_6 fl_X9_28 (by decide) rfl (by decide) rfl (rfl) (fun r6 => ?_)
    refine s_icmp_ge (tgt := 82) C dX9_drop_9 (by decide) (by omega) (by omega) (fun c9 => ?_) (fun c9 => ?_)
    · skip
      omega
    · skip
      refine s_aload_n C dX9_drop_12 rfl ?_
      refine s_dup C dX9_drop_13 rfl ?_
      refine s_geti (k := 5) (j := 5) C dX9_drop_14 fl_X9_28 (by decide) rfl (by decide) rfl (rfl) (fun r14 => ?_)
      refine s_iconst C dX9_drop_17 ?_
      refine s_isub C dX9_drop_18 ?_
      refine s_puti (k := 5) (j := 5) C dX9_drop_19 fp_X9_28 (by decide) rfl rfl rfl (by omega) ?_
      refine s_aload_n C dX9_drop_22 rfl ?_
      refine s_getr (k := 2) (b := 8) C dX9_drop_23 fl_X9_18 (by decide) rfl (by decide) rfl ?_
      refine s_aload_n C dX9_drop_26 rfl ?_
      refine s_geti (k := 5) (j := 5) (z := (M 7 5 - 1)) C dX9_drop_27 fl_X9_28 (by decide) rfl (by decide) rfl (by simp [mput_ne, mcopy_ne, mput_eq]) (fun r27 => ?_)
      refine s_aload_n C dX9_drop_30 rfl ?_
      refine s_geti (k := 1) (j := 1) (z := 16) C dX9_drop_31 fl_X9_15 (by decide) rfl (by decide) rfl (by rw [mput_nk (by decide)]; exact h1) (fun r31 => ?_)
      refine s_imul C dX9_drop_34 ?_
      refine s_aload_n C dX9_drop_35 rfl ?_
      refine s_getr (k := 2) (b := 8) C dX9_drop_36 fl_X9_18 (by decide) rfl (by decide) rfl ?_
      refine s_iload_n C dX9_drop_39 rfl ?_
      refine s_aload_n C dX9_drop_40 rfl ?_
      refine s_geti (k := 1) (j := 1) (z := 16) C dX9_drop_41 fl_X9_15 (by decide) rfl (by decide) rfl (by rw [mput_nk (by decide)]; exact h1) (fun r41 => ?_)
      refine s_imul C dX9_drop_44 ?_
      refine s_aload_n C dX9_drop_45 rfl ?_
      refine s_geti (k := 1) (j := 1) (z := 16) C dX9_drop_46 fl_X9_15 (by decide) rfl (by decide) rfl (by rw [mput_nk (by decide)]; exact h1) (fun r46 => ?_)
      refine s_copy (n0 := 480) (n1 := 480) C dX9_drop_49 lm_X9_35 jn_arraycopy js_arraycopy ji_System (by decide) (Nat.le_of_ble_eq_true rfl) (by decide) rfl rfl (by decide) rfl rfl (by omega) (by omega) (by omega) (by omega) (by omega) (by decide) (by decide) ?_
      refine s_aload_n C dX9_drop_52 rfl ?_
      refine s_getr (k := 3) (b := 9) C dX9_drop_53 fl_X9_22 (by decide) rfl (by decide) rfl ?_
      refine s_iload_n C dX9_drop_56 rfl ?_
      refine s_aload_n C dX9_drop_57 rfl ?_
      refine s_getr (k := 3) (b := 9) C dX9_drop_58 fl_X9_22 (by decide) rfl (by decide) rfl ?_
      refine s_aload_n C dX9_drop_61 rfl ?_
      refine s_geti (k := 5) (j := 5) (z := (M 7 5 - 1)) C dX9_drop_62 fl_X9_28 (by decide) rfl (by decide) rfl (by simp [mput_ne, mcopy_ne, mput_eq]) (fun r62 => ?_)
      refine s_iaload (n := 30) (z := M 9 (M 7 5 - 1)) C dX9_drop_65 (by decide) rfl rfl (by omega) (by omega) (by omega) (by simp [mput_ne, mcopy_ne]) (fun r65 => ?_)
      refine s_iastore (n := 30) C dX9_drop_66 (by decide) rfl rfl (by omega) (by omega) (by omega) (by omega) ?_
      refine s_aload_n C dX9_drop_67 rfl ?_
      refine s_getr (k := 4) (b := 10) C dX9_drop_68 fl_X9_25 (by decide) rfl (by decide) rfl ?_
      refine s_iload_n C dX9_drop_71 rfl ?_
      refine s_aload_n C dX9_drop_72 rfl ?_
      refine s_getr (k := 4) (b := 10) C dX9_drop_73 fl_X9_25 (by decide) rfl (by decide) rfl ?_
      refine s_aload_n C dX9_drop_76 rfl ?_
      refine s_geti (k := 5) (j := 5) (z := (M 7 5 - 1)) C dX9_drop_77 fl_X9_28 (by decide) rfl (by decide) rfl (by simp [mput_ne, mcopy_ne, mput_eq]) (fun r77 => ?_)
      refine s_iaload (n := 30) (z := M 10 (M 7 5 - 1)) C dX9_drop_80 (by decide) rfl rfl (by omega) (by omega) (by omega) (by simp [mput_ne, mcopy_ne]) (fun r80 => ?_)
      refine s_iastore (n := 30) C dX9_drop_81 (by decide) rfl rfl (by omega) (by omega) (by omega) (by omega) ?_
      exact s_return C dX9_drop_82 (⟨rfl, rfl⟩)

set_option maxRecDepth 20000 in
set_option maxHeartbeats 4000000 in
theorem ct_X9_add_11 (E : Ev) (M : Mm) (h0 : M 11 0 = 10) (h1 : M 11 1 = 6) (src : Nat) (hs : src < NID ∧ kd src = 20 ∧ src = 2) (n kind : Int) (h5 : 0 ≤ M 11 5 ∧ M 11 5 < 10) (hn : 0 ≤ n ∧ n ≤ 6) (hk : rg kind) : Ct E yX9_add cX9_add 4 none 1 [zr E 11, zr E 2, zi n, zi kind] M (pV (fun M' => M' = mput (mput (mput (mcopy M 2 0 12 (M 11 5 * 6) n) 13 (M 11 5) n) 14 (M 11 5) kind) 11 5 (M 11 5 + 1))) := by
  refine Ct.of (own := RX9) (lv0 := [some (zr E 11), some (zr E 2), some (zi n), some (zi kind)]) (by decide) rfl (Nat.le_of_ble_eq_true rfl) rfl (fun κ C => ?_)
  refine s_aload_n C dX9_add_0 rfl ?_
  refine s_geti (k := 5) (j := 5) C dX9_add_1 fl_X9_28 (by decide) rfl (by decide) rfl (rfl) (fun r1 => ?_)
  refine s_aload_n C dX9_add_4 rfl ?_
  refine s_geti (k := 0) (j := 0) (z := 10) C dX9_add_5 fl_X9_9 (by decide) rfl (by decide) rfl (h0) (fun r5 => ?_)
  refine s_icmp_ge (tgt := 68) C dX9_add_8 (by decide) (by omega) (by omega) (fun c8 => ?_) (fun c8 => ?_)
  · skip
    omega
  · skip
    refine s_iload_n C dX9_add_11 rfl ?_
    refine s_aload_n C dX9_add_12 rfl ?_
    refine s_geti (k := 1) (j := 1) (z := 6) C dX9_add_13 fl_X9_15 (by decide) rfl (by decide) rfl (h1) (fun r13 => ?_)
    refine s_icmp_gt (tgt := 68) C dX9_add_16 (by decide) (by omega) (by omega) (fun c16 => ?_) (fun c16 => ?_)
    · skip
      omega
    · skip
      refine s_aload_n C dX9_add_19 rfl ?_
      refine s_iconst C dX9_add_20 ?_
      refine s_aload_n C dX9_add_21 rfl ?_
      refine s_getr (k := 2) (b := 12) C dX9_add_22 fl_X9_18 (by decide) rfl (by decide) rfl ?_
      refine s_aload_n C dX9_add_25 rfl ?_
      refine s_geti (k := 5) (j := 5) C dX9_add_26 fl_X9_28 (by decide) rfl (by decide) rfl (rfl) (fun r26 => ?_)
      refine s_aload_n C dX9_add_29 rfl ?_
      refine s_geti (k := 1) (j := 1) (z := 6) C dX9_add_30 fl_X9_15 (by decide) rfl (by decide) rfl (h1) (fun r30 => ?_)
      refine s_imul C dX9_add_33 ?_
      refine s_iload_n C dX9_add_34 rfl ?_
      refine s_copy (n0 := 3000) (n1 := 60) C dX9_add_35 lm_X9_35 jn_arraycopy js_arraycopy ji_System (by decide) (Nat.le_of_ble_eq_true rfl) (by decide) rfl rfl (by decide) rfl rfl (by omega) (by omega) (by omega) (by omega) (by omega) (by decide) (by decide) ?_
      refine s_aload_n C dX9_add_38 rfl ?_
      refine s_getr (k := 3) (b := 13) C dX9_add_39 fl_X9_22 (by decide) rfl (by decide) rfl ?_
      refine s_aload_n C dX9_add_42 rfl ?_
      refine s_geti (k := 5) (j := 5) (z := M 11 5) C dX9_add_43 fl_X9_28 (by decide) rfl (by decide) rfl (by simp [mput_ne, mcopy_ne]) (fun r43 => ?_)
      refine s_iload_n C dX9_add_46 rfl ?_
      refine s_iastore (n := 10) C dX9_add_47 (by decide) rfl rfl (by omega) (by omega) (by omega) (by omega) ?_
      refine s_aload_n C dX9_add_48 rfl ?_
      refine s_getr (k := 4) (b := 14) C dX9_add_49 fl_X9_25 (by decide) rfl (by decide) rfl ?_
      refine s_aload_n C dX9_add_52 rfl ?_
      refine s_geti (k := 5) (j := 5) (z := M 11 5) C dX9_add_53 fl_X9_28 (by decide) rfl (by decide) rfl (by simp [mput_ne, mcopy_ne]) (fun r53 => ?_)
      refine s_iload_n C dX9_add_56 rfl ?_
      refine s_iastore (n := 10) C dX9_add_57 (by decide) rfl rfl (by omega) (by omega) (by omega) (by omega) ?_
      refine s_aload_n C dX9_add_58 rfl ?_
      refine s_dup C dX9_add_59 rfl ?_
      refine s_geti (k := 5) (j := 5) (z := M 11 5) C dX9_add_60 fl_X9_28 (by decide) rfl (by decide) rfl (by simp [mput_ne, mcopy_ne]) (fun r60 => ?_)
      refine s_iconst C dX9_add_63 ?_
      refine s_iadd C dX9_add_64 ?_
      refine s_puti (k := 5) (j := 5) C dX9_add_65 fp_X9_28 (by decide) rfl rfl rfl (by omega) ?_
      exact s_return C dX9_add_68 (⟨rfl, rfl⟩)

set_option maxRecDepth 20000 in
set_option maxHeartbeats 4000000 in
theorem ct_X9_drop_11 (E : Ev) (M : Mm) (h0 : M 11 0 = 10) (h1 : M 11 1 = 6) (i : Int) (h5 : 0 ≤ M 11 5 ∧ M 11 5 ≤ 10) (hi : 0 ≤ i ∧ i < M 11 5) : Ct E yX9_drop cX9_drop 2 none 1 [zr E 11, zi i] M (pV (fun M' => M' = mput (mput (mcopy (mput M 11 5 (M 11 5 - 1)) 12 ((M 11 5 - 1) * 6) 12 (i * 6) 6) 13 i (M 13 (M 11 5 - 1))) 14 i (M 14 (M 11 5 - 1)))) := by
  refine Ct.of (own := RX9) (lv0 := [some (zr E 11), some (zi i)]) (by decide) rfl (Nat.le_of_ble_eq_true rfl) rfl (fun κ C => ?_)
  refine s_iload_n C dX9_drop_0 rfl ?_
  refine s_if_lt (tgt := 82) C dX9_drop_1 (by decide) (by omega) (fun c1 => ?_) (fun c1 => ?_)
  · skip
    omega
  · skip
    refine s_iload_n C dX9_drop_4 rfl ?_
    refine s_aload_n C dX9_drop_5 rfl ?_
    refine s_geti (k := 5) (j := 5) C dX9_drop_6 fl_X9_28 (by decide) rfl (by decide) rfl (rfl) (fun r6 => ?_)
    refine s_icmp_ge (tgt := 82) C dX9_drop_9 (by decide) (by omega) (by omega) (fun c9 => ?_) (fun c9 => ?_)
    · skip
      omega
    · skip
      refine s_aload_n C dX9_drop_12 rfl ?_
      refine s_dup C dX9_drop_13 rfl ?_
      refine s_geti (k := 5) (j := 5) C dX9_drop_14 fl_X9_28 (by decide) rfl (by decide) rfl (rfl) (fun r14 => ?_)
      refine s_iconst C dX9_drop_17 ?_
      refine s_isub C dX9_drop_18 ?_
      refine s_puti (k := 5) (j := 5) C dX9_drop_19 fp_X9_28 (by decide) rfl rfl rfl (by omega) ?_
      refine s_aload_n C dX9_drop_22 rfl ?_
      refine s_getr (k := 2) (b := 12) C dX9_drop_23 fl_X9_18 (by decide) rfl (by decide) rfl ?_
      refine s_aload_n C dX9_drop_26 rfl ?_
      refine s_geti (k := 5) (j := 5) (z := (M 11 5 - 1)) C dX9_drop_27 fl_X9_28 (by decide) rfl (by decide) rfl (by simp [mput_ne, mcopy_ne, mput_eq]) (fun r27 => ?_)
      refine s_aload_n C dX9_drop_30 rfl ?_
      refine s_geti (k := 1) (j := 1) (z := 6) C dX9_drop_31 fl_X9_15 (by decide) rfl (by decide) rfl (by rw [mput_nk (by decide)]; exact h1) (fun r31 => ?_)
      refine s_imul C dX9_drop_34 ?_
      refine s_aload_n C dX9_drop_35 rfl ?_
      refine s_getr (k := 2) (b := 12) C dX9_drop_36 fl_X9_18 (by decide) rfl (by decide) rfl ?_
      refine s_iload_n C dX9_drop_39 rfl ?_
      refine s_aload_n C dX9_drop_40 rfl ?_
      refine s_geti (k := 1) (j := 1) (z := 6) C dX9_drop_41 fl_X9_15 (by decide) rfl (by decide) rfl (by rw [mput_nk (by decide)]; exact h1) (fun r41 => ?_)
      refine s_imul C dX9_drop_44 ?_
      refine s_aload_n C dX9_drop_45 rfl ?_
      refine s_geti (k := 1) (j := 1) (z := 6) C dX9_drop_46 fl_X9_15 (by decide) rfl (by decide) rfl (by rw [mput_nk (by decide)]; exact h1) (fun r46 => ?_)
      refine s_copy (n0 := 60) (n1 := 60) C dX9_drop_49 lm_X9_35 jn_arraycopy js_arraycopy ji_System (by decide) (Nat.le_of_ble_eq_true rfl) (by decide) rfl rfl (by decide) rfl rfl (by omega) (by omega) (by omega) (by omega) (by omega) (by decide) (by decide) ?_
      refine s_aload_n C dX9_drop_52 rfl ?_
      refine s_getr (k := 3) (b := 13) C dX9_drop_53 fl_X9_22 (by decide) rfl (by decide) rfl ?_
      refine s_iload_n C dX9_drop_56 rfl ?_
      refine s_aload_n C dX9_drop_57 rfl ?_
      refine s_getr (k := 3) (b := 13) C dX9_drop_58 fl_X9_22 (by decide) rfl (by decide) rfl ?_
      refine s_aload_n C dX9_drop_61 rfl ?_
      refine s_geti (k := 5) (j := 5) (z := (M 11 5 - 1)) C dX9_drop_62 fl_X9_28 (by decide) rfl (by decide) rfl (by simp [mput_ne, mcopy_ne, mput_eq]) (fun r62 => ?_)
      refine s_iaload (n := 10) (z := M 13 (M 11 5 - 1)) C dX9_drop_65 (by decide) rfl rfl (by omega) (by omega) (by omega) (by simp [mput_ne, mcopy_ne]) (fun r65 => ?_)
      refine s_iastore (n := 10) C dX9_drop_66 (by decide) rfl rfl (by omega) (by omega) (by omega) (by omega) ?_
      refine s_aload_n C dX9_drop_67 rfl ?_
      refine s_getr (k := 4) (b := 14) C dX9_drop_68 fl_X9_25 (by decide) rfl (by decide) rfl ?_
      refine s_iload_n C dX9_drop_71 rfl ?_
      refine s_aload_n C dX9_drop_72 rfl ?_
      refine s_getr (k := 4) (b := 14) C dX9_drop_73 fl_X9_25 (by decide) rfl (by decide) rfl ?_
      refine s_aload_n C dX9_drop_76 rfl ?_
      refine s_geti (k := 5) (j := 5) (z := (M 11 5 - 1)) C dX9_drop_77 fl_X9_28 (by decide) rfl (by decide) rfl (by simp [mput_ne, mcopy_ne, mput_eq]) (fun r77 => ?_)
      refine s_iaload (n := 10) (z := M 14 (M 11 5 - 1)) C dX9_drop_80 (by decide) rfl rfl (by omega) (by omega) (by omega) (by simp [mput_ne, mcopy_ne]) (fun r80 => ?_)
      refine s_iastore (n := 10) C dX9_drop_81 (by decide) rfl rfl (by omega) (by omega) (by omega) (by omega) ?_
      exact s_return C dX9_drop_82 (⟨rfl, rfl⟩)

set_option maxRecDepth 20000 in
set_option maxHeartbeats 4000000 in
theorem ct_X9_lengthWithout (E : Ev) (src : Nat) (hs : src < NID ∧ kd src = 20) (M : Mm) (h0 : M 11 0 = 10) (h1 : M 11 1 = 6) (h5 : 0 ≤ M 11 5 ∧ M 11 5 ≤ 10) (hT : ∀ i, 0 ≤ i → i < M 11 5 → 0 ≤ M 13 i ∧ M 13 i ≤ 6) (p n : Int) (hp : 0 ≤ p ∧ 0 ≤ n ∧ n < 4000 ∧ p + n ≤ (ln src : Int)) (hln : ln src < 4000) : Ct E yX9_lengthWithout cX9_lengthWithout 7 (some .int) 1 [zr E 11, zr E src, zi p, zi n] M (pP M (fun z => ∃ lost, z = n - lost ∧ lost ≤ 6 ∧ eLost M 12 13 6 (M 11 5) src p n lost)) := by
  refine Ct.of (own := RX9) (lv0 := [some (zr E 11), some (zr E src), some (zi p), some (zi n), none, none, none]) (by decide) rfl (Nat.le_of_ble_eq_true rfl) rfl (fun κ C => ?_)
  have L6 : ∀ (n9 : Nat) (lost i : Int) (u6 : Option Value) (hi : 0 ≤ i ∧ i ≤ M 11 5) (hll : 0 ≤ lost ∧ lost ≤ 6) (he : eLost M 12 13 6 i src p n lost) (hm : (M 11 5 - i).toNat < n9), Gm E κ (pP M (fun z => ∃ lost, z = n - lost ∧ lost ≤ 6 ∧ eLost M 12 13 6 (M 11 5) src p n lost)) 7 6 [some (zr E 11), some (zr E src), some (zi p), some (zi n), some (zi lost), some (zi i), u6] [] M := by
    intro n9
    induction n9 with
    | zero => intro lost i u6 hi hll he hm; exact absurd hm (Nat.not_lt_zero _)
    | succ n9 ih6 =>
      intro lost i u6 hi hll he hm
      have L67 : ∀ (lost2 : Int) (u6 : Option Value) (hlt : i < M 11 5) (hll2 : 0 ≤ lost2 ∧ lost2 ≤ 6) (he2 : eLost M 12 13 6 (i + 1) src p n lost2), Gm E κ (pP M (fun z => ∃ lost, z = n - lost ∧ lost ≤ 6 ∧ eLost M 12 13 6 (M 11 5) src p n lost)) 7 67 [some (zr E 11), some (zr E src), some (zi p), some (zi n), some (zi lost2), some (zi i), u6] [] M := by
        intro lost2 u6 hlt hll2 he2
        refine s_iinc (lv' := [_, _, _, _, _, _, _]) C dX9_lengthWithout_67 rfl (by decide) rfl rfl rfl ?_
        refine s_goto (tgt := 6) C dX9_lengthWithout_70 (by decide) ?_
        exact ih6 _ _ _ (by first | assumption | omega) (by first | assumption | omega) (by first | assumption | omega) (by omega)
      refine s_iload C dX9_lengthWithout_6 rfl ?_
      refine s_aload_n C dX9_lengthWithout_8 rfl ?_
      refine s_geti (k := 5) (j := 5) C dX9_lengthWithout_9 fl_X9_28 (by decide) rfl (by decide) rfl (rfl) (fun r9 => ?_)
      refine s_icmp_ge (tgt := 73) C dX9_lengthWithout_12 (by decide) (by omega) (by omega) (fun c12 => ?_) (fun c12 => ?_)
      · skip
        refine s_iload_n C dX9_lengthWithout_73 rfl ?_
        refine s_iload C dX9_lengthWithout_74 rfl ?_
        refine s_isub C dX9_lengthWithout_76 ?_
        exact s_ireturn C dX9_lengthWithout_77 (⟨_, rfl, rfl, ⟨lost, rfl, hll.2, by rw [show M 11 5 = i by omega]; exact he⟩⟩)
      · skip
        have hTi := hT i hi.1 (by omega)
        have keep : ¬ (eFit M 12 13 6 i src p n ∧ lost < M 13 i) → eLost M 12 13 6 (i + 1) src p n lost := by
          intro hno
          refine ⟨he.1, ?_, ?_⟩
          · rcases he.2.1 with h | ⟨j, g1, g2, g3⟩
            · exact Or.inl h
            · exact Or.inr ⟨j, g1, by omega, g3⟩
          · intro j g1 g2 g3
            rcases Int.lt_or_eq_of_le (Int.lt_add_one_iff.mp g2) with h | rfl
            · exact he.2.2 j g1 h g3
            · exact Int.not_lt.mp (fun q => hno ⟨g3, q⟩)
        refine s_iload_n C dX9_lengthWithout_15 rfl ?_
        refine s_aload_n C dX9_lengthWithout_16 rfl ?_
        refine s_getr (k := 3) (b := 13) C dX9_lengthWithout_17 fl_X9_22 (by decide) rfl (by decide) rfl ?_
        refine s_iload C dX9_lengthWithout_20 rfl ?_
        refine s_iaload (n := 10) C dX9_lengthWithout_22 (by decide) rfl rfl (by omega) (by omega) (by omega) (rfl) (fun r22 => ?_)
        refine s_isub C dX9_lengthWithout_23 ?_
        refine s_istore (lv' := [_, _, _, _, _, _, _]) C dX9_lengthWithout_24 (by decide) rfl rfl ?_
        refine s_aload_n C dX9_lengthWithout_26 rfl ?_
        refine s_getr (k := 3) (b := 13) C dX9_lengthWithout_27 fl_X9_22 (by decide) rfl (by decide) rfl ?_
        refine s_iload C dX9_lengthWithout_30 rfl ?_
        refine s_iaload (n := 10) C dX9_lengthWithout_32 (by decide) rfl rfl (by omega) (by omega) (by omega) (rfl) (fun r32 => ?_)
        refine s_iload C dX9_lengthWithout_33 rfl ?_
        refine s_icmp_le (tgt := 67) C dX9_lengthWithout_35 (by decide) (by omega) (by omega) (fun c35 => ?_) (fun c35 => ?_)
        · skip
          exact L67 _ _ (by first | assumption | omega) (by first | assumption | omega) (keep (fun q => by omega))
        · skip
          refine s_iload C dX9_lengthWithout_38 rfl ?_
          refine s_iconst C dX9_lengthWithout_40 ?_
          refine s_icmp_lt (tgt := 67) C dX9_lengthWithout_41 (by decide) (by omega) (by omega) (fun c41 => ?_) (fun c41 => ?_)
          · skip
            exact L67 _ _ (by first | assumption | omega) (by first | assumption | omega) (keep (fun q => by have := q.1.1; omega))
          · skip
            refine s_aload_n C dX9_lengthWithout_44 rfl ?_
            refine s_iload C dX9_lengthWithout_45 rfl ?_
            refine s_aload_n C dX9_lengthWithout_47 rfl ?_
            refine s_iload_n C dX9_lengthWithout_48 rfl ?_
            refine s_iload C dX9_lengthWithout_49 rfl ?_
            refine s_iadd C dX9_lengthWithout_51 ?_
            refine s_callV3 C dX9_lengthWithout_52 cy_X9_isAt cv_X9_isAt lk_X9_31 (ct_X9_isAt_11 E src hs M h0 h1 i (p + (n - M 13 i)) (by omega) hTi (by omega) hln) (by decide) (by decide) (by first | decide | (decide)) rfl (Nat.le_of_ble_eq_true rfl) (k_P (fun z52 q52 => ?_))
            refine s_if_eq (tgt := 67) C dX9_lengthWithout_55 (by decide) (by rcases q52 with q | q <;> omega) (fun c55 => ?_) (fun c55 => ?_)
            · skip
              exact L67 _ _ (by first | assumption | omega) (by first | assumption | omega) (keep (fun q => by rcases q52 with ⟨g, _⟩ | ⟨_, g⟩; omega; exact g q.1.2))
            · skip
              refine s_aload_n C dX9_lengthWithout_58 rfl ?_
              refine s_getr (k := 3) (b := 13) C dX9_lengthWithout_59 fl_X9_22 (by decide) rfl (by decide) rfl ?_
              refine s_iload C dX9_lengthWithout_62 rfl ?_
              refine s_iaload (n := 10) C dX9_lengthWithout_64 (by decide) rfl rfl (by omega) (by omega) (by omega) (rfl) (fun r64 => ?_)
              refine s_istore (lv' := [_, _, _, _, _, _, _]) C dX9_lengthWithout_65 (by decide) rfl rfl ?_
              exact L67 _ _ (by first | assumption | omega) (by first | assumption | omega) (⟨by omega, Or.inr ⟨i, hi.1, by omega, rfl, by omega, by rcases q52 with ⟨_, g⟩ | ⟨g, _⟩; exact g; exact absurd g c55⟩, fun j g1 g2 g3 => by
        rcases Int.lt_or_eq_of_le (Int.lt_add_one_iff.mp g2) with h | rfl
        · have := he.2.2 j g1 h g3; omega
        · omega⟩)
  refine s_iconst C dX9_lengthWithout_0 ?_
  refine s_istore (lv' := [_, _, _, _, _, _, _]) C dX9_lengthWithout_1 (by decide) rfl rfl ?_
  refine s_iconst C dX9_lengthWithout_3 ?_
  refine s_istore (lv' := [_, _, _, _, _, _, _]) C dX9_lengthWithout_4 (by decide) rfl rfl ?_
  exact L6 _ _ _ _ (by first | assumption | omega) (by first | assumption | omega) (⟨by omega, Or.inl rfl, fun j h1 h2 => by omega⟩) (Nat.lt_succ_self _)

set_option maxRecDepth 20000 in
set_option maxHeartbeats 4000000 in
theorem ct_J7_fill_53178 (E : Ev) (M : Mm) (a : Nat) (ha : a < NID ∧ kd a = 20) (hla : ln a < 4000) (v : Int) (hv : rg v) : Ct E yJ7_fill_53178 cJ7_fill_53178 4 none 0 [zr E a, zi v] M (pV (fun M' => M' = mfl M a (ln a) v)) := by
  refine Ct.of (own := RJ7) (lv0 := [some (zr E a), some (zi v), none, none]) (by decide) rfl (Nat.le_of_ble_eq_true rfl) rfl (fun κ C => ?_)
  have L5 : ∀ (n9 : Nat) (i : Int) (hi : 0 ≤ i ∧ i ≤ (ln a : Int)) (hm : ((ln a : Int) - i).toNat < n9), Gm E κ (pV (fun M' => M' = mfl M a (ln a) v)) 4 5 [some (zr E a), some (zi v), some (zi i), some (zi (ln a : Int))] [] (mfl M a i v) := by
    intro n9
    induction n9 with
    | zero => intro i  hi hm; exact absurd hm (Nat.not_lt_zero _)
    | succ n9 ih5 =>
      intro i  hi hm
      refine s_iload_n C dJ7_fill_53178_5 rfl ?_
      refine s_iload_n C dJ7_fill_53178_6 rfl ?_
      refine s_icmp_ge (tgt := 20) C dJ7_fill_53178_7 (by decide) (by omega) (by omega) (fun c7 => ?_) (fun c7 => ?_)
      · skip
        exact s_return C dJ7_fill_53178_20 (⟨rfl, by rw [show i = (ln a : Int) by omega]⟩)
      · skip
        refine s_aload_n C dJ7_fill_53178_10 rfl ?_
        refine s_iload_n C dJ7_fill_53178_11 rfl ?_
        refine s_iload_n C dJ7_fill_53178_12 rfl ?_
        refine s_iastore C dJ7_fill_53178_13 (by first | exact ha.1 | exact ha.2) (by first | exact ha.1 | exact ha.2) rfl (by omega) (by omega) (by omega) (by omega) ?_
        rw [mfl_s M a i v hi.1]
        refine s_iinc (lv' := [_, _, _, _]) C dJ7_fill_53178_14 rfl (by decide) rfl rfl rfl ?_
        refine s_goto (tgt := 5) C dJ7_fill_53178_17 (by decide) ?_
        exact ih5 _  (by first | assumption | omega) (by omega)
  refine s_iconst C dJ7_fill_53178_0 ?_
  refine s_istore_n (lv' := [_, _, _, _]) C dJ7_fill_53178_1 (by decide) rfl rfl ?_
  refine s_aload_n C dJ7_fill_53178_2 rfl ?_
  refine s_alen C dJ7_fill_53178_3 (by first | exact ha.1 | exact ha.2) (Or.inl ha.2) rfl ?_
  refine s_istore_n (lv' := [_, _, _, _]) C dJ7_fill_53178_4 (by decide) rfl rfl ?_
  have h := L5 _ 0 (by omega) (Nat.lt_succ_self _)
  rw [mfl_0] at h
  exact h

set_option maxRecDepth 20000 in
set_option maxHeartbeats 4000000 in
theorem ct_J7_fill_d0a16 (E : Ev) (M : Mm) (a : Nat) (ha : a < NID ∧ kd a = 21) (hla : ln a < 4000) (v : Int) (hv : rgl v) : Ct E yJ7_fill_d0a16 cJ7_fill_d0a16 5 none 0 [zr E a, zl v] M (pV (fun M' => M' = mfl M a (ln a) v)) := by
  refine Ct.of (own := RJ7) (lv0 := [some (zr E a), some (zl v), none, none, none]) (by decide) rfl (Nat.le_of_ble_eq_true rfl) rfl (fun κ C => ?_)
  have L6 : ∀ (n9 : Nat) (i : Int) (hi : 0 ≤ i ∧ i ≤ (ln a : Int)) (hm : ((ln a : Int) - i).toNat < n9), Gm E κ (pV (fun M' => M' = mfl M a (ln a) v)) 5 6 [some (zr E a), some (zl v), none, some (zi i), some (zi (ln a : Int))] [] (mfl M a i v) := by
    intro n9
    induction n9 with
    | zero => intro i  hi hm; exact absurd hm (Nat.not_lt_zero _)
    | succ n9 ih6 =>
      intro i  hi hm
      refine s_iload_n C dJ7_fill_d0a16_6 rfl ?_
      refine s_iload C dJ7_fill_d0a16_7 rfl ?_
      refine s_icmp_ge (tgt := 22) C dJ7_fill_d0a16_9 (by decide) (by omega) (by omega) (fun c9 => ?_) (fun c9 => ?_)
      · skip
        exact s_return C dJ7_fill_d0a16_22 (⟨rfl, by rw [show i = (ln a : Int) by omega]⟩)
      · skip
        refine s_aload_n C dJ7_fill_d0a16_12 rfl ?_
        refine s_iload_n C dJ7_fill_d0a16_13 rfl ?_
        refine s_lload_n C dJ7_fill_d0a16_14 rfl ?_
        refine s_lastore C dJ7_fill_d0a16_15 (by first | exact ha.1 | exact ha.2) (by first | exact ha.1 | exact ha.2) rfl (by omega) (by omega) (by omega) (by omega) ?_
        rw [mfl_s M a i v hi.1]
        refine s_iinc (lv' := [_, _, _, _, _]) C dJ7_fill_d0a16_16 rfl (by decide) rfl rfl rfl ?_
        refine s_goto (tgt := 6) C dJ7_fill_d0a16_19 (by decide) ?_
        exact ih6 _  (by first | assumption | omega) (by omega)
  refine s_iconst C dJ7_fill_d0a16_0 ?_
  refine s_istore_n (lv' := [_, _, _, _, _]) C dJ7_fill_d0a16_1 (by decide) rfl rfl ?_
  refine s_aload_n C dJ7_fill_d0a16_2 rfl ?_
  refine s_alen C dJ7_fill_d0a16_3 (by first | exact ha.1 | exact ha.2) (Or.inr ha.2) rfl ?_
  refine s_istore (lv' := [_, _, _, _, _]) C dJ7_fill_d0a16_4 (by decide) rfl rfl ?_
  have h := L6 _ 0 (by omega) (Nat.lt_succ_self _)
  rw [mfl_0] at h
  exact h
