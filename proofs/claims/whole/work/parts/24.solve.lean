def oCf (M : Mm) (f : Int → Int) (u set : Int) : Int := min 268435456 (oStep M u set + f (zor set (zshl 1 u)))
noncomputable def oMn (M : Mm) (f : Int → Int) (set : Int) : Nat → Int
  | 0 => 268435456
  | u + 1 => @ite Int (oMay M (u : Int) set) (Classical.propDecidable _) (min (oMn M f set u) (oCf M f (u : Int) set)) (oMn M f set u)
def o2n (M : Mm) : Int := ((2 ^ (M 58 8).toNat : Nat) : Int)
/-- f is the least cost of the rest, by sets -/
def oEq (M : Mm) (f : Int → Int) : Prop := f (o2n M - 1) = 0 ∧ (∀ s, 0 ≤ s → s < o2n M - 1 → f s = oMn M f s (M 58 8).toNat) ∧ ∀ s, 0 ≤ s → s < o2n M → 0 ≤ f s ∧ f s ≤ 268435456
/-- the sets that a row goes through -/
def sq (r : Int → Int) : Nat → Int
  | 0 => 0
  | k + 1 => zor (sq r k) (zshl 1 (r (k : Int)))
def oYes (M : Mm) (f : Int → Int) (v set : Int) : Prop := oMay M v set ∧ oCf M f v set = f set
def oRow (M : Mm) (f r : Int → Int) : Prop := ∀ k : Nat, (k : Int) < M 58 8 → (0 ≤ r k ∧ r k < M 58 8) ∧ (∀ v, 0 ≤ v → v < r k → ¬ oYes M f v (sq r k)) ∧ (r k < M 58 8 - 1 → oYes M f (r k) (sq r k))
theorem sq_congr {r r' : Int → Int} : ∀ k : Nat, (∀ j : Nat, j < k → r j = r' j) → sq r k = sq r' k := by
  intro k
  induction k with
  | zero => intro _; rfl
  | succ k ih => intro h; rw [sq, sq, ih (fun j hj => h j (by omega)), h k (by omega)]
theorem o2n_le {M : Mm} (h : OI M) : 2 ≤ o2n M ∧ o2n M ≤ 1024 ∧ zshl 1 (M 58 8) = o2n M := by
  have h1 := h.1
  have h2 : (2 : Nat) ^ (M 58 8).toNat ≤ 2 ^ 10 := Nat.pow_le_pow_right (by decide) (by omega)
  have h3 : (2 : Nat) ^ 1 ≤ 2 ^ (M 58 8).toNat := Nat.pow_le_pow_right (by decide) (by omega)
  have e := zshl1 (M 58 8).toNat (by omega)
  rw [Int.toNat_of_nonneg (by omega)] at e
  unfold o2n
  refine ⟨?_, ?_, e⟩ <;> omega
theorem zor_o {M : Mm} (h : OI M) {s u : Int} (hs : 0 ≤ s ∧ s < o2n M) (hu : 0 ≤ u ∧ u < M 58 8) : 0 ≤ zor s (zshl 1 u) ∧ zor s (zshl 1 u) < o2n M := by
  have h1 := h.1
  exact zor_lt (n := M 58 8) (by omega) hs hu
theorem zor_gt {s u : Int} (hs : 0 ≤ s ∧ s < 1024) (hu : 0 ≤ u ∧ u < 10) (hn : ¬ inS s u) : s < zor s (zshl 1 u) := by
  have h2 : (2 : Nat) ^ u.toNat < 2 ^ 31 := Nat.pow_lt_pow_right (by decide) (by omega)
  have e : zshl 1 u = ((2 ^ u.toNat : Nat) : Int) := by
    have := zshl1 u.toNat (by omega)
    rwa [Int.toNat_of_nonneg hu.1] at this
  rw [e, zor_n (by omega) (by generalize 2 ^ u.toNat = P at *; omega), Int.toNat_natCast]
  have h3 : s.toNat ≤ s.toNat ||| 2 ^ u.toNat := Nat.left_le_or
  have h4 : s.toNat ≠ s.toNat ||| 2 ^ u.toNat := by
    intro q
    apply hn
    show s.toNat.testBit u.toNat = true
    rw [q, Nat.testBit_or, Nat.testBit_two_pow]
    simp
  omega
theorem cntL : ∀ n : Nat, n ≤ 10 → cntB (fun k => decide (k < (n : Int))) 10 = (n : Int) := by decide +kernel
theorem pcS_lt {s u n : Int} (hn : 0 ≤ n ∧ n ≤ 10) (hs : 0 ≤ s ∧ s < ((2 ^ n.toNat : Nat) : Int)) (hu : 0 ≤ u ∧ u < n) (hno : ¬ inS s u) : pcS s < n := by
  have h1 := cntB_lt (f := fun k => decide (k < n)) (g := fun k => s.toNat.testBit k.toNat) 10 (fun p p0 p1 hp => by
    rcases Int.lt_or_le p n with c | c
    · simp [c]
    · exfalso
      have h2 : (2 : Nat) ^ n.toNat ≤ 2 ^ p.toNat := Nat.pow_le_pow_right (by decide) (by omega)
      have := Nat.testBit_lt_two_pow (x := s.toNat) (i := p.toNat) (Nat.lt_of_lt_of_le (by omega) h2)
      rw [this] at hp; cases hp) ⟨u, hu.1, by omega, by simp [hu.2], by
      show s.toNat.testBit u.toNat = false
      exact Bool.eq_false_iff.mpr hno⟩
  have h3 := cntL n.toNat (by omega)
  rw [Int.toNat_of_nonneg hn.1] at h3
  unfold pcS
  omega
theorem oStep_nn {M : Mm} (h : OI M) {u s : Int} (hu : 0 ≤ u ∧ u < M 58 8) (hs : 0 ≤ s ∧ s < o2n M) (hno : ¬ inS s u) : 0 ≤ oStep M u s ∧ oStep M u s ≤ 1000 := by
  have h0 := oStep_rg h (set := s) hu
  obtain ⟨h1, h2, h3⟩ := h
  have h4 := (h3 u hu.1 hu.2).1
  have h5 := pcS_le s
  have h6 := pcS_lt (n := M 58 8) (by omega) hs hu hno
  refine ⟨?_, h0.2⟩
  unfold oStep
  split
  · omega
  · split
    · have : 0 ≤ M 61 u * (M 58 8 - pcS s - 1) := Int.mul_nonneg (by omega) (by omega); omega
    · have : 0 ≤ M 61 u * pcS s := Int.mul_nonneg (by omega) (by omega); omega
theorem oStep_sm {M A : Mm} {l : List Nat} (h : Sm M A l) (h1 : 58 ∉ l) (h2 : 59 ∉ l) (h3 : 60 ∉ l) (h4 : 61 ∉ l) (u s : Int) : oStep A u s = oStep M u s := by
  unfold oStep
  rw [h 58 h1, h 59 h2, h 60 h3, h 61 h4]
theorem oMay_sm {M A : Mm} {l : List Nat} (h : Sm M A l) (h1 : 62 ∉ l) (u s : Int) : oMay A u s = oMay M u s := by
  unfold oMay
  rw [h 62 h1]
theorem OI_sm {M A : Mm} {l : List Nat} (h : Sm M A l) (h1 : 58 ∉ l) (h2 : 59 ∉ l) (h3 : 60 ∉ l) (h4 : 61 ∉ l) (h5 : 62 ∉ l) (hO : OI M) : OI A := by
  unfold OI at *
  rw [h 58 h1, h 59 h2, h 60 h3, h 61 h4, h 62 h5]
  exact hO
theorem oMn_pos {M : Mm} {f : Int → Int} {s : Int} {u : Nat} (h : oMay M (u : Int) s) : oMn M f s (u + 1) = min (oMn M f s u) (oCf M f (u : Int) s) := by
  rw [oMn]; exact if_pos h
theorem oMn_neg {M : Mm} {f : Int → Int} {s : Int} {u : Nat} (h : ¬ oMay M (u : Int) s) : oMn M f s (u + 1) = oMn M f s u := by
  rw [oMn]; exact if_neg h
theorem oMn_congr {M : Mm} {f g : Int → Int} {s : Int} (hO : OI M) (hs : 0 ≤ s ∧ s < o2n M) (hfg : ∀ t, s < t → t < o2n M → f t = g t) : ∀ u : Nat, (u : Int) ≤ M 58 8 → oMn M f s u = oMn M g s u := by
  have hl := o2n_le hO
  have h1 := hO.1
  intro u
  induction u with
  | zero => intro _; rfl
  | succ u ih =>
    intro hu
    by_cases c : oMay M (u : Int) s
    · have hz := zor_o hO hs (u := (u : Int)) (by omega)
      have hg := zor_gt (s := s) (u := (u : Int)) (by omega) (by omega) c.1
      rw [oMn_pos c, oMn_pos c, ih (by omega)]
      unfold oCf
      rw [hfg _ hg hz.2]
    · rw [oMn_neg c, oMn_neg c, ih (by omega)]
theorem sq_rg {M : Mm} (hO : OI M) {r : Int → Int} : ∀ k : Nat, (∀ j : Nat, j < k → 0 ≤ r j ∧ r j < M 58 8) → 0 ≤ sq r k ∧ sq r k < o2n M := by
  have hl := o2n_le hO
  intro k
  induction k with
  | zero => intro _; rw [sq]; omega
  | succ k ih => intro h; rw [sq]; exact zor_o hO (ih (fun j hj => h j (by omega))) (h k (by omega))

set_option maxRecDepth 20000 in
set_option maxHeartbeats 4000000 in
theorem ct_X3_chooseRow (E : Ev) (M : Mm) (hO : OI M) (h63 : ∀ s, 0 ≤ s → s < o2n M → 0 ≤ M 63 s ∧ M 63 s ≤ 268435456) : Ct E yX3_chooseRow cX3_chooseRow 4 none 3 [zr E 58] M (pV (fun M' => Sm M M' [64] ∧ oRow M (M 63) (M' 64))) := by
  refine Ct.of (own := RX3) (lv0 := [some (zr E 58), none, none, none]) (by decide) rfl (Nat.le_of_ble_eq_true rfl) rfl (fun κ C => ?_)
  have h810 := hO.1
  have hl := o2n_le hO
  have L4 : ∀ (n9 : Nat) (A : Mm) (k : Nat) (kk set : Int) (u3 : Option Value) (hkk : kk = (k : Int)) (hk : (k : Int) ≤ M 58 8) (hset : set = sq (A 64) k) (hSm : Sm M A [64]) (hrow : ∀ j : Nat, j < k → (0 ≤ A 64 j ∧ A 64 j < M 58 8) ∧ (∀ v, 0 ≤ v → v < A 64 j → ¬ oYes M (M 63) v (sq (A 64) j)) ∧ (A 64 j < M 58 8 - 1 → oYes M (M 63) (A 64 j) (sq (A 64) j))) (hm : (M 58 8 - kk).toNat < n9), Gm E κ (pV (fun M' => Sm M M' [64] ∧ oRow M (M 63) (M' 64))) 4 4 [some (zr E 58), some (zi set), some (zi kk), u3] [] A := by
    intro n9
    induction n9 with
    | zero => intro A k kk set u3 hkk hk hset hSm hrow hm; exact absurd hm (Nat.not_lt_zero _)
    | succ n9 ih4 =>
      intro A k kk set u3 hkk hk hset hSm hrow hm
      have e58 : A 58 = M 58 := hSm 58 (by decide)
      have e63 : A 63 = M 63 := hSm 63 (by decide)
      have hOA : OI A := OI_sm hSm (by decide) (by decide) (by decide) (by decide) (by decide) hO
      have hsr := sq_rg hO (r := A 64) k (fun j hj => (hrow j hj).1)
      have L54 : ∀ (u : Int) (hlt : kk < M 58 8) (hu : 0 ≤ u ∧ u < M 58 8) (hno : ∀ v, 0 ≤ v → v < u → ¬ oYes M (M 63) v (sq (A 64) k)) (hye : u < M 58 8 - 1 → oYes M (M 63) u (sq (A 64) k)), Gm E κ (pV (fun M' => Sm M M' [64] ∧ oRow M (M 63) (M' 64))) 4 54 [some (zr E 58), some (zi set), some (zi kk), some (zi u)] [] A := by
        intro u  hlt hu hno hye
        refine s_aload_n C dX3_chooseRow_54 rfl ?_
        refine s_getr (k := 5) (b := 64) C dX3_chooseRow_55 fl_X3_27 (by decide) rfl (by decide) rfl ?_
        refine s_iload_n C dX3_chooseRow_58 rfl ?_
        refine s_iload_n C dX3_chooseRow_59 rfl ?_
        refine s_iastore (n := 10) C dX3_chooseRow_60 (by decide) rfl rfl (by omega) (by omega) (by omega) (by omega) ?_
        refine s_iload_n C dX3_chooseRow_61 rfl ?_
        refine s_iconst C dX3_chooseRow_62 ?_
        refine s_iload_n C dX3_chooseRow_63 rfl ?_
        refine s_ishl C dX3_chooseRow_64 ?_
        refine s_ior C dX3_chooseRow_65 ?_
        refine s_istore_n (lv' := [_, _, _, _]) C dX3_chooseRow_66 (by decide) rfl rfl ?_
        refine s_iinc (lv' := [_, _, _, _]) C dX3_chooseRow_67 rfl (by decide) rfl rfl rfl ?_
        refine s_goto (tgt := 4) C dX3_chooseRow_70 (by decide) ?_
        have es : sq (mput A 64 kk u 64) k = sq (A 64) k := sq_congr k (fun j hj => by rw [mput_nk (by omega)])
        refine ih4 _ (k + 1) _ _ _ (by omega) (by omega) ?_ (hSm.put (by decide)) ?_ (by omega)
        · rw [sq, es, ← hset, ← hkk, mput_eq]
        · intro j hj
          by_cases c : j = k
          · subst c
            rw [es, ← hkk, mput_eq]
            exact ⟨hu, hno, hye⟩
          · have e2 : sq (mput A 64 kk u 64) j = sq (A 64) j := sq_congr j (fun i hi => by rw [mput_nk (by omega)])
            rw [e2, mput_nk (by omega)]
            exact hrow j (by omega)
      have L14 : ∀ (n9 : Nat) (u : Int) (hlt : kk < M 58 8) (hu : 0 ≤ u ∧ u ≤ M 58 8 - 1) (hno : ∀ v, 0 ≤ v → v < u → ¬ oYes M (M 63) v (sq (A 64) k)) (hm : (M 58 8 - u).toNat < n9), Gm E κ (pV (fun M' => Sm M M' [64] ∧ oRow M (M 63) (M' 64))) 4 14 [some (zr E 58), some (zi set), some (zi kk), some (zi u)] [] A := by
        intro n9
        induction n9 with
        | zero => intro u  hlt hu hno hm; exact absurd hm (Nat.not_lt_zero _)
        | succ n9 ih14 =>
          intro u  hlt hu hno hm
          have L48 : ∀  (hult : u < M 58 8 - 1) (hn1 : ¬ oYes M (M 63) u (sq (A 64) k)), Gm E κ (pV (fun M' => Sm M M' [64] ∧ oRow M (M 63) (M' 64))) 4 48 [some (zr E 58), some (zi set), some (zi kk), some (zi u)] [] A := by
            intro   hult hn1
            refine s_iinc (lv' := [_, _, _, _]) C dX3_chooseRow_48 rfl (by decide) rfl rfl rfl ?_
            refine s_goto (tgt := 14) C dX3_chooseRow_51 (by decide) ?_
            exact ih14 _  (by first | assumption | omega) (by first | assumption | omega) (fun v h1 h2 => by
          by_cases c : v = u
          · rw [c]; exact hn1
          · exact hno v h1 (by omega)) (by omega)
          refine s_iload_n C dX3_chooseRow_14 rfl ?_
          refine s_aload_n C dX3_chooseRow_15 rfl ?_
          refine s_geti (k := 8) (j := 8) (z := M 58 8) C dX3_chooseRow_16 fl_X3_33 (by decide) rfl (by decide) rfl (by rw [e58]) (fun r16 => ?_)
          refine s_iconst C dX3_chooseRow_19 ?_
          refine s_isub C dX3_chooseRow_20 ?_
          refine s_icmp_ge (tgt := 54) C dX3_chooseRow_21 (by decide) (by omega) (by omega) (fun c21 => ?_) (fun c21 => ?_)
          · skip
            exact L54 _  (by first | assumption | omega) (by first | assumption | omega) (by first | assumption | omega) (fun q => by omega)
          · skip
            refine s_aload_n C dX3_chooseRow_24 rfl ?_
            refine s_iload_n C dX3_chooseRow_25 rfl ?_
            refine s_iload_n C dX3_chooseRow_26 rfl ?_
            refine s_callV2 C dX3_chooseRow_27 cy_X3_mayCome cv_X3_mayCome lk_X3_49 (ct_X3_mayCome E A u set hOA (by rw [e58]; omega) (by omega)) (by decide) (by decide) (by first | decide | (decide)) rfl (Nat.le_of_ble_eq_true rfl) (k_P (fun z27 q27 => ?_))
            rw [oMay_sm hSm (by decide)] at q27
            refine s_if_eq (tgt := 48) C dX3_chooseRow_30 (by decide) (by rcases q27 with q | q <;> omega) (fun c30 => ?_) (fun c30 => ?_)
            · skip
              exact L48   (by first | assumption | omega) (fun q => by rcases q27 with ⟨g, _⟩ | ⟨_, g⟩; omega; exact g (by rw [hset]; exact q.1))
            · skip
              have hmay : oMay M u set := by
                rcases q27 with ⟨_, g⟩ | ⟨g, _⟩
                · exact g
                · exact absurd g c30
              have hz6 := zor_o hO (s := set) (u := u) (by omega) (by omega)
              have h6 := h63 _ hz6.1 hz6.2
              refine s_aload_n C dX3_chooseRow_33 rfl ?_
              refine s_iload_n C dX3_chooseRow_34 rfl ?_
              refine s_iload_n C dX3_chooseRow_35 rfl ?_
              refine s_callV2 C dX3_chooseRow_36 cy_X3_costWith cv_X3_costWith lk_X3_53 (ct_X3_costWith E A u set hOA (by rw [e58]; omega) (by rw [e58]; exact ⟨by omega, by rw [hset]; exact hsr.2⟩) (by rw [e63]; omega)) (by decide) (by decide) (by first | decide | (decide)) rfl (Nat.le_of_ble_eq_true rfl) (k_P (fun z36 q36 => ?_))
              have e36 : oCst A u set = oCf M (M 63) u set := by
                unfold oCst oCf
                rw [oStep_sm hSm (by decide) (by decide) (by decide) (by decide), e63]
              rw [e36] at q36
              subst q36
              have hcr : rg (oCf M (M 63) u set) := by
                have := oStep_rg hO (set := set) (u := u) (by omega)
                unfold oCf
                omega
              refine s_aload_n C dX3_chooseRow_39 rfl ?_
              refine s_getr (k := 4) (b := 63) C dX3_chooseRow_40 fl_X3_24 (by decide) rfl (by decide) rfl ?_
              refine s_iload_n C dX3_chooseRow_43 rfl ?_
              refine s_iaload (n := 1024) (z := M 63 set) C dX3_chooseRow_44 (by decide) rfl rfl (by omega) (by omega) (by omega) (by rw [e63]) (fun r44 => ?_)
              refine s_icmp_eq (tgt := 54) C dX3_chooseRow_45 (by decide) (by omega) (by omega) (fun c45 => ?_) (fun c45 => ?_)
              · skip
                exact L54 _  (by first | assumption | omega) (by first | assumption | omega) (by first | assumption | omega) (fun _ => by rw [← hset]; exact ⟨hmay, c45⟩)
              · skip
                exact L48   (by first | assumption | omega) (fun q => c45 (by rw [hset]; exact q.2))
      refine s_iload_n C dX3_chooseRow_4 rfl ?_
      refine s_aload_n C dX3_chooseRow_5 rfl ?_
      refine s_geti (k := 8) (j := 8) (z := M 58 8) C dX3_chooseRow_6 fl_X3_33 (by decide) rfl (by decide) rfl (by rw [e58]) (fun r6 => ?_)
      refine s_icmp_ge (tgt := 73) C dX3_chooseRow_9 (by decide) (by omega) (by omega) (fun c9 => ?_) (fun c9 => ?_)
      · skip
        exact s_return C dX3_chooseRow_73 (⟨rfl, ⟨hSm, fun j hj => hrow j (by omega)⟩⟩)
      · skip
        refine s_iconst C dX3_chooseRow_12 ?_
        refine s_istore_n (lv' := [_, _, _, _]) C dX3_chooseRow_13 (by decide) rfl rfl ?_
        exact L14 _ _  (by first | assumption | omega) (by first | assumption | omega) (fun v h1 h2 => by omega) (Nat.lt_succ_self _)
  refine s_iconst C dX3_chooseRow_0 ?_
  refine s_istore_n (lv' := [_, _, _, _]) C dX3_chooseRow_1 (by decide) rfl rfl ?_
  refine s_iconst C dX3_chooseRow_2 ?_
  refine s_istore_n (lv' := [_, _, _, _]) C dX3_chooseRow_3 (by decide) rfl rfl ?_
  exact L4 _ M 0 0 0 _ rfl (by omega) rfl (Sm.rf M _) (fun j hj => by omega) (Nat.lt_succ_self _)

set_option maxRecDepth 20000 in
set_option maxHeartbeats 4000000 in
theorem ct_X3_solve (E : Ev) (M : Mm) (hO : OI M) : Ct E yX3_solve cX3_solve 4 (some .boolean) 4 [zr E 58] M (pI (fun z M' => Sm M M' [63, 64] ∧ oEq M (M' 63) ∧ ((z = 0 ∧ 268435456 ≤ M' 63 0) ∨ (z = 1 ∧ M' 63 0 < 268435456 ∧ oRow M (M' 63) (M' 64))))) := by
  refine Ct.of (own := RX3) (lv0 := [some (zr E 58), none, none, none]) (by decide) rfl (Nat.le_of_ble_eq_true rfl) rfl (fun κ C => ?_)
  have h810 := hO.1
  have hl := o2n_le hO
  have L20 : ∀ (n9 : Nat) (A : Mm) (s : Int) (u3 : Option Value) (hs : -1 ≤ s ∧ s < o2n M - 1) (hSm : Sm M A [63]) (hall : A 63 (o2n M - 1) = 0) (hok : ∀ t, s < t → t < o2n M - 1 → A 63 t = oMn M (A 63) t (M 58 8).toNat) (hb : ∀ t, s < t → t < o2n M → 0 ≤ A 63 t ∧ A 63 t ≤ 268435456) (hm : (s + 1).toNat < n9), Gm E κ (pI (fun z M' => Sm M M' [63, 64] ∧ oEq M (M' 63) ∧ ((z = 0 ∧ 268435456 ≤ M' 63 0) ∨ (z = 1 ∧ M' 63 0 < 268435456 ∧ oRow M (M' 63) (M' 64))))) 4 20 [some (zr E 58), some (zi (zshl 1 (M 58 8) - 1)), some (zi s), u3] [] A := by
    intro n9
    induction n9 with
    | zero => intro A s u3 hs hSm hall hok hb hm; exact absurd hm (Nat.not_lt_zero _)
    | succ n9 ih20 =>
      intro A s u3 hs hSm hall hok hb hm
      have e58 : A 58 = M 58 := hSm 58 (by decide)
      have L34 : ∀ (n9 : Nat) (B : Mm) (u : Nat) (uu : Int) (huu : uu = (u : Int)) (hu : (u : Int) ≤ M 58 8) (hs0 : 0 ≤ s) (hSmB : Sm M B [63]) (hBA : ∀ t, t ≠ s → B 63 t = A 63 t) (hBs : B 63 s = oMn M (B 63) s u) (hBb : 0 ≤ B 63 s ∧ B 63 s ≤ 268435456) (hm : (M 58 8 - uu).toNat < n9), Gm E κ (pI (fun z M' => Sm M M' [63, 64] ∧ oEq M (M' 63) ∧ ((z = 0 ∧ 268435456 ≤ M' 63 0) ∨ (z = 1 ∧ M' 63 0 < 268435456 ∧ oRow M (M' 63) (M' 64))))) 4 34 [some (zr E 58), some (zi (zshl 1 (M 58 8) - 1)), some (zi s), some (zi uu)] [] B := by
        intro n9
        induction n9 with
        | zero => intro B u uu  huu hu hs0 hSmB hBA hBs hBb hm; exact absurd hm (Nat.not_lt_zero _)
        | succ n9 ih34 =>
          intro B u uu  huu hu hs0 hSmB hBA hBs hBb hm
          have e58B : B 58 = M 58 := hSmB 58 (by decide)
          have hOB : OI B := OI_sm hSmB (by decide) (by decide) (by decide) (by decide) (by decide) hO
          have L72 : ∀ (D : Mm) (hult : uu < M 58 8) (hSmD : Sm M D [63]) (hDA : ∀ t, t ≠ s → D 63 t = A 63 t) (hDs : D 63 s = oMn M (D 63) s (u + 1)) (hDb : 0 ≤ D 63 s ∧ D 63 s ≤ 268435456), Gm E κ (pI (fun z M' => Sm M M' [63, 64] ∧ oEq M (M' 63) ∧ ((z = 0 ∧ 268435456 ≤ M' 63 0) ∨ (z = 1 ∧ M' 63 0 < 268435456 ∧ oRow M (M' 63) (M' 64))))) 4 72 [some (zr E 58), some (zi (zshl 1 (M 58 8) - 1)), some (zi s), some (zi uu)] [] D := by
            intro D  hult hSmD hDA hDs hDb
            refine s_iinc (lv' := [_, _, _, _]) C dX3_solve_72 rfl (by decide) rfl rfl rfl ?_
            refine s_goto (tgt := 34) C dX3_solve_75 (by decide) ?_
            exact ih34 _ (u + 1) _ (by omega) (by omega) hs0 hSmD hDA hDs hDb (by omega)
          refine s_iload_n C dX3_solve_34 rfl ?_
          refine s_aload_n C dX3_solve_35 rfl ?_
          refine s_geti (k := 8) (j := 8) (z := M 58 8) C dX3_solve_36 fl_X3_33 (by decide) rfl (by decide) rfl (by rw [e58B]) (fun r36 => ?_)
          refine s_icmp_ge (tgt := 78) C dX3_solve_39 (by decide) (by omega) (by omega) (fun c39 => ?_) (fun c39 => ?_)
          · skip
            refine s_iinc (lv' := [_, _, _, _]) C dX3_solve_78 rfl (by decide) rfl rfl rfl ?_
            refine s_goto (tgt := 20) C dX3_solve_81 (by decide) ?_
            have hcong : ∀ t, s < t → t < o2n M - 1 → oMn M (A 63) t (M 58 8).toNat = oMn M (B 63) t (M 58 8).toNat := fun t h1 h2 => oMn_congr hO (by omega) (fun q g1 g2 => (hBA q (by omega)).symm) _ (by omega)
            refine ih20 _ _ _ (by omega) hSmB (by rw [hBA _ (by omega)]; exact hall) ?_ ?_ (by omega)
            · intro t h1 h2
              by_cases c : t = s
              · rw [c, hBs, show u = (M 58 8).toNat by omega]
              · rw [hBA t c, hok t (by omega) h2, hcong t (by omega) h2]
            · intro t h1 h2
              by_cases c : t = s
              · rw [c]; exact hBb
              · rw [hBA t c]; exact hb t (by omega) h2
          · skip
            refine s_aload_n C dX3_solve_42 rfl ?_
            refine s_iload_n C dX3_solve_43 rfl ?_
            refine s_iload_n C dX3_solve_44 rfl ?_
            refine s_callV2 C dX3_solve_45 cy_X3_mayCome cv_X3_mayCome lk_X3_49 (ct_X3_mayCome E B uu s hOB (by rw [e58B]; omega) (by omega)) (by decide) (by decide) (by first | decide | (decide)) rfl (Nat.le_of_ble_eq_true rfl) (k_P (fun z45 q45 => ?_))
            rw [oMay_sm hSmB (by decide), huu] at q45
            refine s_if_eq (tgt := 72) C dX3_solve_48 (by decide) (by rcases q45 with q | q <;> omega) (fun c48 => ?_) (fun c48 => ?_)
            · skip
              exact L72 _  (by first | assumption | omega) (hSmB) (hBA) (by rw [oMn_neg (by rcases q45 with ⟨g, _⟩ | ⟨_, g⟩; omega; exact g)]; exact hBs) (hBb)
            · skip
              have hmay : oMay M (u : Int) s := by
                rcases q45 with ⟨_, g⟩ | ⟨g, _⟩
                · exact g
                · exact absurd g c48
              have hz6 := zor_o hO (s := s) (u := uu) (by omega) (by omega)
              have hgt := zor_gt (s := s) (u := uu) (by omega) (by omega) (by rw [huu]; exact hmay.1)
              have h6 : 0 ≤ B 63 (zor s (zshl 1 uu)) ∧ B 63 (zor s (zshl 1 uu)) ≤ 268435456 := by
                rw [hBA _ (by omega)]; exact hb _ hgt hz6.2
              have hst := oStep_nn hO (u := uu) (s := s) (by omega) (by omega) (by rw [huu]; exact hmay.1)
              refine s_aload_n C dX3_solve_51 rfl ?_
              refine s_getr (k := 4) (b := 63) C dX3_solve_52 fl_X3_24 (by decide) rfl (by decide) rfl ?_
              refine s_iload_n C dX3_solve_55 rfl ?_
              refine s_aload_n C dX3_solve_56 rfl ?_
              refine s_getr (k := 4) (b := 63) C dX3_solve_57 fl_X3_24 (by decide) rfl (by decide) rfl ?_
              refine s_iload_n C dX3_solve_60 rfl ?_
              refine s_iaload (n := 1024) C dX3_solve_61 (by decide) rfl rfl (by omega) (by omega) (by omega) (rfl) (fun r61 => ?_)
              refine s_aload_n C dX3_solve_62 rfl ?_
              refine s_iload_n C dX3_solve_63 rfl ?_
              refine s_iload_n C dX3_solve_64 rfl ?_
              refine s_callV2 C dX3_solve_65 cy_X3_costWith cv_X3_costWith lk_X3_53 (ct_X3_costWith E B uu s hOB (by rw [e58B]; omega) (by rw [e58B]; exact ⟨by omega, by show s < o2n M; omega⟩) (by omega)) (by decide) (by decide) (by first | decide | (decide)) rfl (Nat.le_of_ble_eq_true rfl) (k_P (fun z65 q65 => ?_))
              have e65 : oCst B uu s = oCf M (B 63) uu s := by
                unfold oCst oCf
                rw [oStep_sm hSmB (by decide) (by decide) (by decide) (by decide)]
              rw [e65] at q65
              subst q65
              have hcr : 0 ≤ oCf M (B 63) uu s ∧ oCf M (B 63) uu s ≤ 268435456 := by
                unfold oCf
                omega
              refine s_min C dX3_solve_68 lm_X3_57 js_min ji_Math jc_min (by decide) (Nat.le_of_ble_eq_true rfl) (by omega) (by omega) ?_
              refine s_iastore (n := 1024) C dX3_solve_71 (by decide) rfl rfl (by omega) (by omega) (by omega) (by omega) ?_
              exact L72 _  (by first | assumption | omega) (hSmB.put (by decide)) (fun t ht => by rw [mput_nk ht]; exact hBA t ht) (by
            rw [mput_eq, oMn_congr hO (s := s) (f := mput B 63 s (min (B 63 s) (oCf M (B 63) uu s)) 63) (g := B 63) (by omega) (fun t h1 h2 => mput_nk (by omega)) (u + 1) (by omega), oMn_pos hmay, ← hBs, ← huu]) (by rw [mput_eq]; omega)
      refine s_iload_n C dX3_solve_20 rfl ?_
      refine s_if_lt (tgt := 84) C dX3_solve_21 (by decide) (by omega) (fun c21 => ?_) (fun c21 => ?_)
      · skip
        have hEq : oEq M (A 63) := ⟨hall, fun t h1 h2 => hok t (by omega) h2, fun t h1 h2 => hb t (by omega) h2⟩
        have hOA : OI A := OI_sm hSm (by decide) (by decide) (by decide) (by decide) (by decide) hO
        have e2n : o2n A = o2n M := by unfold o2n; rw [e58]
        refine s_aload_n C dX3_solve_84 rfl ?_
        refine s_getr (k := 4) (b := 63) C dX3_solve_85 fl_X3_24 (by decide) rfl (by decide) rfl ?_
        refine s_iconst C dX3_solve_88 ?_
        refine s_iaload (n := 1024) C dX3_solve_89 (by decide) rfl rfl (by omega) (by omega) (by omega) (rfl) (fun r89 => ?_)
        refine s_ldc C dX3_solve_90 kc_X3_48 ?_
        refine s_icmp_lt (tgt := 97) C dX3_solve_92 (by decide) (by omega) (by omega) (fun c92 => ?_) (fun c92 => ?_)
        · skip
          refine s_aload_n C dX3_solve_97 rfl ?_
          refine s_callV0 C dX3_solve_98 cy_X3_chooseRow cv_X3_chooseRow lk_X3_62 (ct_X3_chooseRow E A hOA (by rw [e2n]; exact hEq.2.2)) (by decide) (by decide) (by first | decide | (decide)) rfl (Nat.le_of_ble_eq_true rfl) (k_V (fun M98 q98 => ?_))
          refine s_iconst C dX3_solve_101 ?_
          exact s_zreturn C dX3_solve_102 (by decide) (⟨_, rfl, by
      obtain ⟨o1, o2⟩ := q98
      have e63 : M98 63 = A 63 := o1 63 (by decide)
      refine ⟨hSm.tr o1 (fun a h => by rw [List.mem_singleton.mp h]; decide) (fun a h => by rw [List.mem_singleton.mp h]; decide), by rw [e63]; exact hEq, Or.inr ⟨rfl, by rw [e63]; exact c92, ?_⟩⟩
      rw [e63]
      intro k hk
      have := o2 k (by rw [e58]; exact hk)
      unfold oYes oCf at *
      rw [e58] at this
      simp only [oMay_sm hSm (show 62 ∉ [63] by decide), oStep_sm hSm (show 58 ∉ [63] by decide) (show 59 ∉ [63] by decide) (show 60 ∉ [63] by decide) (show 61 ∉ [63] by decide)] at this
      exact this⟩)
        · skip
          refine s_iconst C dX3_solve_95 ?_
          exact s_zreturn C dX3_solve_96 (by decide) (⟨_, rfl, ⟨fun a ha => hSm a (fun q => ha (by rw [List.mem_singleton.mp q]; decide)), hEq, Or.inl ⟨rfl, c92⟩⟩⟩)
      · skip
        refine s_aload_n C dX3_solve_24 rfl ?_
        refine s_getr (k := 4) (b := 63) C dX3_solve_25 fl_X3_24 (by decide) rfl (by decide) rfl ?_
        refine s_iload_n C dX3_solve_28 rfl ?_
        refine s_ldc C dX3_solve_29 kc_X3_48 ?_
        refine s_iastore (n := 1024) C dX3_solve_31 (by decide) rfl rfl (by omega) (by omega) (by omega) (by decide) ?_
        refine s_iconst C dX3_solve_32 ?_
        refine s_istore_n (lv' := [_, _, _, _]) C dX3_solve_33 (by decide) rfl rfl ?_
        exact L34 _ _ 0 _ rfl (by omega) (by omega) (hSm.put (by decide)) (fun t ht => mput_nk ht) (by rw [mput_eq]; rfl) (by rw [mput_eq]; omega) (Nat.lt_succ_self _)
  refine s_iconst C dX3_solve_0 ?_
  refine s_aload_n C dX3_solve_1 rfl ?_
  refine s_geti (k := 8) (j := 8) C dX3_solve_2 fl_X3_33 (by decide) rfl (by decide) rfl (rfl) (fun r2 => ?_)
  refine s_ishl C dX3_solve_5 ?_
  refine s_iconst C dX3_solve_6 ?_
  refine s_isub C dX3_solve_7 ?_
  refine s_istore_n (lv' := [_, _, _, _]) C dX3_solve_8 (by decide) rfl rfl ?_
  refine s_aload_n C dX3_solve_9 rfl ?_
  refine s_getr (k := 4) (b := 63) C dX3_solve_10 fl_X3_24 (by decide) rfl (by decide) rfl ?_
  refine s_iload_n C dX3_solve_13 rfl ?_
  refine s_iconst C dX3_solve_14 ?_
  refine s_iastore (n := 1024) C dX3_solve_15 (by decide) rfl rfl (by omega) (by omega) (by omega) (by decide) ?_
  refine s_iload_n C dX3_solve_16 rfl ?_
  refine s_iconst C dX3_solve_17 ?_
  refine s_isub C dX3_solve_18 ?_
  refine s_istore_n (lv' := [_, _, _, _]) C dX3_solve_19 (by decide) rfl rfl ?_
  exact L20 _ _ _ _ (by omega) ((Sm.rf M _).put (by decide)) (by rw [hl.2.2, mput_eq]) (fun t h1 h2 => by omega) (fun t h1 h2 => by rw [show t = zshl 1 (M 58 8) - 1 by omega, mput_eq]; omega) (Nat.lt_succ_self _)
