/-- items as reckon needs them -/
def RO (M : Mm) : Prop := (1 ≤ M 66 47 ∧ M 66 47 ≤ 10) ∧ ∀ k, 0 ≤ k → k < M 66 47 → (1 ≤ M 99 k ∧ M 99 k ≤ 24) ∧ (0 ≤ M 100 k ∧ M 100 k ≤ 24) ∧ (0 ≤ M 101 k ∧ M 101 k < 1024) ∧ (0 ≤ M 98 k ∧ M 98 k < 24)
def ssz (M : Mm) (s : Int) (k : Nat) : Int := sumI (fun q => if s.toNat.testBit q.toNat then M 99 q else 0) k
def ahN (s : Int) (k : Nat) : Int := cntB (fun j => decide (1 ≤ j) && s.toNat.testBit j.toNat) k
def r2n (M : Mm) : Int := ((2 ^ (M 66 47).toNat : Nat) : Int)
def rPl (M : Mm) (s k : Int) : Int := if 0 < k then (if inS s 0 then ssz M s (M 66 47).toNat + M 100 k else -(ssz M s (M 66 47).toNat + M 100 k)) else ssz M s (M 66 47).toNat * (ahN s (M 66 47).toNat - (M 66 47 - 1 - ahN s (M 66 47).toNat))
def rMay (M : Mm) (k s : Int) : Prop := ¬ inS s k ∧ ∀ j, (M 101 k).toNat.testBit j = true → s.toNat.testBit j = true
noncomputable def rMn (M : Mm) (g : Int → Int) (s : Int) : Nat → Int
  | 0 => if s = r2n M - 1 then 0 else 1000000
  | k + 1 => @ite Int (rMay M (k : Int) s ∧ g (zor s (zshl 1 (k : Int))) < 1000000) (Classical.propDecidable _) (min (rMn M g s k) (rPl M s (k : Int) + g (zor s (zshl 1 (k : Int))))) (rMn M g s k)
theorem rMn_pos {M : Mm} {g : Int → Int} {s : Int} {k : Nat} (h : rMay M (k : Int) s ∧ g (zor s (zshl 1 (k : Int))) < 1000000) : rMn M g s (k + 1) = min (rMn M g s k) (rPl M s (k : Int) + g (zor s (zshl 1 (k : Int)))) := by rw [rMn, if_pos h]
theorem rMn_neg {M : Mm} {g : Int → Int} {s : Int} {k : Nat} (h : ¬ (rMay M (k : Int) s ∧ g (zor s (zshl 1 (k : Int))) < 1000000)) : rMn M g s (k + 1) = rMn M g s k := by rw [rMn, if_neg h]
def rYes (M : Mm) (g : Int → Int) (k s : Int) : Prop := rMay M k s ∧ g (zor s (zshl 1 k)) < 1000000 ∧ rPl M s k + g (zor s (zshl 1 k)) = g s
def rEq (M : Mm) (g : Int → Int) : Prop := ∀ s, 0 ≤ s → s < r2n M → g s = rMn M g s (M 66 47).toNat ∧ -3072000 ≤ g s ∧ g s ≤ 1000000
def rRow (M : Mm) (g r : Int → Int) (n : Nat) : Prop := ∀ i : Nat, i < n → (0 ≤ r i ∧ r i < M 66 47) ∧ rYes M g (r i) (sq r i) ∧ ∀ k, 0 ≤ k → k < M 66 47 → rYes M g k (sq r i) → M 98 (r i) ≤ M 98 k
theorem ssz_s (M : Mm) (s : Int) (k : Nat) : ssz M s (k + 1) = ssz M s k + (if s.toNat.testBit k then M 99 (k : Int) else 0) := by
  unfold ssz
  rw [sumI]
  simp only [Int.toNat_natCast]
theorem ssz_rg {M : Mm} (h : RO M) (s : Int) : ∀ k : Nat, (k : Int) ≤ M 66 47 → 0 ≤ ssz M s k ∧ ssz M s k ≤ 24 * (k : Int) := by
  intro k
  induction k with
  | zero => intro _; exact ⟨Int.le_refl _, Int.le_refl _⟩
  | succ k ih =>
    intro hk
    have i2 := ih (by omega)
    have b := (h.2 (k : Int) (by omega) (by omega)).1
    rw [ssz_s]
    split <;> omega
theorem mulw {a b : Int} (ha : 0 ≤ a ∧ a ≤ 240) (hb : -10 ≤ b ∧ b ≤ 10) : -2400 ≤ a * b ∧ a * b ≤ 2400 := by
  have h1 : a * b ≤ a * 10 := Int.mul_le_mul_of_nonneg_left hb.2 ha.1
  have h2 : a * (-10) ≤ a * b := Int.mul_le_mul_of_nonneg_left hb.1 ha.1
  omega
theorem ahN_rg (s : Int) : ∀ k : Nat, 0 ≤ ahN s k ∧ ahN s k ≤ (k : Int) ∧ ahN s k ≤ max 0 ((k : Int) - 1) := by
  intro k
  induction k with
  | zero => exact ⟨Int.le_refl _, Int.le_refl _, by simp only [ahN, cntB]; omega⟩
  | succ k ih =>
    have e : ahN s (k + 1) = ahN s k + (if (decide (1 ≤ (k : Int)) && s.toNat.testBit (k : Int).toNat) then 1 else 0) := rfl
    rw [e]
    by_cases c : (decide (1 ≤ (k : Int)) && s.toNat.testBit (k : Int).toNat) = true
    · rw [if_pos c]
      have : 1 ≤ (k : Int) := by simp at c; omega
      omega
    · rw [if_neg c]; omega
theorem rPl_rg {M : Mm} (h : RO M) {s k : Int} (hk : 0 ≤ k ∧ k < M 66 47) : -3000 ≤ rPl M s k ∧ rPl M s k ≤ 3000 := by
  have h1 := h.1
  have h2 := h.2 k hk.1 hk.2
  have h3 := ssz_rg h s (M 66 47).toNat (by omega)
  have h4 := ahN_rg s (M 66 47).toNat
  have h5 := mulw (a := ssz M s (M 66 47).toNat) (b := ahN s (M 66 47).toNat - (M 66 47 - 1 - ahN s (M 66 47).toNat)) (by omega) (by omega)
  unfold rPl
  split
  · split <;> omega
  · omega
theorem r2n_le {M : Mm} (h : RO M) : 2 ≤ r2n M ∧ r2n M ≤ 1024 ∧ zshl 1 (M 66 47) = r2n M := by
  have hm := h.1
  have key : ∀ j : Nat, j < 11 → 1 ≤ j → 2 ≤ ((2 ^ j : Nat) : Int) ∧ ((2 ^ j : Nat) : Int) ≤ 1024 := by decide +kernel
  have k2 := key (M 66 47).toNat (by omega) (by omega)
  have k3 := zshl1 (M 66 47).toNat (by omega)
  rw [Int.toNat_of_nonneg (by omega)] at k3
  exact ⟨k2.1, k2.2, k3⟩
theorem zor_r {M : Mm} (h : RO M) {s u : Int} (hs : 0 ≤ s ∧ s < r2n M) (hu : 0 ≤ u ∧ u < M 66 47) : 0 ≤ zor s (zshl 1 u) ∧ zor s (zshl 1 u) < r2n M := zor_lt (n := M 66 47) (by have := h.1; omega) hs hu
theorem rMn_cg {M : Mm} {g g' : Int → Int} {s : Int} (h : RO M) (hs : 0 ≤ s ∧ s < r2n M) (hg : ∀ t, s < t → t < r2n M → g t = g' t) : ∀ k : Nat, (k : Int) ≤ M 66 47 → rMn M g s k = rMn M g' s k := by
  intro k
  induction k with
  | zero => intro _; rfl
  | succ k ih =>
    intro hk
    have i2 := ih (by omega)
    have r2 := r2n_le h
    by_cases c : inS s (k : Int)
    · rw [rMn_neg (fun q => q.1.1 c), rMn_neg (fun q => q.1.1 c), i2]
    · have e := hg (zor s (zshl 1 (k : Int))) (zor_gt (by omega) (by have := h.1; omega) c) (zor_r h hs (by omega)).2
      by_cases c2 : rMay M (k : Int) s ∧ g (zor s (zshl 1 (k : Int))) < 1000000
      · rw [rMn_pos c2, rMn_pos (by rw [← e]; exact c2), i2, e]
      · rw [rMn_neg c2, rMn_neg (by rw [← e]; exact c2), i2]
theorem rMn_at {M : Mm} {g : Int → Int} {s : Int} (hs : s ≠ r2n M - 1) : ∀ k : Nat, rMn M g s k = 1000000 ∨ ∃ q : Nat, q < k ∧ rMay M (q : Int) s ∧ g (zor s (zshl 1 (q : Int))) < 1000000 ∧ rPl M s (q : Int) + g (zor s (zshl 1 (q : Int))) = rMn M g s k := by
  intro k
  induction k with
  | zero => left; rw [rMn, if_neg hs]
  | succ k ih =>
    by_cases c : rMay M (k : Int) s ∧ g (zor s (zshl 1 (k : Int))) < 1000000
    · rw [rMn_pos c]
      by_cases c2 : rPl M s (k : Int) + g (zor s (zshl 1 (k : Int))) ≤ rMn M g s k
      · exact Or.inr ⟨k, by omega, c.1, c.2, by omega⟩
      · rcases ih with g1 | ⟨q, q1, q2, q3, q4⟩
        · left; omega
        · exact Or.inr ⟨q, by omega, q2, q3, by omega⟩
    · rw [rMn_neg c]
      rcases ih with g1 | ⟨q, q1, q2⟩
      · exact Or.inl g1
      · exact Or.inr ⟨q, by omega, q2⟩
theorem rMn_rg {M : Mm} {g : Int → Int} {s : Int} (h : RO M) (hs : 0 ≤ s ∧ s < r2n M) (hg : ∀ t, s < t → t < r2n M → -3000 * (1024 - t) ≤ g t) : ∀ k : Nat, (k : Int) ≤ M 66 47 → -3000 * (1024 - s) ≤ rMn M g s k ∧ rMn M g s k ≤ 1000000 := by
  intro k
  have r2 := r2n_le h
  induction k with
  | zero => intro _; rw [rMn]; split <;> omega
  | succ k ih =>
    intro hk
    have i2 := ih (by omega)
    by_cases c : rMay M (k : Int) s ∧ g (zor s (zshl 1 (k : Int))) < 1000000
    · rw [rMn_pos c]
      have z1 := zor_gt (s := s) (u := (k : Int)) (by omega) (by have := h.1; omega) c.1.1
      have z2 := (zor_r h hs (u := (k : Int)) (by omega)).2
      have z3 := hg _ z1 z2
      have z4 := rPl_rg h (s := s) (k := (k : Int)) (by omega)
      omega
    · rw [rMn_neg c]; exact i2
theorem cntB_up {f g : Int → Bool} {u : Int} : ∀ n : Nat, 0 ≤ u → u < (n : Int) → f u = false → g u = true → (∀ q : Int, 0 ≤ q → q ≠ u → g q = f q) → cntB g n = cntB f n + 1 := by
  intro n
  induction n with
  | zero => intro a b; omega
  | succ n ih =>
    intro a b c d e
    rw [cntB, cntB]
    by_cases h : u = (n : Int)
    · subst h
      rw [if_pos d, if_neg (by rw [c]; decide), cntB_congr n (fun q q0 q1 => e q q0 (by omega))]
      omega
    · rw [ih a (by omega) c d e, e (n : Int) (by omega) (fun q => h q.symm)]
      omega
theorem pcS_or {s u : Int} (hs : 0 ≤ s ∧ s < 1024) (hu : 0 ≤ u ∧ u < 10) (hn : ¬ inS s u) : pcS (zor s (zshl 1 u)) = pcS s + 1 := by
  unfold pcS
  refine cntB_up 10 hu.1 (by omega) (by simpa using hn) ((inS_or (by omega) (by omega) u).mpr (Or.inr rfl)) (fun q q0 q1 => ?_)
  have h := inS_or (x := s) (by omega) (k := u) (by omega) q
  by_cases c : inS s q
  · rw [show s.toNat.testBit q.toNat = true from c]
    exact h.mpr (Or.inl c)
  · have c2 : ¬ inS (zor s (zshl 1 u)) q := fun g => (h.mp g).elim c (fun g => by omega)
    rw [Bool.eq_false_iff.mpr c, Bool.eq_false_iff.mpr c2]
theorem pcS_all : ∀ m : Nat, m ≤ 10 → pcS (((2 ^ m : Nat) : Int) - 1) = (m : Int) := by decide +kernel

set_option maxRecDepth 20000 in
set_option maxHeartbeats 4000000 in
theorem ct_X11_placing (E : Ev) (M : Mm) (hO : RO M) (s k : Int) (hs : 0 ≤ s ∧ s < 1024) (hk : 0 ≤ k ∧ k < M 66 47) (h102 : M 102 s = ssz M s (M 66 47).toNat) : Ct E yX11_placing cX11_placing 7 (some .int) 0 [zr E 66, zi s, zi k] M (pP M (fun z => z = rPl M s k)) := by
  refine Ct.of (own := RX11) (lv0 := [some (zr E 66), some (zi s), some (zi k), none, none, none, none]) (by decide) rfl (Nat.le_of_ble_eq_true rfl) rfl (fun κ C => ?_)
  have hm := hO.1
  have hbit := zbitS (x := s) (by omega) (k := 0) (by omega)
  rw [show zshr s 0 = s from by have := zshr_n (x := s) (by omega) (j := 0) (by omega); simpa using (this.trans (by simp; omega))] at hbit
  have hsz := ssz_rg hO s (M 66 47).toNat (by omega)
  have hb0 := (hO.2 k hk.1 hk.2).2.1
  have L19 : ∀ (b : Int) (u4 u5 u6 : Option Value) (hb : Bz b (inS s 0)), Gm E κ (pP M (fun z => z = rPl M s k)) 7 19 [some (zr E 66), some (zi s), some (zi k), some (zi (ssz M s (M 66 47).toNat)), u4, u5, u6] [zi b] M := by
    intro b u4 u5 u6 hb
    have hb1 := hb.b
    have L57 : ∀ (n9 : Nat) (q : Nat) (hq : 1 ≤ (q : Int) ∧ (q : Int) ≤ M 66 47) (hk0 : k ≤ 0) (hm : (M 66 47 - (q : Int)).toNat < n9), Gm E κ (pP M (fun z => z = rPl M s k)) 7 57 [some (zr E 66), some (zi s), some (zi k), some (zi (ssz M s (M 66 47).toNat)), some (zi b), some (zi (ahN s q)), some (zi (q : Int))] [] M := by
      intro n9
      induction n9 with
      | zero => intro q  hq hk0 hm; exact absurd hm (Nat.not_lt_zero _)
      | succ n9 ih57 =>
        intro q  hq hk0 hm
        refine s_iload C dX11_placing_57 rfl ?_
        refine s_aload_n C dX11_placing_59 rfl ?_
        refine s_geti (k := 47) (j := 47) C dX11_placing_60 fl_X11_271 (by decide) rfl (by decide) rfl (rfl) (fun r60 => ?_)
        refine s_icmp_ge (tgt := 83) C dX11_placing_63 (by decide) (by first | omega | exact rg_zand _ _) (by first | omega | exact rg_zand _ _) (fun c63 => ?_) (fun c63 => ?_)
        · skip
          refine s_iload_n C dX11_placing_83 rfl ?_
          refine s_iload C dX11_placing_84 rfl ?_
          refine s_aload_n C dX11_placing_86 rfl ?_
          refine s_geti (k := 47) (j := 47) C dX11_placing_87 fl_X11_271 (by decide) rfl (by decide) rfl (rfl) (fun r87 => ?_)
          refine s_iconst C dX11_placing_90 ?_
          refine s_isub C dX11_placing_91 ?_
          refine s_iload C dX11_placing_92 rfl ?_
          refine s_isub C dX11_placing_94 ?_
          refine s_isub C dX11_placing_95 ?_
          refine s_imul C dX11_placing_96 ?_
          exact s_ireturn C dX11_placing_97 (⟨_, rfl, rfl, by unfold rPl; rw [if_neg (by omega), show (M 66 47).toNat = q by omega]⟩)
        · skip
          have hbq := zbitS (x := s) (by omega) (k := (q : Int)) (by omega)
          refine s_iload C dX11_placing_66 rfl ?_
          refine s_iload_n C dX11_placing_68 rfl ?_
          refine s_iload C dX11_placing_69 rfl ?_
          refine s_ishr C dX11_placing_71 ?_
          refine s_iconst C dX11_placing_72 ?_
          refine s_iand C dX11_placing_73 ?_
          refine s_iadd C dX11_placing_74 ?_
          refine s_istore (lv' := [_, _, _, _, _, _, _]) C dX11_placing_75 (by decide) rfl rfl ?_
          refine s_iinc (lv' := [_, _, _, _, _, _, _]) C dX11_placing_77 rfl (by decide) rfl rfl rfl ?_
          refine s_goto (tgt := 57) C dX11_placing_80 (by decide) ?_
          have e9 : ahN s (q + 1) = ahN s q + zand (zshr s (q : Int)) 1 := by
            have e : ahN s (q + 1) = ahN s q + (if (decide (1 ≤ (q : Int)) && s.toNat.testBit (q : Int).toNat) then 1 else 0) := rfl
            rw [e]
            rcases hbq with ⟨g1, g2⟩ | ⟨g1, g2⟩
            · rw [g2, if_pos (by simp only [Bool.and_eq_true, decide_eq_true_eq]; exact ⟨hq.1, g1⟩)]
            · rw [g2, if_neg (by simp only [Bool.and_eq_true, decide_eq_true_eq]; exact fun h => g1 h.2)]
          rw [← e9]
          exact ih57 (q + 1) (by omega) hk0 (by omega)
    refine s_istore (lv' := [_, _, _, _, _, _, _]) C dX11_placing_19 (by decide) rfl rfl ?_
    refine s_iload_n C dX11_placing_21 rfl ?_
    refine s_if_le (tgt := 51) C dX11_placing_22 (by decide) (by first | omega | exact rg_zand _ _) (fun c22 => ?_) (fun c22 => ?_)
    · skip
      refine s_iconst C dX11_placing_51 ?_
      refine s_istore (lv' := [_, _, _, _, _, _, _]) C dX11_placing_52 (by decide) rfl rfl ?_
      refine s_iconst C dX11_placing_54 ?_
      refine s_istore (lv' := [_, _, _, _, _, _, _]) C dX11_placing_55 (by decide) rfl rfl ?_
      exact L57 _ 1 (by omega) (by omega) (Nat.lt_succ_self _)
    · skip
      refine s_iload C dX11_placing_25 rfl ?_
      refine s_if_eq (tgt := 41) C dX11_placing_27 (by decide) (by first | omega | exact rg_zand _ _) (fun c27 => ?_) (fun c27 => ?_)
      · skip
        refine s_iload_n C dX11_placing_41 rfl ?_
        refine s_aload_n C dX11_placing_42 rfl ?_
        refine s_getr (k := 46) (b := 100) C dX11_placing_43 fl_X11_115 (by decide) rfl (by decide) rfl ?_
        refine s_iload_n C dX11_placing_46 rfl ?_
        refine s_iaload (n := 10) C dX11_placing_47 (by decide) rfl rfl (by omega) (by omega) (by omega) (rfl) (fun r47 => ?_)
        refine s_iadd C dX11_placing_48 ?_
        refine s_ineg C dX11_placing_49 ?_
        exact s_ireturn C dX11_placing_50 (⟨_, rfl, rfl, by unfold rPl; rw [if_pos (by omega)]; first | (rw [if_pos (hb.y c27)]; done) | (rw [if_neg (hb.n c27)]; done)⟩)
      · skip
        refine s_iload_n C dX11_placing_30 rfl ?_
        refine s_aload_n C dX11_placing_31 rfl ?_
        refine s_getr (k := 46) (b := 100) C dX11_placing_32 fl_X11_115 (by decide) rfl (by decide) rfl ?_
        refine s_iload_n C dX11_placing_35 rfl ?_
        refine s_iaload (n := 10) C dX11_placing_36 (by decide) rfl rfl (by omega) (by omega) (by omega) (rfl) (fun r36 => ?_)
        refine s_iadd C dX11_placing_37 ?_
        refine s_goto (tgt := 50) C dX11_placing_38 (by decide) ?_
        exact s_ireturn C dX11_placing_50 (⟨_, rfl, rfl, by unfold rPl; rw [if_pos (by omega)]; first | (rw [if_pos (hb.y c27)]; done) | (rw [if_neg (hb.n c27)]; done)⟩)
  refine s_aload_n C dX11_placing_0 rfl ?_
  refine s_getr (k := 49) (b := 102) C dX11_placing_1 fl_X11_121 (by decide) rfl (by decide) rfl ?_
  refine s_iload_n C dX11_placing_4 rfl ?_
  refine s_iaload (n := 1024) (z := ssz M s (M 66 47).toNat) C dX11_placing_5 (by decide) rfl rfl (by omega) (by omega) (by omega) (h102) (fun r5 => ?_)
  refine s_istore_n (lv' := [_, _, _, _, _, _, _]) C dX11_placing_6 (by decide) rfl rfl ?_
  refine s_iload_n C dX11_placing_7 rfl ?_
  refine s_iconst C dX11_placing_8 ?_
  refine s_iand C dX11_placing_9 ?_
  refine s_iconst C dX11_placing_10 ?_
  refine s_icmp_ne (tgt := 18) C dX11_placing_11 (by decide) (by first | exact rg_zand _ _ | decide) (by first | exact rg_zand _ _ | decide) (fun c11 => ?_) (fun c11 => ?_)
  · skip
    refine s_iconst C dX11_placing_18 ?_
    exact L19 0 _ _ _ (Bz.f (by rcases hbit with ⟨_, g⟩ | ⟨g, _⟩; exact absurd g c11; exact g))
  · skip
    refine s_iconst C dX11_placing_14 ?_
    refine s_goto (tgt := 19) C dX11_placing_15 (by decide) ?_
    exact L19 1 _ _ _ (Bz.t (by rcases hbit with ⟨g, _⟩ | ⟨_, g⟩; exact g; exact absurd (g.symm.trans c11) (by decide)))

theorem setR {M A : Mm} {l : List Nat} (hS : Sm M A l) (h1 : 66 ∉ l) (h2 : 98 ∉ l) (h3 : 99 ∉ l) (h4 : 100 ∉ l) (h5 : 101 ∉ l) : (RO M → RO A) ∧ ssz A = ssz M ∧ rPl A = rPl M ∧ rMay A = rMay M := by
  have e66 := hS 66 h1
  have e98 := hS 98 h2
  have e99 := hS 99 h3
  have e100 := hS 100 h4
  have e101 := hS 101 h5
  have es : ssz A = ssz M := by funext s k; unfold ssz; rw [e99]
  refine ⟨fun h => ?_, es, ?_, ?_⟩
  · unfold RO at *; rw [e66, e98, e99, e100, e101]; exact h
  · funext s k; unfold rPl; rw [es, e66, e100]
  · funext k s; unfold rMay; rw [e101]
def ph1 (M A : Mm) (s : Int) : Prop := Sm M A [102] ∧ ∀ t, 0 ≤ t → t < s → A 102 t = ssz M t (M 66 47).toNat
def ph2 (M A : Mm) (s : Int) : Prop := Sm M A [102, 103] ∧ (∀ t, 0 ≤ t → t < r2n M → A 102 t = ssz M t (M 66 47).toNat) ∧ ∀ t, s < t → t < r2n M → A 103 t = rMn M (A 103) t (M 66 47).toNat ∧ -3000 * (1024 - t) ≤ A 103 t ∧ A 103 t ≤ 1000000
theorem ph2.put {M A : Mm} {s : Int} (hO : RO M) (hs : 0 ≤ s ∧ s < r2n M) (h : ph2 M A s) : ph2 M (mput A 103 s (rMn M (A 103) s (M 66 47).toNat)) (s - 1) := by
  have hm := hO.1
  refine ⟨h.1.put (by decide), fun t a b => by rw [mput_ne (by decide)]; exact h.2.1 t a b, fun t a b => ?_⟩
  have e : ∀ x, s ≤ x → x < r2n M → (mput A 103 s (rMn M (A 103) s (M 66 47).toNat)) 103 x = if x = s then rMn M (A 103) s (M 66 47).toNat else A 103 x := fun x _ _ => by rw [mput_at]
  have cg : ∀ x, s ≤ x → x < r2n M → rMn M ((mput A 103 s (rMn M (A 103) s (M 66 47).toNat)) 103) x (M 66 47).toNat = rMn M (A 103) x (M 66 47).toNat := fun x x0 x1 => rMn_cg hO ⟨by omega, x1⟩ (fun y y0 y1 => by rw [e y (by omega) y1, if_neg (by omega)]) _ (by omega)
  by_cases c : t = s
  · subst c
    rw [cg t (by omega) b, mput_eq]
    have := rMn_rg hO hs (g := A 103) (fun x x0 x1 => (h.2.2 x x0 x1).2.1) (M 66 47).toNat (by omega)
    exact ⟨rfl, this⟩
  · rw [cg t (by omega) b, mput_nk c]
    exact h.2.2 t (by omega) b
def ph4 (M A : Mm) (i : Nat) : Prop := (∃ B, ph2 M B (-1) ∧ Sm B A [105]) ∧ rRow M (A 103) (A 105) i ∧ pcS (sq (A 105) i) = (i : Int) ∧ A 103 (sq (A 105) i) < 1000000
def chP (M : Mm) (g : Int → Int) (s : Int) (k c : Int) : Prop := (c = -1 ∧ ∀ q, 0 ≤ q → q < k → ¬ rYes M g q s) ∨ (0 ≤ c ∧ c < k ∧ rYes M g c s ∧ ∀ q, 0 ≤ q → q < k → rYes M g q s → M 98 c ≤ M 98 q)
theorem chP.no {M : Mm} {g : Int → Int} {s k c : Int} (h : chP M g s k c) (hk : ¬ rYes M g k s) : chP M g s (k + 1) c := by
  rcases h with ⟨h1, h2⟩ | ⟨h1, h2, h3, h4⟩
  · refine Or.inl ⟨h1, fun q a b => ?_⟩
    by_cases e : q = k
    · subst e; exact hk
    · exact h2 q a (by omega)
  · refine Or.inr ⟨h1, by omega, h3, fun q a b y => ?_⟩
    by_cases e : q = k
    · subst e; exact absurd y hk
    · exact h4 q a (by omega) y
theorem chP.keep {M : Mm} {g : Int → Int} {s k c : Int} (h : chP M g s k c) (hc : c ≠ -1) (hle : M 98 c ≤ M 98 k) : chP M g s (k + 1) c := by
  rcases h with ⟨h1, h2⟩ | ⟨h1, h2, h3, h4⟩
  · exact absurd h1 hc
  · refine Or.inr ⟨h1, by omega, h3, fun q a b y => ?_⟩
    by_cases e : q = k
    · subst e; exact hle
    · exact h4 q a (by omega) y
theorem chP.new {M : Mm} {g : Int → Int} {s k c : Int} (h : chP M g s k c) (h0 : 0 ≤ k) (hy : rYes M g k s) (hle : c = -1 ∨ M 98 k < M 98 c) : chP M g s (k + 1) k := by
  refine Or.inr ⟨h0, by omega, hy, fun q a b y => ?_⟩
  by_cases e : q = k
  · subst e; exact Int.le_refl _
  · rcases h with ⟨h1, h2⟩ | ⟨h1, h2, h3, h4⟩
    · exact absurd y (h2 q a (by omega))
    · have := h4 q a (by omega) y
      omega
theorem chP.rg {M : Mm} {g : Int → Int} {s k c : Int} (h : chP M g s k c) (hk : 0 ≤ k) : -1 ≤ c ∧ (c < k) := by
  rcases h with ⟨h, _⟩ | ⟨h1, h2, _⟩ <;> omega
theorem ph4.ex {M A : Mm} {i : Nat} (hO : RO M) (h : ph4 M A i) (hi : (i : Int) < M 66 47) (hs : 0 ≤ sq (A 105) i ∧ sq (A 105) i < r2n M) : ∃ k, 0 ≤ k ∧ k < M 66 47 ∧ rYes M (A 103) k (sq (A 105) i) := by
  obtain ⟨⟨B, b1, b2⟩, h2, h3, h4⟩ := h
  have hm := hO.1
  have e103 : A 103 = B 103 := b2 103 (by decide)
  have hne : sq (A 105) i ≠ r2n M - 1 := by
    intro q
    rw [q] at h3
    have := pcS_all (M 66 47).toNat (by omega)
    unfold r2n at h3
    omega
  have hr := (b1.2.2 (sq (A 105) i) (by omega) hs.2).1
  rw [← e103] at hr
  rcases rMn_at (M := M) (g := A 103) hne (M 66 47).toNat with g | ⟨q, q1, q2, q3, q4⟩
  · omega
  · exact ⟨(q : Int), by omega, by omega, q2, q3, by omega⟩
theorem sq_rgR {M : Mm} (hO : RO M) {r : Int → Int} : ∀ k : Nat, (∀ j : Nat, j < k → 0 ≤ r j ∧ r j < M 66 47) → 0 ≤ sq r k ∧ sq r k < r2n M := by
  intro k
  have r2 := r2n_le hO
  induction k with
  | zero => intro _; rw [sq]; omega
  | succ k ih => intro h; rw [sq]; exact zor_r hO (ih (fun j hj => h j (by omega))) (h k (by omega))
theorem ph4.step {M A : Mm} {i : Nat} {c : Int} (hO : RO M) (h : ph4 M A i) (hi : (i : Int) < M 66 47) (hs : 0 ≤ sq (A 105) i ∧ sq (A 105) i < r2n M) (hc : chP M (A 103) (sq (A 105) i) (M 66 47) c) : 0 ≤ c ∧ c < M 66 47 ∧ ph4 M (mput A 105 (i : Int) c) (i + 1) ∧ sq (mput A 105 (i : Int) c 105) (i + 1) = zor (sq (A 105) i) (zshl 1 c) := by
  have hm := hO.1
  have r2 := r2n_le hO
  obtain ⟨k, k0, k1, k2⟩ := h.ex hO hi hs
  have hc2 : 0 ≤ c ∧ c < M 66 47 ∧ rYes M (A 103) c (sq (A 105) i) ∧ ∀ q, 0 ≤ q → q < M 66 47 → rYes M (A 103) q (sq (A 105) i) → M 98 c ≤ M 98 q := by
    rcases hc with ⟨_, g⟩ | g
    · exact absurd k2 (g k k0 k1)
    · exact g
  obtain ⟨c0, c1, c2, c3⟩ := hc2
  obtain ⟨⟨B, b1, b2⟩, h2, h3, h4⟩ := h
  have e103 : mput A 105 (i : Int) c 103 = A 103 := mput_ne (by decide)
  have eq : ∀ j : Nat, j ≤ i → sq (mput A 105 (i : Int) c 105) j = sq (A 105) j := fun j hj => sq_congr j (fun x hx => by rw [mput_nk (by omega)])
  have er : ∀ j : Nat, j < i → mput A 105 (i : Int) c 105 (j : Int) = A 105 (j : Int) := fun j hj => by rw [mput_nk (by omega)]
  have es : sq (mput A 105 (i : Int) c 105) (i + 1) = zor (sq (A 105) i) (zshl 1 c) := by rw [sq, eq i (by omega), mput_eq]
  refine ⟨c0, c1, ⟨⟨B, b1, b2.put (by decide)⟩, fun j hj => ?_, ?_, ?_⟩, es⟩
  · rw [e103, eq j (by omega)]
    by_cases cj : j = i
    · subst cj; rw [mput_eq]; exact ⟨⟨c0, c1⟩, c2, c3⟩
    · rw [er j (by omega)]; exact h2 j (by omega)
  · rw [es, pcS_or (by omega) (by omega) c2.1.1, h3]; omega
  · rw [es, e103]; exact c2.2.1

set_option maxRecDepth 20000 in
set_option maxHeartbeats 4000000 in
theorem ct_X11_reckon (E : Ev) (M : Mm) (hO : RO M) : Ct E yX11_reckon cX11_reckon 6 (some .int) 1 [zr E 66] M (pI (fun z M' => Sm M M' [102, 103, 105] ∧ rEq M (M' 103) ∧ ((z = 1000000 ∧ 1000000 ≤ M' 103 0) ∨ (z = M' 103 0 ∧ M' 103 0 < 1000000 ∧ rRow M (M' 103) (M' 105) (M 66 47).toNat)))) := by
  refine Ct.of (own := RX11) (lv0 := [some (zr E 66), none, none, none, none, none]) (by decide) rfl (Nat.le_of_ble_eq_true rfl) rfl (fun κ C => ?_)
  have hm := hO.1
  have w2 := r2n_le hO
  have L212 : ∀ (n9 : Nat) (i : Nat) (A : Mm) (u4 u5 : Option Value) (hi : (i : Int) ≤ M 66 47) (h0 : A 103 0 < 1000000) (h4 : ph4 M A i) (hm : (M 66 47 - (i : Int)).toNat < n9), Gm E κ (pI (fun z M' => Sm M M' [102, 103, 105] ∧ rEq M (M' 103) ∧ ((z = 1000000 ∧ 1000000 ≤ M' 103 0) ∨ (z = M' 103 0 ∧ M' 103 0 < 1000000 ∧ rRow M (M' 103) (M' 105) (M 66 47).toNat)))) 6 212 [some (zr E 66), some (zi (r2n M - 1)), some (zi (sq (A 105) i)), some (zi (i : Int)), u4, u5] [] A := by
    intro n9
    induction n9 with
    | zero => intro i A u4 u5 hi h0 h4 hm; exact absurd hm (Nat.not_lt_zero _)
    | succ n9 ih212 =>
      intro i A u4 u5 hi h0 h4 hm
      have hph := h4
      obtain ⟨⟨B, b1, b2⟩, hrow, hpc, hlt⟩ := h4
      have sA : Sm M A [102, 103, 105] := b1.1.tr b2 (by decide) (by decide)
      have e66 : A 66 = M 66 := sA 66 (by decide)
      have e101 : A 101 = M 101 := sA 101 (by decide)
      have e98 : A 98 = M 98 := sA 98 (by decide)
      have e103 : A 103 = B 103 := b2 103 (by decide)
      have e102 : A 102 = B 102 := b2 102 (by decide)
      obtain ⟨f1, f2, f3, f4⟩ := setR sA (by decide) (by decide) (by decide) (by decide) (by decide)
      have hsq := sq_rgR hO i (r := A 105) (fun j hj => (hrow j hj).1)
      have hg : ∀ t, 0 ≤ t → t < r2n M → -3072000 ≤ A 103 t ∧ A 103 t ≤ 1000000 := fun t a b => by rw [e103]; have := b1.2.2 t (by omega) b; omega
      have L226 : ∀ (n9 : Nat) (k c : Int) (hil : (i : Int) < M 66 47) (hk : 0 ≤ k ∧ k ≤ M 66 47) (hc : chP M (A 103) (sq (A 105) i) k c) (hm : (M 66 47 - k).toNat < n9), Gm E κ (pI (fun z M' => Sm M M' [102, 103, 105] ∧ rEq M (M' 103) ∧ ((z = 1000000 ∧ 1000000 ≤ M' 103 0) ∨ (z = M' 103 0 ∧ M' 103 0 < 1000000 ∧ rRow M (M' 103) (M' 105) (M 66 47).toNat)))) 6 226 [some (zr E 66), some (zi (r2n M - 1)), some (zi (sq (A 105) i)), some (zi (i : Int)), some (zi c), some (zi k)] [] A := by
        intro n9
        induction n9 with
        | zero => intro k c  hil hk hc hm; exact absurd hm (Nat.not_lt_zero _)
        | succ n9 ih226 =>
          intro k c  hil hk hc hm
          have hcr := hc.rg hk.1
          refine s_iload C dX11_reckon_226 rfl ?_
          refine s_aload_n C dX11_reckon_228 rfl ?_
          refine s_geti (k := 47) (j := 47) (z := M 66 47) C dX11_reckon_229 fl_X11_271 (by decide) rfl (by decide) rfl (by rw [e66]) (fun r229 => ?_)
          refine s_icmp_ge (tgt := 339) C dX11_reckon_232 (by decide) (by omega) (by omega) (fun c232 => ?_) (fun c232 => ?_)
          · skip
            have c0 : k = M 66 47 := by omega
            subst c0
            obtain ⟨d0, d1, d2, d3⟩ := hph.step hO hil hsq hc
            refine s_aload_n C dX11_reckon_339 rfl ?_
            refine s_getr (k := 53) (b := 105) C dX11_reckon_340 fl_X11_130 (by decide) rfl (by decide) rfl ?_
            refine s_iload_n C dX11_reckon_343 rfl ?_
            refine s_iload C dX11_reckon_344 rfl ?_
            refine s_iastore (n := 10) C dX11_reckon_346 (by decide) rfl rfl (by omega) (by omega) (by omega) (by omega) ?_
            refine s_iload_n C dX11_reckon_347 rfl ?_
            refine s_iconst C dX11_reckon_348 ?_
            refine s_iload C dX11_reckon_349 rfl ?_
            refine s_ishl C dX11_reckon_351 ?_
            refine s_ior C dX11_reckon_352 ?_
            refine s_istore_n (lv' := [_, _, _, _, _, _]) C dX11_reckon_353 (by decide) rfl rfl ?_
            refine s_iinc (lv' := [_, _, _, _, _, _]) C dX11_reckon_354 rfl (by decide) rfl rfl rfl ?_
            refine s_goto (tgt := 212) C dX11_reckon_357 (by decide) ?_
            rw [← d3, show (i : Int) + 1 = ((i + 1 : Nat) : Int) by omega]
            exact ih212 (i + 1) _ _ _ (by omega) (by rw [mput_ne (by decide)]; exact h0) d2 (by omega)
          · skip
            have hbit := zbitS (x := sq (A 105) i) (by omega) (k := k) (by omega)
            have hb101 := (hO.2 k (by omega) (by omega)).2.2.1
            have hzx := zxm (a := M 101 k) (s := sq (A 105) i) (by omega) (by omega)
            have hb98 := (hO.2 k (by omega) (by omega)).2.2.2
            refine s_iload_n C dX11_reckon_235 rfl ?_
            refine s_iload C dX11_reckon_236 rfl ?_
            refine s_ishr C dX11_reckon_238 ?_
            refine s_iconst C dX11_reckon_239 ?_
            refine s_iand C dX11_reckon_240 ?_
            refine s_iconst C dX11_reckon_241 ?_
            refine s_icmp_eq (tgt := 333) C dX11_reckon_242 (by decide) (by first | exact rg_zand _ _ | decide) (by first | exact rg_zand _ _ | decide) (fun c242 => ?_) (fun c242 => ?_)
            · skip
              refine s_iinc (lv' := [_, _, _, _, _, _]) C dX11_reckon_333 rfl (by decide) rfl rfl rfl ?_
              refine s_goto (tgt := 226) C dX11_reckon_336 (by decide) ?_
              first
                | exact ih226 _ _ _ hil (by omega) (hc.no (fun q => q.1.1 (by rcases hbit with ⟨g, _⟩ | ⟨_, g⟩; exact g; exact absurd (g.symm.trans c242) (by decide)))) (by omega)
                | exact ih226 _ _ hil (by omega) (hc.no (fun q => q.1.1 (by rcases hbit with ⟨g, _⟩ | ⟨_, g⟩; exact g; exact absurd (g.symm.trans c242) (by decide)))) (by omega)
                | exact ih226 _ _ hil (by omega) (hc.no (fun q => c256 (hzx.mpr q.1.2))) (by omega)
                | exact ih226 _ _ hil (by omega) (hc.no (fun q => by have := q.2.1; omega)) (by omega)
                | exact ih226 _ _ hil (by omega) (hc.no (fun q => c300 q.2.2)) (by omega)
                | exact ih226 _ _ hil (by omega) (hc.new hk.1 ⟨hmay, by omega, c300⟩ (Or.inl c309)) (by omega)
                | exact ih226 _ _ hil (by omega) (hc.keep c309 (by omega)) (by omega)
                | exact ih226 _ _ hil (by omega) (hc.new hk.1 hyes (Or.inr (by omega))) (by omega)
            · skip
              refine s_aload_n C dX11_reckon_245 rfl ?_
              refine s_getr (k := 48) (b := 101) C dX11_reckon_246 fl_X11_118 (by decide) rfl (by decide) rfl ?_
              refine s_iload C dX11_reckon_249 rfl ?_
              refine s_iaload (n := 10) (z := M 101 k) C dX11_reckon_251 (by decide) rfl rfl (by omega) (by omega) (by omega) (by rw [e101]) (fun r251 => ?_)
              refine s_iload_n C dX11_reckon_252 rfl ?_
              refine s_iconst C dX11_reckon_253 ?_
              refine s_ixor C dX11_reckon_254 ?_
              refine s_iand C dX11_reckon_255 ?_
              refine s_if_ne (tgt := 333) C dX11_reckon_256 (by decide) (rg_zand _ _) (fun c256 => ?_) (fun c256 => ?_)
              · skip
                refine s_iinc (lv' := [_, _, _, _, _, _]) C dX11_reckon_333 rfl (by decide) rfl rfl rfl ?_
                refine s_goto (tgt := 226) C dX11_reckon_336 (by decide) ?_
                first
                  | exact ih226 _ _ _ hil (by omega) (hc.no (fun q => q.1.1 (by rcases hbit with ⟨g, _⟩ | ⟨_, g⟩; exact g; exact absurd (g.symm.trans c242) (by decide)))) (by omega)
                  | exact ih226 _ _ hil (by omega) (hc.no (fun q => q.1.1 (by rcases hbit with ⟨g, _⟩ | ⟨_, g⟩; exact g; exact absurd (g.symm.trans c242) (by decide)))) (by omega)
                  | exact ih226 _ _ hil (by omega) (hc.no (fun q => c256 (hzx.mpr q.1.2))) (by omega)
                  | exact ih226 _ _ hil (by omega) (hc.no (fun q => by have := q.2.1; omega)) (by omega)
                  | exact ih226 _ _ hil (by omega) (hc.no (fun q => c300 q.2.2)) (by omega)
                  | exact ih226 _ _ hil (by omega) (hc.new hk.1 ⟨hmay, by omega, c300⟩ (Or.inl c309)) (by omega)
                  | exact ih226 _ _ hil (by omega) (hc.keep c309 (by omega)) (by omega)
                  | exact ih226 _ _ hil (by omega) (hc.new hk.1 hyes (Or.inr (by omega))) (by omega)
              · skip
                have hmay : rMay M k (sq (A 105) i) := ⟨by rcases hbit with ⟨_, g⟩ | ⟨g, _⟩; exact absurd g c242; exact g, hzx.mp c256⟩
                have z2 := zor_r hO hsq (u := k) (by omega)
                have z3 := hg _ z2.1 z2.2
                have z4 := rPl_rg hO (s := sq (A 105) i) (k := k) (by omega)
                have z5 := hg _ hsq.1 hsq.2
                refine s_aload_n C dX11_reckon_259 rfl ?_
                refine s_getr (k := 50) (b := 103) C dX11_reckon_260 fl_X11_124 (by decide) rfl (by decide) rfl ?_
                refine s_iload_n C dX11_reckon_263 rfl ?_
                refine s_iconst C dX11_reckon_264 ?_
                refine s_iload C dX11_reckon_265 rfl ?_
                refine s_ishl C dX11_reckon_267 ?_
                refine s_ior C dX11_reckon_268 ?_
                refine s_iaload (n := 1024) C dX11_reckon_269 (by decide) rfl rfl (by omega) (by omega) (by omega) (rfl) (fun r269 => ?_)
                refine s_ldc C dX11_reckon_270 kc_X11_218 ?_
                refine s_icmp_ge (tgt := 333) C dX11_reckon_272 (by decide) (by omega) (by omega) (fun c272 => ?_) (fun c272 => ?_)
                · skip
                  refine s_iinc (lv' := [_, _, _, _, _, _]) C dX11_reckon_333 rfl (by decide) rfl rfl rfl ?_
                  refine s_goto (tgt := 226) C dX11_reckon_336 (by decide) ?_
                  first
                    | exact ih226 _ _ _ hil (by omega) (hc.no (fun q => q.1.1 (by rcases hbit with ⟨g, _⟩ | ⟨_, g⟩; exact g; exact absurd (g.symm.trans c242) (by decide)))) (by omega)
                    | exact ih226 _ _ hil (by omega) (hc.no (fun q => q.1.1 (by rcases hbit with ⟨g, _⟩ | ⟨_, g⟩; exact g; exact absurd (g.symm.trans c242) (by decide)))) (by omega)
                    | exact ih226 _ _ hil (by omega) (hc.no (fun q => c256 (hzx.mpr q.1.2))) (by omega)
                    | exact ih226 _ _ hil (by omega) (hc.no (fun q => by have := q.2.1; omega)) (by omega)
                    | exact ih226 _ _ hil (by omega) (hc.no (fun q => c300 q.2.2)) (by omega)
                    | exact ih226 _ _ hil (by omega) (hc.new hk.1 ⟨hmay, by omega, c300⟩ (Or.inl c309)) (by omega)
                    | exact ih226 _ _ hil (by omega) (hc.keep c309 (by omega)) (by omega)
                    | exact ih226 _ _ hil (by omega) (hc.new hk.1 hyes (Or.inr (by omega))) (by omega)
                · skip
                  refine s_aload_n C dX11_reckon_275 rfl ?_
                  refine s_iload_n C dX11_reckon_276 rfl ?_
                  refine s_iload C dX11_reckon_277 rfl ?_
                  refine s_callV2 C dX11_reckon_279 cy_X11_placing cv_X11_placing lk_X11_280 (ct_X11_placing E A (f1 hO) (sq (A 105) i) k (by omega) (by rw [e66]; omega) (by rw [f2, e66, e102]; exact b1.2.1 _ hsq.1 hsq.2)) (by decide) (by decide) (by first | decide | (decide)) rfl (Nat.le_of_ble_eq_true rfl) (k_P (fun z279 q279 => ?_))
                  rw [f3] at q279
                  subst q279
                  refine s_aload_n C dX11_reckon_282 rfl ?_
                  refine s_getr (k := 50) (b := 103) C dX11_reckon_283 fl_X11_124 (by decide) rfl (by decide) rfl ?_
                  refine s_iload_n C dX11_reckon_286 rfl ?_
                  refine s_iconst C dX11_reckon_287 ?_
                  refine s_iload C dX11_reckon_288 rfl ?_
                  refine s_ishl C dX11_reckon_290 ?_
                  refine s_ior C dX11_reckon_291 ?_
                  refine s_iaload (n := 1024) C dX11_reckon_292 (by decide) rfl rfl (by omega) (by omega) (by omega) (rfl) (fun r292 => ?_)
                  refine s_iadd C dX11_reckon_293 ?_
                  refine s_aload_n C dX11_reckon_294 rfl ?_
                  refine s_getr (k := 50) (b := 103) C dX11_reckon_295 fl_X11_124 (by decide) rfl (by decide) rfl ?_
                  refine s_iload_n C dX11_reckon_298 rfl ?_
                  refine s_iaload (n := 1024) C dX11_reckon_299 (by decide) rfl rfl (by omega) (by omega) (by omega) (rfl) (fun r299 => ?_)
                  refine s_icmp_eq (tgt := 306) C dX11_reckon_300 (by decide) (by omega) (by omega) (fun c300 => ?_) (fun c300 => ?_)
                  · skip
                    refine s_iload C dX11_reckon_306 rfl ?_
                    refine s_iconst C dX11_reckon_308 ?_
                    refine s_icmp_eq (tgt := 329) C dX11_reckon_309 (by decide) (by omega) (by omega) (fun c309 => ?_) (fun c309 => ?_)
                    · skip
                      refine s_iload C dX11_reckon_329 rfl ?_
                      refine s_istore (lv' := [_, _, _, _, _, _]) C dX11_reckon_331 (by decide) rfl rfl ?_
                      refine s_iinc (lv' := [_, _, _, _, _, _]) C dX11_reckon_333 rfl (by decide) rfl rfl rfl ?_
                      refine s_goto (tgt := 226) C dX11_reckon_336 (by decide) ?_
                      first
                        | exact ih226 _ _ _ hil (by omega) (hc.no (fun q => q.1.1 (by rcases hbit with ⟨g, _⟩ | ⟨_, g⟩; exact g; exact absurd (g.symm.trans c242) (by decide)))) (by omega)
                        | exact ih226 _ _ hil (by omega) (hc.no (fun q => q.1.1 (by rcases hbit with ⟨g, _⟩ | ⟨_, g⟩; exact g; exact absurd (g.symm.trans c242) (by decide)))) (by omega)
                        | exact ih226 _ _ hil (by omega) (hc.no (fun q => c256 (hzx.mpr q.1.2))) (by omega)
                        | exact ih226 _ _ hil (by omega) (hc.no (fun q => by have := q.2.1; omega)) (by omega)
                        | exact ih226 _ _ hil (by omega) (hc.no (fun q => c300 q.2.2)) (by omega)
                        | exact ih226 _ _ hil (by omega) (hc.new hk.1 ⟨hmay, by omega, c300⟩ (Or.inl c309)) (by omega)
                        | exact ih226 _ _ hil (by omega) (hc.keep c309 (by omega)) (by omega)
                        | exact ih226 _ _ hil (by omega) (hc.new hk.1 hyes (Or.inr (by omega))) (by omega)
                    · skip
                      have hyes : rYes M (A 103) k (sq (A 105) i) := ⟨hmay, by omega, c300⟩
                      have hc98 := (hO.2 c (by omega) (by omega)).2.2.2
                      refine s_aload_n C dX11_reckon_312 rfl ?_
                      refine s_getr (k := 44) (b := 98) C dX11_reckon_313 fl_X11_109 (by decide) rfl (by decide) rfl ?_
                      refine s_iload C dX11_reckon_316 rfl ?_
                      refine s_iaload (n := 10) (z := M 98 k) C dX11_reckon_318 (by decide) rfl rfl (by omega) (by omega) (by omega) (by rw [e98]) (fun r318 => ?_)
                      refine s_aload_n C dX11_reckon_319 rfl ?_
                      refine s_getr (k := 44) (b := 98) C dX11_reckon_320 fl_X11_109 (by decide) rfl (by decide) rfl ?_
                      refine s_iload C dX11_reckon_323 rfl ?_
                      refine s_iaload (n := 10) (z := M 98 c) C dX11_reckon_325 (by decide) rfl rfl (by omega) (by omega) (by omega) (by rw [e98]) (fun r325 => ?_)
                      refine s_icmp_ge (tgt := 333) C dX11_reckon_326 (by decide) (by omega) (by omega) (fun c326 => ?_) (fun c326 => ?_)
                      · skip
                        refine s_iinc (lv' := [_, _, _, _, _, _]) C dX11_reckon_333 rfl (by decide) rfl rfl rfl ?_
                        refine s_goto (tgt := 226) C dX11_reckon_336 (by decide) ?_
                        first
                          | exact ih226 _ _ _ hil (by omega) (hc.no (fun q => q.1.1 (by rcases hbit with ⟨g, _⟩ | ⟨_, g⟩; exact g; exact absurd (g.symm.trans c242) (by decide)))) (by omega)
                          | exact ih226 _ _ hil (by omega) (hc.no (fun q => q.1.1 (by rcases hbit with ⟨g, _⟩ | ⟨_, g⟩; exact g; exact absurd (g.symm.trans c242) (by decide)))) (by omega)
                          | exact ih226 _ _ hil (by omega) (hc.no (fun q => c256 (hzx.mpr q.1.2))) (by omega)
                          | exact ih226 _ _ hil (by omega) (hc.no (fun q => by have := q.2.1; omega)) (by omega)
                          | exact ih226 _ _ hil (by omega) (hc.no (fun q => c300 q.2.2)) (by omega)
                          | exact ih226 _ _ hil (by omega) (hc.new hk.1 ⟨hmay, by omega, c300⟩ (Or.inl c309)) (by omega)
                          | exact ih226 _ _ hil (by omega) (hc.keep c309 (by omega)) (by omega)
                          | exact ih226 _ _ hil (by omega) (hc.new hk.1 hyes (Or.inr (by omega))) (by omega)
                      · skip
                        refine s_iload C dX11_reckon_329 rfl ?_
                        refine s_istore (lv' := [_, _, _, _, _, _]) C dX11_reckon_331 (by decide) rfl rfl ?_
                        refine s_iinc (lv' := [_, _, _, _, _, _]) C dX11_reckon_333 rfl (by decide) rfl rfl rfl ?_
                        refine s_goto (tgt := 226) C dX11_reckon_336 (by decide) ?_
                        first
                          | exact ih226 _ _ _ hil (by omega) (hc.no (fun q => q.1.1 (by rcases hbit with ⟨g, _⟩ | ⟨_, g⟩; exact g; exact absurd (g.symm.trans c242) (by decide)))) (by omega)
                          | exact ih226 _ _ hil (by omega) (hc.no (fun q => q.1.1 (by rcases hbit with ⟨g, _⟩ | ⟨_, g⟩; exact g; exact absurd (g.symm.trans c242) (by decide)))) (by omega)
                          | exact ih226 _ _ hil (by omega) (hc.no (fun q => c256 (hzx.mpr q.1.2))) (by omega)
                          | exact ih226 _ _ hil (by omega) (hc.no (fun q => by have := q.2.1; omega)) (by omega)
                          | exact ih226 _ _ hil (by omega) (hc.no (fun q => c300 q.2.2)) (by omega)
                          | exact ih226 _ _ hil (by omega) (hc.new hk.1 ⟨hmay, by omega, c300⟩ (Or.inl c309)) (by omega)
                          | exact ih226 _ _ hil (by omega) (hc.keep c309 (by omega)) (by omega)
                          | exact ih226 _ _ hil (by omega) (hc.new hk.1 hyes (Or.inr (by omega))) (by omega)
                  · skip
                    refine s_goto (tgt := 333) C dX11_reckon_303 (by decide) ?_
                    refine s_iinc (lv' := [_, _, _, _, _, _]) C dX11_reckon_333 rfl (by decide) rfl rfl rfl ?_
                    refine s_goto (tgt := 226) C dX11_reckon_336 (by decide) ?_
                    first
                      | exact ih226 _ _ _ hil (by omega) (hc.no (fun q => q.1.1 (by rcases hbit with ⟨g, _⟩ | ⟨_, g⟩; exact g; exact absurd (g.symm.trans c242) (by decide)))) (by omega)
                      | exact ih226 _ _ hil (by omega) (hc.no (fun q => q.1.1 (by rcases hbit with ⟨g, _⟩ | ⟨_, g⟩; exact g; exact absurd (g.symm.trans c242) (by decide)))) (by omega)
                      | exact ih226 _ _ hil (by omega) (hc.no (fun q => c256 (hzx.mpr q.1.2))) (by omega)
                      | exact ih226 _ _ hil (by omega) (hc.no (fun q => by have := q.2.1; omega)) (by omega)
                      | exact ih226 _ _ hil (by omega) (hc.no (fun q => c300 q.2.2)) (by omega)
                      | exact ih226 _ _ hil (by omega) (hc.new hk.1 ⟨hmay, by omega, c300⟩ (Or.inl c309)) (by omega)
                      | exact ih226 _ _ hil (by omega) (hc.keep c309 (by omega)) (by omega)
                      | exact ih226 _ _ hil (by omega) (hc.new hk.1 hyes (Or.inr (by omega))) (by omega)
      refine s_iload_n C dX11_reckon_212 rfl ?_
      refine s_aload_n C dX11_reckon_213 rfl ?_
      refine s_geti (k := 47) (j := 47) (z := M 66 47) C dX11_reckon_214 fl_X11_271 (by decide) rfl (by decide) rfl (by rw [e66]) (fun r214 => ?_)
      refine s_icmp_ge (tgt := 360) C dX11_reckon_217 (by decide) (by omega) (by omega) (fun c217 => ?_) (fun c217 => ?_)
      · skip
        refine s_aload_n C dX11_reckon_360 rfl ?_
        refine s_getr (k := 50) (b := 103) C dX11_reckon_361 fl_X11_124 (by decide) rfl (by decide) rfl ?_
        refine s_iconst C dX11_reckon_364 ?_
        refine s_iaload (n := 1024) C dX11_reckon_365 (by decide) rfl rfl (by omega) (by omega) (by omega) (rfl) (fun r365 => ?_)
        exact s_ireturn C dX11_reckon_366 (⟨_, rfl, ⟨sA, by rw [e103]; exact fun t a b => by have := b1.2.2 t (by omega) b; exact ⟨this.1, by omega, this.2.2⟩, Or.inr ⟨rfl, h0, by rw [show (M 66 47).toNat = i by omega]; exact hrow⟩⟩⟩)
      · skip
        refine s_iconst C dX11_reckon_220 ?_
        refine s_istore (lv' := [_, _, _, _, _, _]) C dX11_reckon_221 (by decide) rfl rfl ?_
        refine s_iconst C dX11_reckon_223 ?_
        refine s_istore (lv' := [_, _, _, _, _, _]) C dX11_reckon_224 (by decide) rfl rfl ?_
        exact L226 _ 0 (-1) (by omega) (by omega) (Or.inl ⟨rfl, fun q a b => by omega⟩) (Nat.lt_succ_self _)
  have L75 : ∀ (n9 : Nat) (s : Int) (A : Mm) (u3 u4 u5 : Option Value) (hs : -1 ≤ s ∧ s < r2n M) (hA : ph2 M A s) (hm : (s + 1).toNat < n9), Gm E κ (pI (fun z M' => Sm M M' [102, 103, 105] ∧ rEq M (M' 103) ∧ ((z = 1000000 ∧ 1000000 ≤ M' 103 0) ∨ (z = M' 103 0 ∧ M' 103 0 < 1000000 ∧ rRow M (M' 103) (M' 105) (M 66 47).toNat)))) 6 75 [some (zr E 66), some (zi (r2n M - 1)), some (zi s), u3, u4, u5] [] A := by
    intro n9
    induction n9 with
    | zero => intro s A u3 u4 u5 hs hA hm; exact absurd hm (Nat.not_lt_zero _)
    | succ n9 ih75 =>
      intro s A u3 u4 u5 hs hA hm
      have e66 : A 66 = M 66 := hA.1 66 (by decide)
      have e101 : A 101 = M 101 := hA.1 101 (by decide)
      obtain ⟨f1, f2, f3, f4⟩ := setR hA.1 (by decide) (by decide) (by decide) (by decide) (by decide)
      have L94 : ∀ (n9 : Nat) (k : Nat) (u5 : Option Value) (hk : (k : Int) ≤ M 66 47) (hs0 : 0 ≤ s) (hm : (M 66 47 - (k : Int)).toNat < n9), Gm E κ (pI (fun z M' => Sm M M' [102, 103, 105] ∧ rEq M (M' 103) ∧ ((z = 1000000 ∧ 1000000 ≤ M' 103 0) ∨ (z = M' 103 0 ∧ M' 103 0 < 1000000 ∧ rRow M (M' 103) (M' 105) (M 66 47).toNat)))) 6 94 [some (zr E 66), some (zi (r2n M - 1)), some (zi s), some (zi (rMn M (A 103) s k)), some (zi (k : Int)), u5] [] A := by
        intro n9
        induction n9 with
        | zero => intro k u5 hk hs0 hm; exact absurd hm (Nat.not_lt_zero _)
        | succ n9 ih94 =>
          intro k u5 hk hs0 hm
          have hmr := rMn_rg hO ⟨hs0, hs.2⟩ (g := A 103) (fun x x0 x1 => (hA.2.2 x x0 x1).2.1) k hk
          refine s_iload C dX11_reckon_94 rfl ?_
          refine s_aload_n C dX11_reckon_96 rfl ?_
          refine s_geti (k := 47) (j := 47) (z := M 66 47) C dX11_reckon_97 fl_X11_271 (by decide) rfl (by decide) rfl (by rw [e66]) (fun r97 => ?_)
          refine s_icmp_ge (tgt := 181) C dX11_reckon_100 (by decide) (by omega) (by omega) (fun c100 => ?_) (fun c100 => ?_)
          · skip
            refine s_aload_n C dX11_reckon_181 rfl ?_
            refine s_getr (k := 50) (b := 103) C dX11_reckon_182 fl_X11_124 (by decide) rfl (by decide) rfl ?_
            refine s_iload_n C dX11_reckon_185 rfl ?_
            refine s_iload_n C dX11_reckon_186 rfl ?_
            refine s_iastore (n := 1024) C dX11_reckon_187 (by decide) rfl rfl (by omega) (by omega) (by omega) (by omega) ?_
            refine s_iinc (lv' := [_, _, _, _, _, _]) C dX11_reckon_188 rfl (by decide) rfl rfl rfl ?_
            refine s_goto (tgt := 75) C dX11_reckon_191 (by decide) ?_
            rw [show k = (M 66 47).toNat by omega, show s + -1 = s - 1 by omega]
            exact ih75 (s - 1) _ _ _ _ (by omega) (hA.put hO ⟨hs0, hs.2⟩) (by omega)
          · skip
            have hbit := zbitS (x := s) (by omega) (k := (k : Int)) (by omega)
            have hb101 := (hO.2 (k : Int) (by omega) (by omega)).2.2.1
            have hzx := zxm (a := M 101 (k : Int)) (s := s) (by omega) (by omega)
            refine s_iload_n C dX11_reckon_103 rfl ?_
            refine s_iload C dX11_reckon_104 rfl ?_
            refine s_ishr C dX11_reckon_106 ?_
            refine s_iconst C dX11_reckon_107 ?_
            refine s_iand C dX11_reckon_108 ?_
            refine s_iconst C dX11_reckon_109 ?_
            refine s_icmp_eq (tgt := 175) C dX11_reckon_110 (by decide) (by first | exact rg_zand _ _ | decide) (by first | exact rg_zand _ _ | decide) (fun c110 => ?_) (fun c110 => ?_)
            · skip
              refine s_iinc (lv' := [_, _, _, _, _, _]) C dX11_reckon_175 rfl (by decide) rfl rfl rfl ?_
              refine s_goto (tgt := 94) C dX11_reckon_178 (by decide) ?_
              first
                | (rw [show rMn M (A 103) s k = rMn M (A 103) s (k + 1) from (rMn_neg (fun q => q.1.1 (by rcases hbit with ⟨g, _⟩ | ⟨_, g⟩; exact g; exact absurd (g.symm.trans c110) (by decide)))).symm, show (k : Int) + 1 = ((k + 1 : Nat) : Int) by omega]; exact ih94 (k + 1) _ (by omega) hs0 (by omega))
                | (rw [show rMn M (A 103) s k = rMn M (A 103) s (k + 1) from (rMn_neg (fun q => c124 (hzx.mpr q.1.2))).symm, show (k : Int) + 1 = ((k + 1 : Nat) : Int) by omega]; exact ih94 (k + 1) _ (by omega) hs0 (by omega))
                | (rw [show rMn M (A 103) s k = rMn M (A 103) s (k + 1) from (rMn_neg (fun q => by have := q.2; omega)).symm, show (k : Int) + 1 = ((k + 1 : Nat) : Int) by omega]; exact ih94 (k + 1) _ (by omega) hs0 (by omega))
                | (rw [show rMn M (A 103) s k = rMn M (A 103) s (k + 1) from by rw [rMn_pos ⟨hmay, by omega⟩]; omega, show (k : Int) + 1 = ((k + 1 : Nat) : Int) by omega]; exact ih94 (k + 1) _ (by omega) hs0 (by omega))
                | (rw [show rPl M s (k : Int) + A 103 (zor s (zshl 1 (k : Int))) = rMn M (A 103) s (k + 1) from by rw [rMn_pos ⟨hmay, by omega⟩]; omega, show (k : Int) + 1 = ((k + 1 : Nat) : Int) by omega]; exact ih94 (k + 1) _ (by omega) hs0 (by omega))
            · skip
              refine s_aload_n C dX11_reckon_113 rfl ?_
              refine s_getr (k := 48) (b := 101) C dX11_reckon_114 fl_X11_118 (by decide) rfl (by decide) rfl ?_
              refine s_iload C dX11_reckon_117 rfl ?_
              refine s_iaload (n := 10) (z := M 101 (k : Int)) C dX11_reckon_119 (by decide) rfl rfl (by omega) (by omega) (by omega) (by rw [e101]) (fun r119 => ?_)
              refine s_iload_n C dX11_reckon_120 rfl ?_
              refine s_iconst C dX11_reckon_121 ?_
              refine s_ixor C dX11_reckon_122 ?_
              refine s_iand C dX11_reckon_123 ?_
              refine s_if_eq (tgt := 130) C dX11_reckon_124 (by decide) (rg_zand _ _) (fun c124 => ?_) (fun c124 => ?_)
              · skip
                have hmay : rMay M (k : Int) s := ⟨by rcases hbit with ⟨_, g⟩ | ⟨g, _⟩; exact absurd g c110; exact g, hzx.mp c124⟩
                have z1 := zor_gt (s := s) (u := (k : Int)) (by omega) (by omega) hmay.1
                have z2 := zor_r hO ⟨hs0, hs.2⟩ (u := (k : Int)) (by omega)
                have z3 := hA.2.2 _ z1 z2.2
                have z4 := rPl_rg hO (s := s) (k := (k : Int)) (by omega)
                refine s_aload_n C dX11_reckon_130 rfl ?_
                refine s_getr (k := 50) (b := 103) C dX11_reckon_131 fl_X11_124 (by decide) rfl (by decide) rfl ?_
                refine s_iload_n C dX11_reckon_134 rfl ?_
                refine s_iconst C dX11_reckon_135 ?_
                refine s_iload C dX11_reckon_136 rfl ?_
                refine s_ishl C dX11_reckon_138 ?_
                refine s_ior C dX11_reckon_139 ?_
                refine s_iaload (n := 1024) C dX11_reckon_140 (by decide) rfl rfl (by omega) (by omega) (by omega) (rfl) (fun r140 => ?_)
                refine s_istore (lv' := [_, _, _, _, _, _]) C dX11_reckon_141 (by decide) rfl rfl ?_
                refine s_iload C dX11_reckon_143 rfl ?_
                refine s_ldc C dX11_reckon_145 kc_X11_218 ?_
                refine s_icmp_ge (tgt := 175) C dX11_reckon_147 (by decide) (by omega) (by omega) (fun c147 => ?_) (fun c147 => ?_)
                · skip
                  refine s_iinc (lv' := [_, _, _, _, _, _]) C dX11_reckon_175 rfl (by decide) rfl rfl rfl ?_
                  refine s_goto (tgt := 94) C dX11_reckon_178 (by decide) ?_
                  first
                    | (rw [show rMn M (A 103) s k = rMn M (A 103) s (k + 1) from (rMn_neg (fun q => q.1.1 (by rcases hbit with ⟨g, _⟩ | ⟨_, g⟩; exact g; exact absurd (g.symm.trans c110) (by decide)))).symm, show (k : Int) + 1 = ((k + 1 : Nat) : Int) by omega]; exact ih94 (k + 1) _ (by omega) hs0 (by omega))
                    | (rw [show rMn M (A 103) s k = rMn M (A 103) s (k + 1) from (rMn_neg (fun q => c124 (hzx.mpr q.1.2))).symm, show (k : Int) + 1 = ((k + 1 : Nat) : Int) by omega]; exact ih94 (k + 1) _ (by omega) hs0 (by omega))
                    | (rw [show rMn M (A 103) s k = rMn M (A 103) s (k + 1) from (rMn_neg (fun q => by have := q.2; omega)).symm, show (k : Int) + 1 = ((k + 1 : Nat) : Int) by omega]; exact ih94 (k + 1) _ (by omega) hs0 (by omega))
                    | (rw [show rMn M (A 103) s k = rMn M (A 103) s (k + 1) from by rw [rMn_pos ⟨hmay, by omega⟩]; omega, show (k : Int) + 1 = ((k + 1 : Nat) : Int) by omega]; exact ih94 (k + 1) _ (by omega) hs0 (by omega))
                    | (rw [show rPl M s (k : Int) + A 103 (zor s (zshl 1 (k : Int))) = rMn M (A 103) s (k + 1) from by rw [rMn_pos ⟨hmay, by omega⟩]; omega, show (k : Int) + 1 = ((k + 1 : Nat) : Int) by omega]; exact ih94 (k + 1) _ (by omega) hs0 (by omega))
                · skip
                  refine s_aload_n C dX11_reckon_150 rfl ?_
                  refine s_iload_n C dX11_reckon_151 rfl ?_
                  refine s_iload C dX11_reckon_152 rfl ?_
                  refine s_callV2 C dX11_reckon_154 cy_X11_placing cv_X11_placing lk_X11_280 (ct_X11_placing E A (f1 hO) s (k : Int) (by omega) (by rw [e66]; omega) (by rw [f2, e66]; exact hA.2.1 s hs0 hs.2)) (by decide) (by decide) (by first | decide | (decide)) rfl (Nat.le_of_ble_eq_true rfl) (k_P (fun z154 q154 => ?_))
                  rw [f3] at q154
                  subst q154
                  refine s_iload C dX11_reckon_157 rfl ?_
                  refine s_iadd C dX11_reckon_159 ?_
                  refine s_iload_n C dX11_reckon_160 rfl ?_
                  refine s_icmp_ge (tgt := 175) C dX11_reckon_161 (by decide) (by omega) (by omega) (fun c161 => ?_) (fun c161 => ?_)
                  · skip
                    refine s_iinc (lv' := [_, _, _, _, _, _]) C dX11_reckon_175 rfl (by decide) rfl rfl rfl ?_
                    refine s_goto (tgt := 94) C dX11_reckon_178 (by decide) ?_
                    first
                      | (rw [show rMn M (A 103) s k = rMn M (A 103) s (k + 1) from (rMn_neg (fun q => q.1.1 (by rcases hbit with ⟨g, _⟩ | ⟨_, g⟩; exact g; exact absurd (g.symm.trans c110) (by decide)))).symm, show (k : Int) + 1 = ((k + 1 : Nat) : Int) by omega]; exact ih94 (k + 1) _ (by omega) hs0 (by omega))
                      | (rw [show rMn M (A 103) s k = rMn M (A 103) s (k + 1) from (rMn_neg (fun q => c124 (hzx.mpr q.1.2))).symm, show (k : Int) + 1 = ((k + 1 : Nat) : Int) by omega]; exact ih94 (k + 1) _ (by omega) hs0 (by omega))
                      | (rw [show rMn M (A 103) s k = rMn M (A 103) s (k + 1) from (rMn_neg (fun q => by have := q.2; omega)).symm, show (k : Int) + 1 = ((k + 1 : Nat) : Int) by omega]; exact ih94 (k + 1) _ (by omega) hs0 (by omega))
                      | (rw [show rMn M (A 103) s k = rMn M (A 103) s (k + 1) from by rw [rMn_pos ⟨hmay, by omega⟩]; omega, show (k : Int) + 1 = ((k + 1 : Nat) : Int) by omega]; exact ih94 (k + 1) _ (by omega) hs0 (by omega))
                      | (rw [show rPl M s (k : Int) + A 103 (zor s (zshl 1 (k : Int))) = rMn M (A 103) s (k + 1) from by rw [rMn_pos ⟨hmay, by omega⟩]; omega, show (k : Int) + 1 = ((k + 1 : Nat) : Int) by omega]; exact ih94 (k + 1) _ (by omega) hs0 (by omega))
                  · skip
                    refine s_aload_n C dX11_reckon_164 rfl ?_
                    refine s_iload_n C dX11_reckon_165 rfl ?_
                    refine s_iload C dX11_reckon_166 rfl ?_
                    refine s_callV2 C dX11_reckon_168 cy_X11_placing cv_X11_placing lk_X11_280 (ct_X11_placing E A (f1 hO) s (k : Int) (by omega) (by rw [e66]; omega) (by rw [f2, e66]; exact hA.2.1 s hs0 hs.2)) (by decide) (by decide) (by first | decide | (decide)) rfl (Nat.le_of_ble_eq_true rfl) (k_P (fun z168 q168 => ?_))
                    rw [f3] at q168
                    subst q168
                    refine s_iload C dX11_reckon_171 rfl ?_
                    refine s_iadd C dX11_reckon_173 ?_
                    refine s_istore_n (lv' := [_, _, _, _, _, _]) C dX11_reckon_174 (by decide) rfl rfl ?_
                    refine s_iinc (lv' := [_, _, _, _, _, _]) C dX11_reckon_175 rfl (by decide) rfl rfl rfl ?_
                    refine s_goto (tgt := 94) C dX11_reckon_178 (by decide) ?_
                    first
                      | (rw [show rMn M (A 103) s k = rMn M (A 103) s (k + 1) from (rMn_neg (fun q => q.1.1 (by rcases hbit with ⟨g, _⟩ | ⟨_, g⟩; exact g; exact absurd (g.symm.trans c110) (by decide)))).symm, show (k : Int) + 1 = ((k + 1 : Nat) : Int) by omega]; exact ih94 (k + 1) _ (by omega) hs0 (by omega))
                      | (rw [show rMn M (A 103) s k = rMn M (A 103) s (k + 1) from (rMn_neg (fun q => c124 (hzx.mpr q.1.2))).symm, show (k : Int) + 1 = ((k + 1 : Nat) : Int) by omega]; exact ih94 (k + 1) _ (by omega) hs0 (by omega))
                      | (rw [show rMn M (A 103) s k = rMn M (A 103) s (k + 1) from (rMn_neg (fun q => by have := q.2; omega)).symm, show (k : Int) + 1 = ((k + 1 : Nat) : Int) by omega]; exact ih94 (k + 1) _ (by omega) hs0 (by omega))
                      | (rw [show rMn M (A 103) s k = rMn M (A 103) s (k + 1) from by rw [rMn_pos ⟨hmay, by omega⟩]; omega, show (k : Int) + 1 = ((k + 1 : Nat) : Int) by omega]; exact ih94 (k + 1) _ (by omega) hs0 (by omega))
                      | (rw [show rPl M s (k : Int) + A 103 (zor s (zshl 1 (k : Int))) = rMn M (A 103) s (k + 1) from by rw [rMn_pos ⟨hmay, by omega⟩]; omega, show (k : Int) + 1 = ((k + 1 : Nat) : Int) by omega]; exact ih94 (k + 1) _ (by omega) hs0 (by omega))
              · skip
                refine s_goto (tgt := 175) C dX11_reckon_127 (by decide) ?_
                refine s_iinc (lv' := [_, _, _, _, _, _]) C dX11_reckon_175 rfl (by decide) rfl rfl rfl ?_
                refine s_goto (tgt := 94) C dX11_reckon_178 (by decide) ?_
                first
                  | (rw [show rMn M (A 103) s k = rMn M (A 103) s (k + 1) from (rMn_neg (fun q => q.1.1 (by rcases hbit with ⟨g, _⟩ | ⟨_, g⟩; exact g; exact absurd (g.symm.trans c110) (by decide)))).symm, show (k : Int) + 1 = ((k + 1 : Nat) : Int) by omega]; exact ih94 (k + 1) _ (by omega) hs0 (by omega))
                  | (rw [show rMn M (A 103) s k = rMn M (A 103) s (k + 1) from (rMn_neg (fun q => c124 (hzx.mpr q.1.2))).symm, show (k : Int) + 1 = ((k + 1 : Nat) : Int) by omega]; exact ih94 (k + 1) _ (by omega) hs0 (by omega))
                  | (rw [show rMn M (A 103) s k = rMn M (A 103) s (k + 1) from (rMn_neg (fun q => by have := q.2; omega)).symm, show (k : Int) + 1 = ((k + 1 : Nat) : Int) by omega]; exact ih94 (k + 1) _ (by omega) hs0 (by omega))
                  | (rw [show rMn M (A 103) s k = rMn M (A 103) s (k + 1) from by rw [rMn_pos ⟨hmay, by omega⟩]; omega, show (k : Int) + 1 = ((k + 1 : Nat) : Int) by omega]; exact ih94 (k + 1) _ (by omega) hs0 (by omega))
                  | (rw [show rPl M s (k : Int) + A 103 (zor s (zshl 1 (k : Int))) = rMn M (A 103) s (k + 1) from by rw [rMn_pos ⟨hmay, by omega⟩]; omega, show (k : Int) + 1 = ((k + 1 : Nat) : Int) by omega]; exact ih94 (k + 1) _ (by omega) hs0 (by omega))
      refine s_iload_n C dX11_reckon_75 rfl ?_
      refine s_if_lt (tgt := 194) C dX11_reckon_76 (by decide) (by omega) (fun c76 => ?_) (fun c76 => ?_)
      · skip
        have c0 : s = -1 := by omega
        subst c0
        have hq0 := hA.2.2 0 (by omega) (by omega)
        have hEq : rEq M (A 103) := fun t a b => by have := hA.2.2 t (by omega) b; exact ⟨this.1, by omega, this.2.2⟩
        refine s_aload_n C dX11_reckon_194 rfl ?_
        refine s_getr (k := 50) (b := 103) C dX11_reckon_195 fl_X11_124 (by decide) rfl (by decide) rfl ?_
        refine s_iconst C dX11_reckon_198 ?_
        refine s_iaload (n := 1024) C dX11_reckon_199 (by decide) rfl rfl (by omega) (by omega) (by omega) (rfl) (fun r199 => ?_)
        refine s_ldc C dX11_reckon_200 kc_X11_218 ?_
        refine s_icmp_lt (tgt := 208) C dX11_reckon_202 (by decide) (by omega) (by omega) (fun c202 => ?_) (fun c202 => ?_)
        · skip
          refine s_iconst C dX11_reckon_208 ?_
          refine s_istore_n (lv' := [_, _, _, _, _, _]) C dX11_reckon_209 (by decide) rfl rfl ?_
          refine s_iconst C dX11_reckon_210 ?_
          refine s_istore_n (lv' := [_, _, _, _, _, _]) C dX11_reckon_211 (by decide) rfl rfl ?_
          exact L212 _ 0 A _ _ (by omega) (by omega) ⟨⟨A, hA, Sm.rf A _⟩, fun j hj => by omega, by rw [sq]; decide +kernel, by rw [sq]; omega⟩ (Nat.lt_succ_self _)
        · skip
          refine s_ldc C dX11_reckon_205 kc_X11_218 ?_
          exact s_ireturn C dX11_reckon_207 (⟨_, rfl, ⟨fun a ha => hA.1 a (fun q => ha (by simp only [List.mem_cons, List.not_mem_nil, or_false] at q ⊢; omega)), hEq, Or.inl ⟨rfl, by omega⟩⟩⟩)
      · skip
        refine s_iload_n C dX11_reckon_79 rfl ?_
        refine s_iload_n C dX11_reckon_80 rfl ?_
        refine s_icmp_ne (tgt := 88) C dX11_reckon_81 (by decide) (by omega) (by omega) (fun c81 => ?_) (fun c81 => ?_)
        · skip
          refine s_ldc C dX11_reckon_88 kc_X11_218 ?_
          refine s_istore_n (lv' := [_, _, _, _, _, _]) C dX11_reckon_90 (by decide) rfl rfl ?_
          refine s_iconst C dX11_reckon_91 ?_
          refine s_istore (lv' := [_, _, _, _, _, _]) C dX11_reckon_92 (by decide) rfl rfl ?_
          have e0 : rMn M (A 103) s 0 = if s = r2n M - 1 then 0 else 1000000 := rfl
          have h := fun (n9 : Nat) (u : Option Value) => L94 n9 0 u (by omega) (by omega)
          first
            | (rw [if_pos c81] at e0
               simp only [e0] at h
               exact h _ _ (Nat.lt_succ_self _))
            | (rw [if_neg c81] at e0
               simp only [e0] at h
               exact h _ _ (Nat.lt_succ_self _))
        · skip
          refine s_iconst C dX11_reckon_84 ?_
          refine s_goto (tgt := 90) C dX11_reckon_85 (by decide) ?_
          refine s_istore_n (lv' := [_, _, _, _, _, _]) C dX11_reckon_90 (by decide) rfl rfl ?_
          refine s_iconst C dX11_reckon_91 ?_
          refine s_istore (lv' := [_, _, _, _, _, _]) C dX11_reckon_92 (by decide) rfl rfl ?_
          have e0 : rMn M (A 103) s 0 = if s = r2n M - 1 then 0 else 1000000 := rfl
          have h := fun (n9 : Nat) (u : Option Value) => L94 n9 0 u (by omega) (by omega)
          first
            | (rw [if_pos c81] at e0
               simp only [e0] at h
               exact h _ _ (Nat.lt_succ_self _))
            | (rw [if_neg c81] at e0
               simp only [e0] at h
               exact h _ _ (Nat.lt_succ_self _))
  have L11 : ∀ (n9 : Nat) (s : Int) (A : Mm) (u3 u4 u5 : Option Value) (hs : 0 ≤ s ∧ s ≤ r2n M) (hA : ph1 M A s) (hm : (r2n M - s).toNat < n9), Gm E κ (pI (fun z M' => Sm M M' [102, 103, 105] ∧ rEq M (M' 103) ∧ ((z = 1000000 ∧ 1000000 ≤ M' 103 0) ∨ (z = M' 103 0 ∧ M' 103 0 < 1000000 ∧ rRow M (M' 103) (M' 105) (M 66 47).toNat)))) 6 11 [some (zr E 66), some (zi (r2n M - 1)), some (zi s), u3, u4, u5] [] A := by
    intro n9
    induction n9 with
    | zero => intro s A u3 u4 u5 hs hA hm; exact absurd hm (Nat.not_lt_zero _)
    | succ n9 ih11 =>
      intro s A u3 u4 u5 hs hA hm
      have e66 : A 66 = M 66 := hA.1 66 (by decide)
      have e99 : A 99 = M 99 := hA.1 99 (by decide)
      have L25 : ∀ (n9 : Nat) (k : Nat) (B : Mm) (u4 u5 : Option Value) (hk : (k : Int) ≤ M 66 47) (hsl : s < r2n M) (hB : ph1 M B s) (hBs : B 102 s = ssz M s k) (hm : (M 66 47 - (k : Int)).toNat < n9), Gm E κ (pI (fun z M' => Sm M M' [102, 103, 105] ∧ rEq M (M' 103) ∧ ((z = 1000000 ∧ 1000000 ≤ M' 103 0) ∨ (z = M' 103 0 ∧ M' 103 0 < 1000000 ∧ rRow M (M' 103) (M' 105) (M 66 47).toNat)))) 6 25 [some (zr E 66), some (zi (r2n M - 1)), some (zi s), some (zi (k : Int)), u4, u5] [] B := by
        intro n9
        induction n9 with
        | zero => intro k B u4 u5 hk hsl hB hBs hm; exact absurd hm (Nat.not_lt_zero _)
        | succ n9 ih25 =>
          intro k B u4 u5 hk hsl hB hBs hm
          have g66 : B 66 = M 66 := hB.1 66 (by decide)
          have g99 : B 99 = M 99 := hB.1 99 (by decide)
          refine s_iload_n C dX11_reckon_25 rfl ?_
          refine s_aload_n C dX11_reckon_26 rfl ?_
          refine s_geti (k := 47) (j := 47) (z := M 66 47) C dX11_reckon_27 fl_X11_271 (by decide) rfl (by decide) rfl (by rw [g66]) (fun r27 => ?_)
          refine s_icmp_ge (tgt := 67) C dX11_reckon_30 (by decide) (by omega) (by omega) (fun c30 => ?_) (fun c30 => ?_)
          · skip
            refine s_iinc (lv' := [_, _, _, _, _, _]) C dX11_reckon_67 rfl (by decide) rfl rfl rfl ?_
            refine s_goto (tgt := 11) C dX11_reckon_70 (by decide) ?_
            exact ih11 (s + 1) B _ _ _ (by omega) ⟨hB.1, fun t a b => by
              by_cases ct : t = s
              · subst ct; rw [hBs, show (M 66 47).toNat = k by omega]
              · exact hB.2 t a (by omega)⟩ (by omega)
          · skip
            refine s_aload_n C dX11_reckon_33 rfl ?_
            refine s_getr (k := 49) (b := 102) C dX11_reckon_34 fl_X11_121 (by decide) rfl (by decide) rfl ?_
            refine s_iload_n C dX11_reckon_37 rfl ?_
            refine s_dup2 C dX11_reckon_38 rfl rfl ?_
            refine s_iaload (n := 1024) (z := ssz M s k) C dX11_reckon_39 (by decide) rfl rfl (by omega) (by omega) (by omega) (hBs) (fun r39 => ?_)
            have hbit := zbitS (x := s) (by omega) (k := (k : Int)) (by omega)
            have hsz := ssz_rg hO s k (by omega)
            have h99 := (hO.2 (k : Int) (by omega) (by omega)).1
            refine s_iload_n C dX11_reckon_40 rfl ?_
            refine s_iload_n C dX11_reckon_41 rfl ?_
            refine s_ishr C dX11_reckon_42 ?_
            refine s_iconst C dX11_reckon_43 ?_
            refine s_iand C dX11_reckon_44 ?_
            refine s_iconst C dX11_reckon_45 ?_
            refine s_icmp_ne (tgt := 58) C dX11_reckon_46 (by decide) (by first | exact rg_zand _ _ | decide) (by first | exact rg_zand _ _ | decide) (fun c46 => ?_) (fun c46 => ?_)
            · skip
              refine s_iconst C dX11_reckon_58 ?_
              refine s_iadd C dX11_reckon_59 ?_
              refine s_iastore (n := 1024) C dX11_reckon_60 (by decide) rfl rfl (by omega) (by omega) (by omega) (by omega) ?_
              refine s_iinc (lv' := [_, _, _, _, _, _]) C dX11_reckon_61 rfl (by decide) rfl rfl rfl ?_
              refine s_goto (tgt := 25) C dX11_reckon_64 (by decide) ?_
              have e9 := ssz_s M s k
              have hy : ∀ v, v = ssz M s (k + 1) → Gm E κ (pI (fun z M' => Sm M M' [102, 103, 105] ∧ rEq M (M' 103) ∧ ((z = 1000000 ∧ 1000000 ≤ M' 103 0) ∨ (z = M' 103 0 ∧ M' 103 0 < 1000000 ∧ rRow M (M' 103) (M' 105) (M 66 47).toNat)))) 6 25 [some (zr E 66), some (zi (r2n M - 1)), some (zi s), some (zi ((k : Int) + 1)), u4, u5] [] (mput B 102 s v) := fun v hv => by
                rw [show (k : Int) + 1 = ((k + 1 : Nat) : Int) by omega]
                exact ih25 (k + 1) _ _ _ (by omega) hsl ⟨hB.1.put (by decide), fun t a b => by rw [mput_nk (by omega)]; exact hB.2 t a b⟩ (by rw [mput_eq]; exact hv) (by omega)
              first
                | (have hb : s.toNat.testBit k = true := by
                     rcases hbit with ⟨g, _⟩ | ⟨_, g⟩
                     · exact g
                     · exact absurd (g.symm.trans c46) (by decide)
                   rw [if_pos hb] at e9
                   exact hy _ e9.symm)
                | (have hb : ¬ s.toNat.testBit k = true := by
                     rcases hbit with ⟨_, g⟩ | ⟨g, _⟩
                     · exact absurd g c46
                     · exact g
                   rw [if_neg hb] at e9
                   exact hy _ e9.symm)
            · skip
              refine s_aload_n C dX11_reckon_49 rfl ?_
              refine s_getr (k := 45) (b := 99) C dX11_reckon_50 fl_X11_112 (by decide) rfl (by decide) rfl ?_
              refine s_iload_n C dX11_reckon_53 rfl ?_
              refine s_iaload (n := 10) (z := M 99 (k : Int)) C dX11_reckon_54 (by decide) rfl rfl (by omega) (by omega) (by omega) (by rw [g99]) (fun r54 => ?_)
              refine s_goto (tgt := 59) C dX11_reckon_55 (by decide) ?_
              refine s_iadd C dX11_reckon_59 ?_
              refine s_iastore (n := 1024) C dX11_reckon_60 (by decide) rfl rfl (by omega) (by omega) (by omega) (by omega) ?_
              refine s_iinc (lv' := [_, _, _, _, _, _]) C dX11_reckon_61 rfl (by decide) rfl rfl rfl ?_
              refine s_goto (tgt := 25) C dX11_reckon_64 (by decide) ?_
              have e9 := ssz_s M s k
              have hy : ∀ v, v = ssz M s (k + 1) → Gm E κ (pI (fun z M' => Sm M M' [102, 103, 105] ∧ rEq M (M' 103) ∧ ((z = 1000000 ∧ 1000000 ≤ M' 103 0) ∨ (z = M' 103 0 ∧ M' 103 0 < 1000000 ∧ rRow M (M' 103) (M' 105) (M 66 47).toNat)))) 6 25 [some (zr E 66), some (zi (r2n M - 1)), some (zi s), some (zi ((k : Int) + 1)), u4, u5] [] (mput B 102 s v) := fun v hv => by
                rw [show (k : Int) + 1 = ((k + 1 : Nat) : Int) by omega]
                exact ih25 (k + 1) _ _ _ (by omega) hsl ⟨hB.1.put (by decide), fun t a b => by rw [mput_nk (by omega)]; exact hB.2 t a b⟩ (by rw [mput_eq]; exact hv) (by omega)
              first
                | (have hb : s.toNat.testBit k = true := by
                     rcases hbit with ⟨g, _⟩ | ⟨_, g⟩
                     · exact g
                     · exact absurd (g.symm.trans c46) (by decide)
                   rw [if_pos hb] at e9
                   exact hy _ e9.symm)
                | (have hb : ¬ s.toNat.testBit k = true := by
                     rcases hbit with ⟨_, g⟩ | ⟨g, _⟩
                     · exact absurd g c46
                     · exact g
                   rw [if_neg hb] at e9
                   exact hy _ e9.symm)
      refine s_iload_n C dX11_reckon_11 rfl ?_
      refine s_iload_n C dX11_reckon_12 rfl ?_
      refine s_icmp_gt (tgt := 73) C dX11_reckon_13 (by decide) (by omega) (by omega) (fun c13 => ?_) (fun c13 => ?_)
      · skip
        refine s_iload_n C dX11_reckon_73 rfl ?_
        refine s_istore_n (lv' := [_, _, _, _, _, _]) C dX11_reckon_74 (by decide) rfl rfl ?_
        have c0 : s = r2n M := by omega
        subst c0
        exact L75 _ (r2n M - 1) A _ _ _ (by omega) ⟨fun a ha => hA.1 a (fun q => ha (by simp only [List.mem_cons, List.not_mem_nil, or_false] at q ⊢; omega)), hA.2, fun t a b => by omega⟩ (Nat.lt_succ_self _)
      · skip
        refine s_aload_n C dX11_reckon_16 rfl ?_
        refine s_getr (k := 49) (b := 102) C dX11_reckon_17 fl_X11_121 (by decide) rfl (by decide) rfl ?_
        refine s_iload_n C dX11_reckon_20 rfl ?_
        refine s_iconst C dX11_reckon_21 ?_
        refine s_iastore (n := 1024) C dX11_reckon_22 (by decide) rfl rfl (by omega) (by omega) (by omega) (by omega) ?_
        refine s_iconst C dX11_reckon_23 ?_
        refine s_istore_n (lv' := [_, _, _, _, _, _]) C dX11_reckon_24 (by decide) rfl rfl ?_
        exact L25 _ 0 _ _ _ (by omega) (by omega) ⟨hA.1.put (by decide), fun t a b => by rw [mput_nk (by omega)]; exact hA.2 t a b⟩ (by rw [mput_eq]; rfl) (Nat.lt_succ_self _)
  refine s_iconst C dX11_reckon_0 ?_
  refine s_aload_n C dX11_reckon_1 rfl ?_
  refine s_geti (k := 47) (j := 47) C dX11_reckon_2 fl_X11_271 (by decide) rfl (by decide) rfl (rfl) (fun r2 => ?_)
  refine s_ishl C dX11_reckon_5 ?_
  refine s_iconst C dX11_reckon_6 ?_
  refine s_isub C dX11_reckon_7 ?_
  rw [w2.2.2]
  refine s_istore_n (lv' := [_, _, _, _, _, _]) C dX11_reckon_8 (by decide) rfl rfl ?_
  refine s_iconst C dX11_reckon_9 ?_
  refine s_istore_n (lv' := [_, _, _, _, _, _]) C dX11_reckon_10 (by decide) rfl rfl ?_
  exact L11 _ 0 M _ _ _ (by omega) ⟨Sm.rf M _, fun t a b => by omega⟩ (Nat.lt_succ_self _)
