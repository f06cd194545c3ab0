theorem Bz.b {z : Int} {P : Prop} (h : Bz z P) : z = 0 ∨ z = 1 := by rcases h with ⟨h, _⟩ | ⟨h, _⟩ <;> omega
theorem Bz.cg {z : Int} {P Q : Prop} (h : Bz z P) (e : P ↔ Q) : Bz z Q := by
  rcases h with ⟨h, p⟩ | ⟨h, p⟩
  · exact Or.inl ⟨h, e.mp p⟩
  · exact Or.inr ⟨h, fun q => p (e.mpr q)⟩
theorem Bz.y {z : Int} {P : Prop} (h : Bz z P) (c : z ≠ 0) : P := by
  rcases h with ⟨_, p⟩ | ⟨h, _⟩
  · exact p
  · exact absurd h c
theorem Bz.n {z : Int} {P : Prop} (h : Bz z P) (c : z = 0) : ¬ P := by
  rcases h with ⟨h, _⟩ | ⟨_, p⟩
  · omega
  · exact p
def supR (M : Mm) (i d : Int) : Prop := ∃ q, 0 ≤ q ∧ q < d ∧ M 95 q = i ∧ (M 89 q = 1 ∨ M 89 q = 3)
def twR (M : Mm) (i d : Int) : Prop := ∃ q, 0 ≤ q ∧ q < d ∧ q < i ∧ M 95 i ≠ -1 ∧ M 95 q = M 95 i ∧ 0 < M 88 i ∧ M 88 i ≤ 2 * shB M i q (M 88 i).toNat
def knR (M : Mm) (i q e : Int) : Prop := ∃ d, 0 ≤ d ∧ d < e ∧ HasK M d (M 86 (40 * i + q)) (M 87 (40 * i + q))
def stR (M : Mm) (i k : Int) : Prop := 0 < M 88 i ∧ ∀ q, 0 ≤ q → q < k → knR M i q i
def opR (M : Mm) (i : Int) : Prop := M 89 i = 2 ∧ bHu (M 95) i (M 66 24).toNat = 0
abbrev baR (M : Mm) (i d : Int) : Prop := (M 89 i = 0 ∨ M 89 i = 4) ∧ ¬ supR M i d
/-- the findings of place i, a number for each kind -/
def FnR (M : Mm) (i b1 b2 b3 b4 b5 : Int) : Prop := Bz b1 (baR M i (M 66 24)) ∧ Bz b2 (opR M i) ∧ Bz b3 (twR M i (M 66 24)) ∧ Bz b4 (stR M i (M 88 i)) ∧ Bz b5 (i = 0 ∧ 1 ≤ M 89 i ∧ M 89 i ≤ 3)
def FndR (M : Mm) (i z : Int) : Prop := ∃ b1 b2 b3 b4 b5, FnR M i b1 b2 b3 b4 b5 ∧ z = b1 + 2 * b2 + 4 * b3 + 8 * b4 + 16 * b5
theorem supR_s {M : Mm} {i d : Int} : supR M i (d + 1) ↔ supR M i d ∨ (0 ≤ d ∧ M 95 d = i ∧ (M 89 d = 1 ∨ M 89 d = 3)) := by
  constructor
  · rintro ⟨q, a, b, c⟩
    by_cases e : q = d
    · subst e; exact Or.inr ⟨a, c⟩
    · exact Or.inl ⟨q, a, by omega, c⟩
  · rintro (⟨q, a, b, c⟩ | ⟨a, c⟩)
    · exact ⟨q, a, by omega, c⟩
    · exact ⟨d, a, by omega, c⟩
theorem twR_s {M : Mm} {i d : Int} : twR M i (d + 1) ↔ twR M i d ∨ (0 ≤ d ∧ (d < i ∧ M 95 i ≠ -1 ∧ M 95 d = M 95 i) ∧ 0 < M 88 i ∧ M 88 i ≤ 2 * shB M i d (M 88 i).toNat) := by
  constructor
  · rintro ⟨q, a, b, c1, c2, c3, c4⟩
    by_cases e : q = d
    · subst e; exact Or.inr ⟨a, ⟨c1, c2, c3⟩, c4⟩
    · exact Or.inl ⟨q, a, by omega, c1, c2, c3, c4⟩
  · rintro (⟨q, a, b, c⟩ | ⟨a, ⟨c1, c2, c3⟩, c4⟩)
    · exact ⟨q, a, by omega, c⟩
    · exact ⟨d, a, by omega, c1, c2, c3, c4⟩
theorem knR_s {M : Mm} {i q e : Int} : knR M i q (e + 1) ↔ knR M i q e ∨ (0 ≤ e ∧ HasK M e (M 86 (40 * i + q)) (M 87 (40 * i + q))) := by
  constructor
  · rintro ⟨d, a, b, c⟩
    by_cases g : d = e
    · subst g; exact Or.inr ⟨a, c⟩
    · exact Or.inl ⟨d, a, by omega, c⟩
  · rintro (⟨d, a, b, c⟩ | ⟨a, c⟩)
    · exact ⟨d, a, by omega, c⟩
    · exact ⟨e, a, by omega, c⟩
theorem stR_s {M : Mm} {i k : Int} (hk : 0 ≤ k) : stR M i (k + 1) ↔ stR M i k ∧ knR M i k i := by
  constructor
  · rintro ⟨a, b⟩
    exact ⟨⟨a, fun q q0 q1 => b q q0 (by omega)⟩, b k hk (by omega)⟩
  · rintro ⟨⟨a, b⟩, c⟩
    refine ⟨a, fun q q0 q1 => ?_⟩
    by_cases e : q = k
    · subst e; exact c
    · exact b q q0 (by omega)
theorem supR_0 (M : Mm) (i : Int) : ¬ supR M i 0 := fun ⟨q, a, b, _⟩ => by omega
theorem twR_0 (M : Mm) (i : Int) : ¬ twR M i 0 := fun ⟨q, a, b, _⟩ => by omega
theorem knR_0 (M : Mm) (i q : Int) : ¬ knR M i q 0 := fun ⟨d, a, b, _⟩ => by omega
theorem sumI_cg {f g : Int → Int} : ∀ n : Nat, (∀ j : Int, 0 ≤ j → j < (n : Int) → f j = g j) → sumI f n = sumI g n := by
  intro n
  induction n with
  | zero => intro _; rfl
  | succ n ih => intro h; rw [sumI, sumI, ih (fun j a b => h j a (by omega)), h n (by omega) (by omega)]
theorem bits5 : ∀ a b c d e : Bool, (fun (v : Int) => zand v 1 = (if a then 1 else 0) ∧ zand (zshr v 1) 1 = (if b then 1 else 0) ∧ zand (zshr v 2) 1 = (if c then 1 else 0) ∧ zand (zshr v 3) 1 = (if d then 1 else 0) ∧ zand (zshr v 4) 1 = (if e then 1 else 0)) ((if a then 1 else 0) + 2 * (if b then 1 else 0) + 4 * (if c then 1 else 0) + 8 * (if d then 1 else 0) + 16 * (if e then 1 else 0)) := by decide +kernel
theorem b01 {b : Int} (h : b = 0 ∨ b = 1) : ∃ x : Bool, b = if x then 1 else 0 := by
  rcases h with rfl | rfl
  · exact ⟨false, rfl⟩
  · exact ⟨true, rfl⟩
theorem bits_of {b1 b2 b3 b4 b5 v : Int} (h1 : b1 = 0 ∨ b1 = 1) (h2 : b2 = 0 ∨ b2 = 1) (h3 : b3 = 0 ∨ b3 = 1) (h4 : b4 = 0 ∨ b4 = 1) (h5 : b5 = 0 ∨ b5 = 1) (hv : v = b1 + 2 * b2 + 4 * b3 + 8 * b4 + 16 * b5) : zand v 1 = b1 ∧ zand (zshr v 1) 1 = b2 ∧ zand (zshr v 2) 1 = b3 ∧ zand (zshr v 3) 1 = b4 ∧ zand (zshr v 4) 1 = b5 := by
  obtain ⟨a, rfl⟩ := b01 h1
  obtain ⟨b, rfl⟩ := b01 h2
  obtain ⟨c, rfl⟩ := b01 h3
  obtain ⟨d, rfl⟩ := b01 h4
  obtain ⟨e, rfl⟩ := b01 h5
  rw [hv]
  exact bits5 a b c d e

def hsR (M : Mm) (x y k : Int) : Prop := ∃ p, 0 ≤ p ∧ p < k ∧ M 96 p = x ∧ M 97 p = y

set_option maxRecDepth 20000 in
set_option maxHeartbeats 4000000 in
theorem ct_X11_pair (E : Ev) (M : Mm) (hI : RI M) (a b : Int) (ha : rg a) (hb : rg b) : Ct E yX11_pair cX11_pair 4 (some .int) 2 [zr E 66, zi a, zi b] M (pI (fun z M' => (¬ ((0 ≤ a ∧ a < M 66 24) ∧ (0 ≤ b ∧ b < M 66 24) ∧ a ≠ b) ∧ z = -2 ∧ M' = M) ∨ (((0 ≤ a ∧ a < M 66 24) ∧ (0 ≤ b ∧ b < M 66 24) ∧ a ≠ b) ∧ ((Rch (M 96) (M 97) (M 66 41) (M 85 b) (M 85 a) ∧ z = -2 ∧ M' = M) ∨ (¬ Rch (M 96) (M 97) (M 66 41) (M 85 b) (M 85 a) ∧ hsR M (M 85 a) (M 85 b) (M 66 41) ∧ z = M 66 41 ∧ M' = M) ∨ (¬ Rch (M 96) (M 97) (M 66 41) (M 85 b) (M 85 a) ∧ ¬ hsR M (M 85 a) (M 85 b) (M 66 41) ∧ 20 ≤ M 66 41 ∧ z = -3 ∧ M' = M) ∨ (¬ Rch (M 96) (M 97) (M 66 41) (M 85 b) (M 85 a) ∧ ¬ hsR M (M 85 a) (M 85 b) (M 66 41) ∧ M 66 41 < 20 ∧ z = M 66 41 + 1 ∧ M' = mput (mput (mput M 96 (M 66 41) (M 85 a)) 97 (M 66 41) (M 85 b)) 66 41 (M 66 41 + 1)))))) := by
  refine Ct.of (own := RX11) (lv0 := [some (zr E 66), some (zi a), some (zi b), none]) (by decide) rfl (Nat.le_of_ble_eq_true rfl) rfl (fun κ C => ?_)
  have hn := hI.n
  have hat := hI.2.2.2.2.1.2.2
  have hpr := hI.2.2.2.2.2.1
  have hpr1 := hpr.1
  have L45 : ∀ (n9 : Nat) (k : Int) (hg : (0 ≤ a ∧ a < M 66 24) ∧ (0 ≤ b ∧ b < M 66 24) ∧ a ≠ b) (hnr : ¬ Rch (M 96) (M 97) (M 66 41) (M 85 b) (M 85 a)) (hk : 0 ≤ k ∧ k ≤ M 66 41) (hno : ¬ hsR M (M 85 a) (M 85 b) k) (hm : (M 66 41 - k).toNat < n9), Gm E κ (pI (fun z M' => (¬ ((0 ≤ a ∧ a < M 66 24) ∧ (0 ≤ b ∧ b < M 66 24) ∧ a ≠ b) ∧ z = -2 ∧ M' = M) ∨ (((0 ≤ a ∧ a < M 66 24) ∧ (0 ≤ b ∧ b < M 66 24) ∧ a ≠ b) ∧ ((Rch (M 96) (M 97) (M 66 41) (M 85 b) (M 85 a) ∧ z = -2 ∧ M' = M) ∨ (¬ Rch (M 96) (M 97) (M 66 41) (M 85 b) (M 85 a) ∧ hsR M (M 85 a) (M 85 b) (M 66 41) ∧ z = M 66 41 ∧ M' = M) ∨ (¬ Rch (M 96) (M 97) (M 66 41) (M 85 b) (M 85 a) ∧ ¬ hsR M (M 85 a) (M 85 b) (M 66 41) ∧ 20 ≤ M 66 41 ∧ z = -3 ∧ M' = M) ∨ (¬ Rch (M 96) (M 97) (M 66 41) (M 85 b) (M 85 a) ∧ ¬ hsR M (M 85 a) (M 85 b) (M 66 41) ∧ M 66 41 < 20 ∧ z = M 66 41 + 1 ∧ M' = mput (mput (mput M 96 (M 66 41) (M 85 a)) 97 (M 66 41) (M 85 b)) 66 41 (M 66 41 + 1)))))) 4 45 [some (zr E 66), some (zi a), some (zi b), some (zi k)] [] M := by
    intro n9
    induction n9 with
    | zero => intro k  hg hnr hk hno hm; exact absurd hm (Nat.not_lt_zero _)
    | succ n9 ih45 =>
      intro k  hg hnr hk hno hm
      refine s_iload_n C dX11_pair_45 rfl ?_
      refine s_aload_n C dX11_pair_46 rfl ?_
      refine s_geti (k := 41) (j := 41) C dX11_pair_47 fl_X11_199 (by decide) rfl (by decide) rfl (rfl) (fun r47 => ?_)
      refine s_icmp_ge (tgt := 94) C dX11_pair_50 (by decide) (by omega) (by omega) (fun c50 => ?_) (fun c50 => ?_)
      · skip
        have c0 : k = M 66 41 := by omega
        subst c0
        refine s_aload_n C dX11_pair_94 rfl ?_
        refine s_geti (k := 41) (j := 41) C dX11_pair_95 fl_X11_199 (by decide) rfl (by decide) rfl (rfl) (fun r95 => ?_)
        refine s_bipush C dX11_pair_98 (by decide) ?_
        refine s_icmp_ne (tgt := 106) C dX11_pair_100 (by decide) (by omega) (by omega) (fun c100 => ?_) (fun c100 => ?_)
        · skip
          have p1 := hat a hg.1.1 hg.1.2
          have p2 := hat b hg.2.1.1 hg.2.1.2
          refine s_aload_n C dX11_pair_106 rfl ?_
          refine s_getr (k := 42) (b := 96) C dX11_pair_107 fl_X11_103 (by decide) rfl (by decide) rfl ?_
          refine s_aload_n C dX11_pair_110 rfl ?_
          refine s_geti (k := 41) (j := 41) C dX11_pair_111 fl_X11_199 (by decide) rfl (by decide) rfl (rfl) (fun r111 => ?_)
          refine s_aload_n C dX11_pair_114 rfl ?_
          refine s_getr (k := 23) (b := 85) C dX11_pair_115 fl_X11_65 (by decide) rfl (by decide) rfl ?_
          refine s_iload_n C dX11_pair_118 rfl ?_
          refine s_iaload (n := 24) (z := M 85 a) C dX11_pair_119 (by decide) rfl rfl (by omega) (by omega) (by omega) (rfl) (fun r119 => ?_)
          refine s_iastore (n := 20) C dX11_pair_120 (by decide) rfl rfl (by omega) (by omega) (by omega) (by omega) ?_
          refine s_aload_n C dX11_pair_121 rfl ?_
          refine s_getr (k := 43) (b := 97) C dX11_pair_122 fl_X11_106 (by decide) rfl (by decide) rfl ?_
          refine s_aload_n C dX11_pair_125 rfl ?_
          refine s_geti (k := 41) (j := 41) (z := M 66 41) C dX11_pair_126 fl_X11_199 (by decide) rfl (by decide) rfl (by rw [mput_ne (by decide)]) (fun r126 => ?_)
          refine s_aload_n C dX11_pair_129 rfl ?_
          refine s_getr (k := 23) (b := 85) C dX11_pair_130 fl_X11_65 (by decide) rfl (by decide) rfl ?_
          refine s_iload_n C dX11_pair_133 rfl ?_
          refine s_iaload (n := 24) (z := M 85 b) C dX11_pair_134 (by decide) rfl rfl (by omega) (by omega) (by omega) (by rw [mput_ne (by decide)]) (fun r134 => ?_)
          refine s_iastore (n := 20) C dX11_pair_135 (by decide) rfl rfl (by omega) (by omega) (by omega) (by omega) ?_
          refine s_aload_n C dX11_pair_136 rfl ?_
          refine s_dup C dX11_pair_137 rfl ?_
          refine s_geti (k := 41) (j := 41) (z := M 66 41) C dX11_pair_138 fl_X11_199 (by decide) rfl (by decide) rfl (by rw [mput_ne (by decide), mput_ne (by decide)]) (fun r138 => ?_)
          refine s_iconst C dX11_pair_141 ?_
          refine s_iadd C dX11_pair_142 ?_
          refine s_puti (k := 41) (j := 41) C dX11_pair_143 fp_X11_199 (by decide) rfl rfl rfl (by omega) ?_
          refine s_aload_n C dX11_pair_146 rfl ?_
          refine s_geti (k := 41) (j := 41) (z := M 66 41 + 1) C dX11_pair_147 fl_X11_199 (by decide) rfl (by decide) rfl (by rw [mput_eq]) (fun r147 => ?_)
          exact s_ireturn C dX11_pair_150 (⟨_, rfl, Or.inr ⟨hg, Or.inr (Or.inr (Or.inr ⟨hnr, hno, by omega, rfl, rfl⟩))⟩⟩)
        · skip
          refine s_bipush C dX11_pair_103 (by decide) ?_
          exact s_ireturn C dX11_pair_105 (⟨_, rfl, Or.inr ⟨hg, Or.inr (Or.inr (Or.inl ⟨hnr, hno, by omega, rfl, rfl⟩))⟩⟩)
      · skip
        have p1 := hat a hg.1.1 hg.1.2
        have p2 := hat b hg.2.1.1 hg.2.1.2
        refine s_aload_n C dX11_pair_53 rfl ?_
        refine s_getr (k := 42) (b := 96) C dX11_pair_54 fl_X11_103 (by decide) rfl (by decide) rfl ?_
        refine s_iload_n C dX11_pair_57 rfl ?_
        refine s_iaload (n := 20) C dX11_pair_58 (by decide) rfl rfl (by omega) (by omega) (by omega) (rfl) (fun r58 => ?_)
        refine s_aload_n C dX11_pair_59 rfl ?_
        refine s_getr (k := 23) (b := 85) C dX11_pair_60 fl_X11_65 (by decide) rfl (by decide) rfl ?_
        refine s_iload_n C dX11_pair_63 rfl ?_
        refine s_iaload (n := 24) C dX11_pair_64 (by decide) rfl rfl (by omega) (by omega) (by omega) (rfl) (fun r64 => ?_)
        refine s_icmp_ne (tgt := 88) C dX11_pair_65 (by decide) (by omega) (by omega) (fun c65 => ?_) (fun c65 => ?_)
        · skip
          refine s_iinc (lv' := [_, _, _, _]) C dX11_pair_88 rfl (by decide) rfl rfl rfl ?_
          refine s_goto (tgt := 45) C dX11_pair_91 (by decide) ?_
          exact ih45 (k + 1) hg hnr (by omega) (fun ⟨p, x, y, u, v⟩ => by
            by_cases cp : p = k
            · subst cp; first | exact c65 u | exact c80 v
            · exact hno ⟨p, x, by omega, u, v⟩) (by omega)
        · skip
          refine s_aload_n C dX11_pair_68 rfl ?_
          refine s_getr (k := 43) (b := 97) C dX11_pair_69 fl_X11_106 (by decide) rfl (by decide) rfl ?_
          refine s_iload_n C dX11_pair_72 rfl ?_
          refine s_iaload (n := 20) C dX11_pair_73 (by decide) rfl rfl (by omega) (by omega) (by omega) (rfl) (fun r73 => ?_)
          refine s_aload_n C dX11_pair_74 rfl ?_
          refine s_getr (k := 23) (b := 85) C dX11_pair_75 fl_X11_65 (by decide) rfl (by decide) rfl ?_
          refine s_iload_n C dX11_pair_78 rfl ?_
          refine s_iaload (n := 24) C dX11_pair_79 (by decide) rfl rfl (by omega) (by omega) (by omega) (rfl) (fun r79 => ?_)
          refine s_icmp_ne (tgt := 88) C dX11_pair_80 (by decide) (by omega) (by omega) (fun c80 => ?_) (fun c80 => ?_)
          · skip
            refine s_iinc (lv' := [_, _, _, _]) C dX11_pair_88 rfl (by decide) rfl rfl rfl ?_
            refine s_goto (tgt := 45) C dX11_pair_91 (by decide) ?_
            exact ih45 (k + 1) hg hnr (by omega) (fun ⟨p, x, y, u, v⟩ => by
              by_cases cp : p = k
              · subst cp; first | exact c65 u | exact c80 v
              · exact hno ⟨p, x, by omega, u, v⟩) (by omega)
          · skip
            refine s_aload_n C dX11_pair_83 rfl ?_
            refine s_geti (k := 41) (j := 41) C dX11_pair_84 fl_X11_199 (by decide) rfl (by decide) rfl (rfl) (fun r84 => ?_)
            exact s_ireturn C dX11_pair_87 (⟨_, rfl, Or.inr ⟨hg, Or.inr (Or.inl ⟨hnr, ⟨k, by omega, by omega, c65, c80⟩, rfl, rfl⟩)⟩⟩)
  refine s_aload_n C dX11_pair_0 rfl ?_
  refine s_iload_n C dX11_pair_1 rfl ?_
  refine s_callV1 C dX11_pair_2 cy_X11_isHere cv_X11_isHere lk_X11_250 (ct_X11_isHere E M a ha hI.n) (by decide) (by decide) (by first | decide | (decide)) rfl (Nat.le_of_ble_eq_true rfl) (k_P (fun z2 q2 => ?_))
  have k2 : (z2 = 1 ∧ (0 ≤ a ∧ a ≤ M 66 24 - 1)) ∨ (z2 = 0 ∧ ¬ (0 ≤ a ∧ a ≤ M 66 24 - 1)) := q2
  clear q2
  refine s_if_eq (tgt := 40) C dX11_pair_5 (by decide) (by omega) (fun c5 => ?_) (fun c5 => ?_)
  · skip
    refine s_bipush C dX11_pair_40 (by decide) ?_
    exact s_ireturn C dX11_pair_42 (⟨_, rfl, by first | exact Or.inl ⟨fun q => by omega, rfl, rfl⟩ | exact Or.inr ⟨⟨by omega, by omega, c18⟩, Or.inl ⟨q34.y c37, rfl, rfl⟩⟩⟩)
  · skip
    refine s_aload_n C dX11_pair_8 rfl ?_
    refine s_iload_n C dX11_pair_9 rfl ?_
    refine s_callV1 C dX11_pair_10 cy_X11_isHere cv_X11_isHere lk_X11_250 (ct_X11_isHere E M b hb hI.n) (by decide) (by decide) (by first | decide | (decide)) rfl (Nat.le_of_ble_eq_true rfl) (k_P (fun z10 q10 => ?_))
    have k10 : (z10 = 1 ∧ (0 ≤ b ∧ b ≤ M 66 24 - 1)) ∨ (z10 = 0 ∧ ¬ (0 ≤ b ∧ b ≤ M 66 24 - 1)) := q10
    clear q10
    refine s_if_eq (tgt := 40) C dX11_pair_13 (by decide) (by omega) (fun c13 => ?_) (fun c13 => ?_)
    · skip
      refine s_bipush C dX11_pair_40 (by decide) ?_
      exact s_ireturn C dX11_pair_42 (⟨_, rfl, by first | exact Or.inl ⟨fun q => by omega, rfl, rfl⟩ | exact Or.inr ⟨⟨by omega, by omega, c18⟩, Or.inl ⟨q34.y c37, rfl, rfl⟩⟩⟩)
    · skip
      refine s_iload_n C dX11_pair_16 rfl ?_
      refine s_iload_n C dX11_pair_17 rfl ?_
      refine s_icmp_eq (tgt := 40) C dX11_pair_18 (by decide) (by omega) (by omega) (fun c18 => ?_) (fun c18 => ?_)
      · skip
        refine s_bipush C dX11_pair_40 (by decide) ?_
        exact s_ireturn C dX11_pair_42 (⟨_, rfl, by first | exact Or.inl ⟨fun q => by omega, rfl, rfl⟩ | exact Or.inr ⟨⟨by omega, by omega, c18⟩, Or.inl ⟨q34.y c37, rfl, rfl⟩⟩⟩)
      · skip
        have p1 := hat a (by omega) (by omega)
        have p2 := hat b (by omega) (by omega)
        refine s_aload_n C dX11_pair_21 rfl ?_
        refine s_aload_n C dX11_pair_22 rfl ?_
        refine s_getr (k := 23) (b := 85) C dX11_pair_23 fl_X11_65 (by decide) rfl (by decide) rfl ?_
        refine s_iload_n C dX11_pair_26 rfl ?_
        refine s_iaload (n := 24) C dX11_pair_27 (by decide) rfl rfl (by omega) (by omega) (by omega) (rfl) (fun r27 => ?_)
        refine s_aload_n C dX11_pair_28 rfl ?_
        refine s_getr (k := 23) (b := 85) C dX11_pair_29 fl_X11_65 (by decide) rfl (by decide) rfl ?_
        refine s_iload_n C dX11_pair_32 rfl ?_
        refine s_iaload (n := 24) C dX11_pair_33 (by decide) rfl rfl (by omega) (by omega) (by omega) (rfl) (fun r33 => ?_)
        refine s_callV2 C dX11_pair_34 cy_X11_isAhead cv_X11_isAhead lk_X11_268 (ct_X11_isAhead E M (M 85 b) (M 85 a) (by omega) (by omega) hpr1 (fun p h1 h2 => by have := hpr.2 p h1 h2; omega)) (by decide) (by decide) (by first | decide | (decide)) rfl (Nat.le_of_ble_eq_true rfl) (k_P (fun z34 q34 => ?_))
        refine s_if_eq (tgt := 43) C dX11_pair_37 (by decide) (by have := q34.b; omega) (fun c37 => ?_) (fun c37 => ?_)
        · skip
          refine s_iconst C dX11_pair_43 ?_
          refine s_istore_n (lv' := [_, _, _, _]) C dX11_pair_44 (by decide) rfl rfl ?_
          exact L45 _ 0 ⟨by omega, by omega, c18⟩ (q34.n c37) (by omega) (fun ⟨p, x, y, _⟩ => by omega) (Nat.lt_succ_self _)
        · skip
          refine s_bipush C dX11_pair_40 (by decide) ?_
          exact s_ireturn C dX11_pair_42 (⟨_, rfl, by first | exact Or.inl ⟨fun q => by omega, rfl, rfl⟩ | exact Or.inr ⟨⟨by omega, by omega, c18⟩, Or.inl ⟨q34.y c37, rfl, rfl⟩⟩⟩)

set_option maxRecDepth 20000 in
set_option maxHeartbeats 4000000 in
theorem ct_X11_findingOf (E : Ev) (M : Mm) (hn : 1 ≤ M 66 24 ∧ M 66 24 ≤ 24) (hK : ∀ i, 0 ≤ i → i < M 66 24 → KyB M i) (i : Int) (hi : 0 ≤ i ∧ i < M 66 24) : Ct E yX11_findingOf cX11_findingOf 8 (some .int) 4 [zr E 66, zi i] M (pP M (fun z => FndR M i z)) := by
  refine Ct.of (own := RX11) (lv0 := [some (zr E 66), some (zi i), none, none, none, none, none, none]) (by decide) rfl (Nat.le_of_ble_eq_true rfl) rfl (fun κ C => ?_)
  have hKi := (hK i hi.1 hi.2).1
  have L30 : ∀ (n9 : Nat) (d ba tw : Int) (u5 u6 u7 : Option Value) (hd : 0 ≤ d ∧ d ≤ M 66 24) (hba : Bz ba (baR M i d)) (htw : Bz tw (twR M i d)) (hm : (M 66 24 - d).toNat < n9), Gm E κ (pP M (fun z => FndR M i z)) 8 30 [some (zr E 66), some (zi i), some (zi ba), some (zi tw), some (zi d), u5, u6, u7] [] M := by
    intro n9
    induction n9 with
    | zero => intro d ba tw u5 u6 u7 hd hba htw hm; exact absurd hm (Nat.not_lt_zero _)
    | succ n9 ih30 =>
      intro d ba tw u5 u6 u7 hd hba htw hm
      have hba0 := hba.b
      have htw0 := htw.b
      have L175 : ∀ (s0 : Int) (u5 u6 u7 : Option Value) (hdn : d = M 66 24) (hs0 : Bz s0 (0 < M 88 i)), Gm E κ (pP M (fun z => FndR M i z)) 8 175 [some (zr E 66), some (zi i), some (zi ba), some (zi tw), some (zi d), u5, u6, u7] [zi s0] M := by
        intro s0 u5 u6 u7 hdn hs0
        have L183 : ∀ (n9 : Nat) (q st : Int) (u6 u7 : Option Value) (hq : 0 ≤ q ∧ q ≤ M 88 i) (hst : Bz st (stR M i q)) (hm : (M 88 i - q).toNat < n9), Gm E κ (pP M (fun z => FndR M i z)) 8 183 [some (zr E 66), some (zi i), some (zi ba), some (zi tw), some (zi st), some (zi (40 * i + q)), u6, u7] [] M := by
          intro n9
          induction n9 with
          | zero => intro q st u6 u7 hq hst hm; exact absurd hm (Nat.not_lt_zero _)
          | succ n9 ih183 =>
            intro q st u6 u7 hq hst hm
            have hst0 := hst.b
            have L298 : ∀ (op : Int) (u5 u6 u7 : Option Value) (hqn : q = M 88 i) (hop : Bz op (opR M i)), Gm E κ (pP M (fun z => FndR M i z)) 8 298 [some (zr E 66), some (zi i), some (zi ba), some (zi tw), some (zi st), u5, u6, u7] [zi op] M := by
              intro op u5 u6 u7 hqn hop
              have hop0 := hop.b
              have L323 : ∀ (lo : Int) (u6 u7 : Option Value) (hlo : Bz lo (i = 0 ∧ 1 ≤ M 89 i ∧ M 89 i ≤ 3)), Gm E κ (pP M (fun z => FndR M i z)) 8 323 [some (zr E 66), some (zi i), some (zi ba), some (zi tw), some (zi st), some (zi op), u6, u7] [zi lo] M := by
                intro lo u6 u7 hlo
                have hlo0 := hlo.b
                refine s_istore (lv' := [_, _, _, _, _, _, _, _]) C dX11_findingOf_323 (by decide) rfl rfl ?_
                refine s_iload_n C dX11_findingOf_325 rfl ?_
                refine s_if_eq (tgt := 333) C dX11_findingOf_326 (by decide) (by omega) (fun c326 => ?_) (fun c326 => ?_)
                · skip
                  refine s_iconst C dX11_findingOf_333 ?_
                  refine s_iload C dX11_findingOf_334 rfl ?_
                  refine s_if_eq (tgt := 343) C dX11_findingOf_336 (by decide) (by omega) (fun c336 => ?_) (fun c336 => ?_)
                  · skip
                    refine s_iconst C dX11_findingOf_343 ?_
                    refine s_iadd C dX11_findingOf_344 ?_
                    refine s_iload_n C dX11_findingOf_345 rfl ?_
                    refine s_if_eq (tgt := 353) C dX11_findingOf_346 (by decide) (by omega) (fun c346 => ?_) (fun c346 => ?_)
                    · skip
                      refine s_iconst C dX11_findingOf_353 ?_
                      refine s_iadd C dX11_findingOf_354 ?_
                      refine s_iload C dX11_findingOf_355 rfl ?_
                      refine s_if_eq (tgt := 365) C dX11_findingOf_357 (by decide) (by omega) (fun c357 => ?_) (fun c357 => ?_)
                      · skip
                        refine s_iconst C dX11_findingOf_365 ?_
                        refine s_iadd C dX11_findingOf_366 ?_
                        refine s_iload C dX11_findingOf_367 rfl ?_
                        refine s_if_eq (tgt := 377) C dX11_findingOf_369 (by decide) (by omega) (fun c369 => ?_) (fun c369 => ?_)
                        · skip
                          refine s_iconst C dX11_findingOf_377 ?_
                          refine s_iadd C dX11_findingOf_378 ?_
                          exact s_ireturn C dX11_findingOf_379 (⟨_, rfl, rfl, by subst hdn; subst hqn; exact ⟨ba, op, tw, st, lo, ⟨hba, hop, htw, hst, hlo⟩, by omega⟩⟩)
                        · skip
                          refine s_bipush C dX11_findingOf_372 (by decide) ?_
                          refine s_goto (tgt := 378) C dX11_findingOf_374 (by decide) ?_
                          refine s_iadd C dX11_findingOf_378 ?_
                          exact s_ireturn C dX11_findingOf_379 (⟨_, rfl, rfl, by subst hdn; subst hqn; exact ⟨ba, op, tw, st, lo, ⟨hba, hop, htw, hst, hlo⟩, by omega⟩⟩)
                      · skip
                        refine s_bipush C dX11_findingOf_360 (by decide) ?_
                        refine s_goto (tgt := 366) C dX11_findingOf_362 (by decide) ?_
                        refine s_iadd C dX11_findingOf_366 ?_
                        refine s_iload C dX11_findingOf_367 rfl ?_
                        refine s_if_eq (tgt := 377) C dX11_findingOf_369 (by decide) (by omega) (fun c369 => ?_) (fun c369 => ?_)
                        · skip
                          refine s_iconst C dX11_findingOf_377 ?_
                          refine s_iadd C dX11_findingOf_378 ?_
                          exact s_ireturn C dX11_findingOf_379 (⟨_, rfl, rfl, by subst hdn; subst hqn; exact ⟨ba, op, tw, st, lo, ⟨hba, hop, htw, hst, hlo⟩, by omega⟩⟩)
                        · skip
                          refine s_bipush C dX11_findingOf_372 (by decide) ?_
                          refine s_goto (tgt := 378) C dX11_findingOf_374 (by decide) ?_
                          refine s_iadd C dX11_findingOf_378 ?_
                          exact s_ireturn C dX11_findingOf_379 (⟨_, rfl, rfl, by subst hdn; subst hqn; exact ⟨ba, op, tw, st, lo, ⟨hba, hop, htw, hst, hlo⟩, by omega⟩⟩)
                    · skip
                      refine s_iconst C dX11_findingOf_349 ?_
                      refine s_goto (tgt := 354) C dX11_findingOf_350 (by decide) ?_
                      refine s_iadd C dX11_findingOf_354 ?_
                      refine s_iload C dX11_findingOf_355 rfl ?_
                      refine s_if_eq (tgt := 365) C dX11_findingOf_357 (by decide) (by omega) (fun c357 => ?_) (fun c357 => ?_)
                      · skip
                        refine s_iconst C dX11_findingOf_365 ?_
                        refine s_iadd C dX11_findingOf_366 ?_
                        refine s_iload C dX11_findingOf_367 rfl ?_
                        refine s_if_eq (tgt := 377) C dX11_findingOf_369 (by decide) (by omega) (fun c369 => ?_) (fun c369 => ?_)
                        · skip
                          refine s_iconst C dX11_findingOf_377 ?_
                          refine s_iadd C dX11_findingOf_378 ?_
                          exact s_ireturn C dX11_findingOf_379 (⟨_, rfl, rfl, by subst hdn; subst hqn; exact ⟨ba, op, tw, st, lo, ⟨hba, hop, htw, hst, hlo⟩, by omega⟩⟩)
                        · skip
                          refine s_bipush C dX11_findingOf_372 (by decide) ?_
                          refine s_goto (tgt := 378) C dX11_findingOf_374 (by decide) ?_
                          refine s_iadd C dX11_findingOf_378 ?_
                          exact s_ireturn C dX11_findingOf_379 (⟨_, rfl, rfl, by subst hdn; subst hqn; exact ⟨ba, op, tw, st, lo, ⟨hba, hop, htw, hst, hlo⟩, by omega⟩⟩)
                      · skip
                        refine s_bipush C dX11_findingOf_360 (by decide) ?_
                        refine s_goto (tgt := 366) C dX11_findingOf_362 (by decide) ?_
                        refine s_iadd C dX11_findingOf_366 ?_
                        refine s_iload C dX11_findingOf_367 rfl ?_
                        refine s_if_eq (tgt := 377) C dX11_findingOf_369 (by decide) (by omega) (fun c369 => ?_) (fun c369 => ?_)
                        · skip
                          refine s_iconst C dX11_findingOf_377 ?_
                          refine s_iadd C dX11_findingOf_378 ?_
                          exact s_ireturn C dX11_findingOf_379 (⟨_, rfl, rfl, by subst hdn; subst hqn; exact ⟨ba, op, tw, st, lo, ⟨hba, hop, htw, hst, hlo⟩, by omega⟩⟩)
                        · skip
                          refine s_bipush C dX11_findingOf_372 (by decide) ?_
                          refine s_goto (tgt := 378) C dX11_findingOf_374 (by decide) ?_
                          refine s_iadd C dX11_findingOf_378 ?_
                          exact s_ireturn C dX11_findingOf_379 (⟨_, rfl, rfl, by subst hdn; subst hqn; exact ⟨ba, op, tw, st, lo, ⟨hba, hop, htw, hst, hlo⟩, by omega⟩⟩)
                  · skip
                    refine s_iconst C dX11_findingOf_339 ?_
                    refine s_goto (tgt := 344) C dX11_findingOf_340 (by decide) ?_
                    refine s_iadd C dX11_findingOf_344 ?_
                    refine s_iload_n C dX11_findingOf_345 rfl ?_
                    refine s_if_eq (tgt := 353) C dX11_findingOf_346 (by decide) (by omega) (fun c346 => ?_) (fun c346 => ?_)
                    · skip
                      refine s_iconst C dX11_findingOf_353 ?_
                      refine s_iadd C dX11_findingOf_354 ?_
                      refine s_iload C dX11_findingOf_355 rfl ?_
                      refine s_if_eq (tgt := 365) C dX11_findingOf_357 (by decide) (by omega) (fun c357 => ?_) (fun c357 => ?_)
                      · skip
                        refine s_iconst C dX11_findingOf_365 ?_
                        refine s_iadd C dX11_findingOf_366 ?_
                        refine s_iload C dX11_findingOf_367 rfl ?_
                        refine s_if_eq (tgt := 377) C dX11_findingOf_369 (by decide) (by omega) (fun c369 => ?_) (fun c369 => ?_)
                        · skip
                          refine s_iconst C dX11_findingOf_377 ?_
                          refine s_iadd C dX11_findingOf_378 ?_
                          exact s_ireturn C dX11_findingOf_379 (⟨_, rfl, rfl, by subst hdn; subst hqn; exact ⟨ba, op, tw, st, lo, ⟨hba, hop, htw, hst, hlo⟩, by omega⟩⟩)
                        · skip
                          refine s_bipush C dX11_findingOf_372 (by decide) ?_
                          refine s_goto (tgt := 378) C dX11_findingOf_374 (by decide) ?_
                          refine s_iadd C dX11_findingOf_378 ?_
                          exact s_ireturn C dX11_findingOf_379 (⟨_, rfl, rfl, by subst hdn; subst hqn; exact ⟨ba, op, tw, st, lo, ⟨hba, hop, htw, hst, hlo⟩, by omega⟩⟩)
                      · skip
                        refine s_bipush C dX11_findingOf_360 (by decide) ?_
                        refine s_goto (tgt := 366) C dX11_findingOf_362 (by decide) ?_
                        refine s_iadd C dX11_findingOf_366 ?_
                        refine s_iload C dX11_findingOf_367 rfl ?_
                        refine s_if_eq (tgt := 377) C dX11_findingOf_369 (by decide) (by omega) (fun c369 => ?_) (fun c369 => ?_)
                        · skip
                          refine s_iconst C dX11_findingOf_377 ?_
                          refine s_iadd C dX11_findingOf_378 ?_
                          exact s_ireturn C dX11_findingOf_379 (⟨_, rfl, rfl, by subst hdn; subst hqn; exact ⟨ba, op, tw, st, lo, ⟨hba, hop, htw, hst, hlo⟩, by omega⟩⟩)
                        · skip
                          refine s_bipush C dX11_findingOf_372 (by decide) ?_
                          refine s_goto (tgt := 378) C dX11_findingOf_374 (by decide) ?_
                          refine s_iadd C dX11_findingOf_378 ?_
                          exact s_ireturn C dX11_findingOf_379 (⟨_, rfl, rfl, by subst hdn; subst hqn; exact ⟨ba, op, tw, st, lo, ⟨hba, hop, htw, hst, hlo⟩, by omega⟩⟩)
                    · skip
                      refine s_iconst C dX11_findingOf_349 ?_
                      refine s_goto (tgt := 354) C dX11_findingOf_350 (by decide) ?_
                      refine s_iadd C dX11_findingOf_354 ?_
                      refine s_iload C dX11_findingOf_355 rfl ?_
                      refine s_if_eq (tgt := 365) C dX11_findingOf_357 (by decide) (by omega) (fun c357 => ?_) (fun c357 => ?_)
                      · skip
                        refine s_iconst C dX11_findingOf_365 ?_
                        refine s_iadd C dX11_findingOf_366 ?_
                        refine s_iload C dX11_findingOf_367 rfl ?_
                        refine s_if_eq (tgt := 377) C dX11_findingOf_369 (by decide) (by omega) (fun c369 => ?_) (fun c369 => ?_)
                        · skip
                          refine s_iconst C dX11_findingOf_377 ?_
                          refine s_iadd C dX11_findingOf_378 ?_
                          exact s_ireturn C dX11_findingOf_379 (⟨_, rfl, rfl, by subst hdn; subst hqn; exact ⟨ba, op, tw, st, lo, ⟨hba, hop, htw, hst, hlo⟩, by omega⟩⟩)
                        · skip
                          refine s_bipush C dX11_findingOf_372 (by decide) ?_
                          refine s_goto (tgt := 378) C dX11_findingOf_374 (by decide) ?_
                          refine s_iadd C dX11_findingOf_378 ?_
                          exact s_ireturn C dX11_findingOf_379 (⟨_, rfl, rfl, by subst hdn; subst hqn; exact ⟨ba, op, tw, st, lo, ⟨hba, hop, htw, hst, hlo⟩, by omega⟩⟩)
                      · skip
                        refine s_bipush C dX11_findingOf_360 (by decide) ?_
                        refine s_goto (tgt := 366) C dX11_findingOf_362 (by decide) ?_
                        refine s_iadd C dX11_findingOf_366 ?_
                        refine s_iload C dX11_findingOf_367 rfl ?_
                        refine s_if_eq (tgt := 377) C dX11_findingOf_369 (by decide) (by omega) (fun c369 => ?_) (fun c369 => ?_)
                        · skip
                          refine s_iconst C dX11_findingOf_377 ?_
                          refine s_iadd C dX11_findingOf_378 ?_
                          exact s_ireturn C dX11_findingOf_379 (⟨_, rfl, rfl, by subst hdn; subst hqn; exact ⟨ba, op, tw, st, lo, ⟨hba, hop, htw, hst, hlo⟩, by omega⟩⟩)
                        · skip
                          refine s_bipush C dX11_findingOf_372 (by decide) ?_
                          refine s_goto (tgt := 378) C dX11_findingOf_374 (by decide) ?_
                          refine s_iadd C dX11_findingOf_378 ?_
                          exact s_ireturn C dX11_findingOf_379 (⟨_, rfl, rfl, by subst hdn; subst hqn; exact ⟨ba, op, tw, st, lo, ⟨hba, hop, htw, hst, hlo⟩, by omega⟩⟩)
                · skip
                  refine s_iconst C dX11_findingOf_329 ?_
                  refine s_goto (tgt := 334) C dX11_findingOf_330 (by decide) ?_
                  refine s_iload C dX11_findingOf_334 rfl ?_
                  refine s_if_eq (tgt := 343) C dX11_findingOf_336 (by decide) (by omega) (fun c336 => ?_) (fun c336 => ?_)
                  · skip
                    refine s_iconst C dX11_findingOf_343 ?_
                    refine s_iadd C dX11_findingOf_344 ?_
                    refine s_iload_n C dX11_findingOf_345 rfl ?_
                    refine s_if_eq (tgt := 353) C dX11_findingOf_346 (by decide) (by omega) (fun c346 => ?_) (fun c346 => ?_)
                    · skip
                      refine s_iconst C dX11_findingOf_353 ?_
                      refine s_iadd C dX11_findingOf_354 ?_
                      refine s_iload C dX11_findingOf_355 rfl ?_
                      refine s_if_eq (tgt := 365) C dX11_findingOf_357 (by decide) (by omega) (fun c357 => ?_) (fun c357 => ?_)
                      · skip
                        refine s_iconst C dX11_findingOf_365 ?_
                        refine s_iadd C dX11_findingOf_366 ?_
                        refine s_iload C dX11_findingOf_367 rfl ?_
                        refine s_if_eq (tgt := 377) C dX11_findingOf_369 (by decide) (by omega) (fun c369 => ?_) (fun c369 => ?_)
                        · skip
                          refine s_iconst C dX11_findingOf_377 ?_
                          refine s_iadd C dX11_findingOf_378 ?_
                          exact s_ireturn C dX11_findingOf_379 (⟨_, rfl, rfl, by subst hdn; subst hqn; exact ⟨ba, op, tw, st, lo, ⟨hba, hop, htw, hst, hlo⟩, by omega⟩⟩)
                        · skip
                          refine s_bipush C dX11_findingOf_372 (by decide) ?_
                          refine s_goto (tgt := 378) C dX11_findingOf_374 (by decide) ?_
                          refine s_iadd C dX11_findingOf_378 ?_
                          exact s_ireturn C dX11_findingOf_379 (⟨_, rfl, rfl, by subst hdn; subst hqn; exact ⟨ba, op, tw, st, lo, ⟨hba, hop, htw, hst, hlo⟩, by omega⟩⟩)
                      · skip
                        refine s_bipush C dX11_findingOf_360 (by decide) ?_
                        refine s_goto (tgt := 366) C dX11_findingOf_362 (by decide) ?_
                        refine s_iadd C dX11_findingOf_366 ?_
                        refine s_iload C dX11_findingOf_367 rfl ?_
                        refine s_if_eq (tgt := 377) C dX11_findingOf_369 (by decide) (by omega) (fun c369 => ?_) (fun c369 => ?_)
                        · skip
                          refine s_iconst C dX11_findingOf_377 ?_
                          refine s_iadd C dX11_findingOf_378 ?_
                          exact s_ireturn C dX11_findingOf_379 (⟨_, rfl, rfl, by subst hdn; subst hqn; exact ⟨ba, op, tw, st, lo, ⟨hba, hop, htw, hst, hlo⟩, by omega⟩⟩)
                        · skip
                          refine s_bipush C dX11_findingOf_372 (by decide) ?_
                          refine s_goto (tgt := 378) C dX11_findingOf_374 (by decide) ?_
                          refine s_iadd C dX11_findingOf_378 ?_
                          exact s_ireturn C dX11_findingOf_379 (⟨_, rfl, rfl, by subst hdn; subst hqn; exact ⟨ba, op, tw, st, lo, ⟨hba, hop, htw, hst, hlo⟩, by omega⟩⟩)
                    · skip
                      refine s_iconst C dX11_findingOf_349 ?_
                      refine s_goto (tgt := 354) C dX11_findingOf_350 (by decide) ?_
                      refine s_iadd C dX11_findingOf_354 ?_
                      refine s_iload C dX11_findingOf_355 rfl ?_
                      refine s_if_eq (tgt := 365) C dX11_findingOf_357 (by decide) (by omega) (fun c357 => ?_) (fun c357 => ?_)
                      · skip
                        refine s_iconst C dX11_findingOf_365 ?_
                        refine s_iadd C dX11_findingOf_366 ?_
                        refine s_iload C dX11_findingOf_367 rfl ?_
                        refine s_if_eq (tgt := 377) C dX11_findingOf_369 (by decide) (by omega) (fun c369 => ?_) (fun c369 => ?_)
                        · skip
                          refine s_iconst C dX11_findingOf_377 ?_
                          refine s_iadd C dX11_findingOf_378 ?_
                          exact s_ireturn C dX11_findingOf_379 (⟨_, rfl, rfl, by subst hdn; subst hqn; exact ⟨ba, op, tw, st, lo, ⟨hba, hop, htw, hst, hlo⟩, by omega⟩⟩)
                        · skip
                          refine s_bipush C dX11_findingOf_372 (by decide) ?_
                          refine s_goto (tgt := 378) C dX11_findingOf_374 (by decide) ?_
                          refine s_iadd C dX11_findingOf_378 ?_
                          exact s_ireturn C dX11_findingOf_379 (⟨_, rfl, rfl, by subst hdn; subst hqn; exact ⟨ba, op, tw, st, lo, ⟨hba, hop, htw, hst, hlo⟩, by omega⟩⟩)
                      · skip
                        refine s_bipush C dX11_findingOf_360 (by decide) ?_
                        refine s_goto (tgt := 366) C dX11_findingOf_362 (by decide) ?_
                        refine s_iadd C dX11_findingOf_366 ?_
                        refine s_iload C dX11_findingOf_367 rfl ?_
                        refine s_if_eq (tgt := 377) C dX11_findingOf_369 (by decide) (by omega) (fun c369 => ?_) (fun c369 => ?_)
                        · skip
                          refine s_iconst C dX11_findingOf_377 ?_
                          refine s_iadd C dX11_findingOf_378 ?_
                          exact s_ireturn C dX11_findingOf_379 (⟨_, rfl, rfl, by subst hdn; subst hqn; exact ⟨ba, op, tw, st, lo, ⟨hba, hop, htw, hst, hlo⟩, by omega⟩⟩)
                        · skip
                          refine s_bipush C dX11_findingOf_372 (by decide) ?_
                          refine s_goto (tgt := 378) C dX11_findingOf_374 (by decide) ?_
                          refine s_iadd C dX11_findingOf_378 ?_
                          exact s_ireturn C dX11_findingOf_379 (⟨_, rfl, rfl, by subst hdn; subst hqn; exact ⟨ba, op, tw, st, lo, ⟨hba, hop, htw, hst, hlo⟩, by omega⟩⟩)
                  · skip
                    refine s_iconst C dX11_findingOf_339 ?_
                    refine s_goto (tgt := 344) C dX11_findingOf_340 (by decide) ?_
                    refine s_iadd C dX11_findingOf_344 ?_
                    refine s_iload_n C dX11_findingOf_345 rfl ?_
                    refine s_if_eq (tgt := 353) C dX11_findingOf_346 (by decide) (by omega) (fun c346 => ?_) (fun c346 => ?_)
                    · skip
                      refine s_iconst C dX11_findingOf_353 ?_
                      refine s_iadd C dX11_findingOf_354 ?_
                      refine s_iload C dX11_findingOf_355 rfl ?_
                      refine s_if_eq (tgt := 365) C dX11_findingOf_357 (by decide) (by omega) (fun c357 => ?_) (fun c357 => ?_)
                      · skip
                        refine s_iconst C dX11_findingOf_365 ?_
                        refine s_iadd C dX11_findingOf_366 ?_
                        refine s_iload C dX11_findingOf_367 rfl ?_
                        refine s_if_eq (tgt := 377) C dX11_findingOf_369 (by decide) (by omega) (fun c369 => ?_) (fun c369 => ?_)
                        · skip
                          refine s_iconst C dX11_findingOf_377 ?_
                          refine s_iadd C dX11_findingOf_378 ?_
                          exact s_ireturn C dX11_findingOf_379 (⟨_, rfl, rfl, by subst hdn; subst hqn; exact ⟨ba, op, tw, st, lo, ⟨hba, hop, htw, hst, hlo⟩, by omega⟩⟩)
                        · skip
                          refine s_bipush C dX11_findingOf_372 (by decide) ?_
                          refine s_goto (tgt := 378) C dX11_findingOf_374 (by decide) ?_
                          refine s_iadd C dX11_findingOf_378 ?_
                          exact s_ireturn C dX11_findingOf_379 (⟨_, rfl, rfl, by subst hdn; subst hqn; exact ⟨ba, op, tw, st, lo, ⟨hba, hop, htw, hst, hlo⟩, by omega⟩⟩)
                      · skip
                        refine s_bipush C dX11_findingOf_360 (by decide) ?_
                        refine s_goto (tgt := 366) C dX11_findingOf_362 (by decide) ?_
                        refine s_iadd C dX11_findingOf_366 ?_
                        refine s_iload C dX11_findingOf_367 rfl ?_
                        refine s_if_eq (tgt := 377) C dX11_findingOf_369 (by decide) (by omega) (fun c369 => ?_) (fun c369 => ?_)
                        · skip
                          refine s_iconst C dX11_findingOf_377 ?_
                          refine s_iadd C dX11_findingOf_378 ?_
                          exact s_ireturn C dX11_findingOf_379 (⟨_, rfl, rfl, by subst hdn; subst hqn; exact ⟨ba, op, tw, st, lo, ⟨hba, hop, htw, hst, hlo⟩, by omega⟩⟩)
                        · skip
                          refine s_bipush C dX11_findingOf_372 (by decide) ?_
                          refine s_goto (tgt := 378) C dX11_findingOf_374 (by decide) ?_
                          refine s_iadd C dX11_findingOf_378 ?_
                          exact s_ireturn C dX11_findingOf_379 (⟨_, rfl, rfl, by subst hdn; subst hqn; exact ⟨ba, op, tw, st, lo, ⟨hba, hop, htw, hst, hlo⟩, by omega⟩⟩)
                    · skip
                      refine s_iconst C dX11_findingOf_349 ?_
                      refine s_goto (tgt := 354) C dX11_findingOf_350 (by decide) ?_
                      refine s_iadd C dX11_findingOf_354 ?_
                      refine s_iload C dX11_findingOf_355 rfl ?_
                      refine s_if_eq (tgt := 365) C dX11_findingOf_357 (by decide) (by omega) (fun c357 => ?_) (fun c357 => ?_)
                      · skip
                        refine s_iconst C dX11_findingOf_365 ?_
                        refine s_iadd C dX11_findingOf_366 ?_
                        refine s_iload C dX11_findingOf_367 rfl ?_
                        refine s_if_eq (tgt := 377) C dX11_findingOf_369 (by decide) (by omega) (fun c369 => ?_) (fun c369 => ?_)
                        · skip
                          refine s_iconst C dX11_findingOf_377 ?_
                          refine s_iadd C dX11_findingOf_378 ?_
                          exact s_ireturn C dX11_findingOf_379 (⟨_, rfl, rfl, by subst hdn; subst hqn; exact ⟨ba, op, tw, st, lo, ⟨hba, hop, htw, hst, hlo⟩, by omega⟩⟩)
                        · skip
                          refine s_bipush C dX11_findingOf_372 (by decide) ?_
                          refine s_goto (tgt := 378) C dX11_findingOf_374 (by decide) ?_
                          refine s_iadd C dX11_findingOf_378 ?_
                          exact s_ireturn C dX11_findingOf_379 (⟨_, rfl, rfl, by subst hdn; subst hqn; exact ⟨ba, op, tw, st, lo, ⟨hba, hop, htw, hst, hlo⟩, by omega⟩⟩)
                      · skip
                        refine s_bipush C dX11_findingOf_360 (by decide) ?_
                        refine s_goto (tgt := 366) C dX11_findingOf_362 (by decide) ?_
                        refine s_iadd C dX11_findingOf_366 ?_
                        refine s_iload C dX11_findingOf_367 rfl ?_
                        refine s_if_eq (tgt := 377) C dX11_findingOf_369 (by decide) (by omega) (fun c369 => ?_) (fun c369 => ?_)
                        · skip
                          refine s_iconst C dX11_findingOf_377 ?_
                          refine s_iadd C dX11_findingOf_378 ?_
                          exact s_ireturn C dX11_findingOf_379 (⟨_, rfl, rfl, by subst hdn; subst hqn; exact ⟨ba, op, tw, st, lo, ⟨hba, hop, htw, hst, hlo⟩, by omega⟩⟩)
                        · skip
                          refine s_bipush C dX11_findingOf_372 (by decide) ?_
                          refine s_goto (tgt := 378) C dX11_findingOf_374 (by decide) ?_
                          refine s_iadd C dX11_findingOf_378 ?_
                          exact s_ireturn C dX11_findingOf_379 (⟨_, rfl, rfl, by subst hdn; subst hqn; exact ⟨ba, op, tw, st, lo, ⟨hba, hop, htw, hst, hlo⟩, by omega⟩⟩)
              refine s_istore (lv' := [_, _, _, _, _, _, _, _]) C dX11_findingOf_298 (by decide) rfl rfl ?_
              refine s_iload_n C dX11_findingOf_300 rfl ?_
              refine s_if_ne (tgt := 322) C dX11_findingOf_301 (by decide) (by omega) (fun c301 => ?_) (fun c301 => ?_)
              · skip
                refine s_iconst C dX11_findingOf_322 ?_
                first | exact L323 0 _ _ (Bz.f (fun h => c301 h.1)) | exact L323 0 _ _ (Bz.f (fun h => q312.n c315 h.2))
              · skip
                refine s_aload_n C dX11_findingOf_304 rfl ?_
                refine s_getr (k := 31) (b := 89) C dX11_findingOf_305 fl_X11_81 (by decide) rfl (by decide) rfl ?_
                refine s_iload_n C dX11_findingOf_308 rfl ?_
                refine s_iaload (n := 24) C dX11_findingOf_309 (by decide) rfl rfl (by omega) (by omega) (by omega) (rfl) (fun r309 => ?_)
                refine s_iconst C dX11_findingOf_310 ?_
                refine s_iconst C dX11_findingOf_311 ?_
                refine s_callS3 C dX11_findingOf_312 cy_X11_in cs_X11_in lk_X11_139 (ct_X11_in E M (M 89 i) 1 3 r309 (by decide) (by decide)) (by decide) (Nat.le_of_ble_eq_true rfl) (k_P (fun z312 q312 => ?_))
                refine s_if_eq (tgt := 322) C dX11_findingOf_315 (by decide) (by have := q312.b; omega) (fun c315 => ?_) (fun c315 => ?_)
                · skip
                  refine s_iconst C dX11_findingOf_322 ?_
                  first | exact L323 0 _ _ (Bz.f (fun h => c301 h.1)) | exact L323 0 _ _ (Bz.f (fun h => q312.n c315 h.2))
                · skip
                  refine s_iconst C dX11_findingOf_318 ?_
                  refine s_goto (tgt := 323) C dX11_findingOf_319 (by decide) ?_
                  exact L323 1 _ _ (Bz.t ⟨c301, q312.y c315⟩)
            have L205 : ∀ (n9 : Nat) (e kn : Int) (he : 0 ≤ e ∧ e ≤ i) (hql : q < M 88 i) (hkn : Bz kn (knR M i q e)) (hm : (i - e).toNat < n9), Gm E κ (pP M (fun z => FndR M i z)) 8 205 [some (zr E 66), some (zi i), some (zi ba), some (zi tw), some (zi st), some (zi (40 * i + q)), some (zi kn), some (zi e)] [] M := by
              intro n9
              induction n9 with
              | zero => intro e kn  he hql hkn hm; exact absurd hm (Nat.not_lt_zero _)
              | succ n9 ih205 =>
                intro e kn  he hql hkn hm
                have hkn0 := hkn.b
                have L267 : ∀ (s2 : Int) (u4 u6 u7 : Option Value) (hs2 : Bz s2 (stR M i (q + 1))), Gm E κ (pP M (fun z => FndR M i z)) 8 267 [some (zr E 66), some (zi i), some (zi ba), some (zi tw), u4, some (zi (40 * i + q)), u6, u7] [zi s2] M := by
                  intro s2 u4 u6 u7 hs2
                  refine s_istore (lv' := [_, _, _, _, _, _, _, _]) C dX11_findingOf_267 (by decide) rfl rfl ?_
                  refine s_iinc (lv' := [_, _, _, _, _, _, _, _]) C dX11_findingOf_269 rfl (by decide) rfl rfl rfl ?_
                  refine s_goto (tgt := 183) C dX11_findingOf_272 (by decide) ?_
                  rw [show 40 * i + q + 1 = 40 * i + (q + 1) by omega]
                  exact ih183 _ _ _ _ (by omega) hs2 (by omega)
                have L244 : ∀ (k2 : Int) (u6 : Option Value) (hel : e < i) (hk2 : Bz k2 (knR M i q (e + 1))), Gm E κ (pP M (fun z => FndR M i z)) 8 244 [some (zr E 66), some (zi i), some (zi ba), some (zi tw), some (zi st), some (zi (40 * i + q)), u6, some (zi e)] [zi k2] M := by
                  intro k2 u6 hel hk2
                  refine s_istore (lv' := [_, _, _, _, _, _, _, _]) C dX11_findingOf_244 (by decide) rfl rfl ?_
                  refine s_iinc (lv' := [_, _, _, _, _, _, _, _]) C dX11_findingOf_246 rfl (by decide) rfl rfl rfl ?_
                  refine s_goto (tgt := 205) C dX11_findingOf_249 (by decide) ?_
                  exact ih205 _ _ (by omega) hql hk2 (by omega)
                refine s_iload C dX11_findingOf_205 rfl ?_
                refine s_iload_n C dX11_findingOf_207 rfl ?_
                refine s_icmp_ge (tgt := 252) C dX11_findingOf_208 (by decide) (by omega) (by omega) (fun c208 => ?_) (fun c208 => ?_)
                · skip
                  refine s_iload C dX11_findingOf_252 rfl ?_
                  refine s_if_eq (tgt := 266) C dX11_findingOf_254 (by decide) (by omega) (fun c254 => ?_) (fun c254 => ?_)
                  · skip
                    refine s_iconst C dX11_findingOf_266 ?_
                    first
                      | exact L267 0 _ _ _ (Bz.f (fun h => hst.n c254 ((stR_s hq.1).mp h).1))
                      | exact L267 0 _ _ _ (Bz.f (fun h => hkn.n c259 (by have := ((stR_s hq.1).mp h).2; rw [show e = i by omega]; exact this)))
                  · skip
                    refine s_iload C dX11_findingOf_257 rfl ?_
                    refine s_if_eq (tgt := 266) C dX11_findingOf_259 (by decide) (by omega) (fun c259 => ?_) (fun c259 => ?_)
                    · skip
                      refine s_iconst C dX11_findingOf_266 ?_
                      first
                        | exact L267 0 _ _ _ (Bz.f (fun h => hst.n c254 ((stR_s hq.1).mp h).1))
                        | exact L267 0 _ _ _ (Bz.f (fun h => hkn.n c259 (by have := ((stR_s hq.1).mp h).2; rw [show e = i by omega]; exact this)))
                    · skip
                      refine s_iconst C dX11_findingOf_262 ?_
                      refine s_goto (tgt := 267) C dX11_findingOf_263 (by decide) ?_
                      exact L267 1 _ _ _ (Bz.t ((stR_s hq.1).mpr ⟨hst.y c254, by have := hkn.y c259; rw [show e = i by omega] at this; exact this⟩))
                · skip
                  refine s_iload C dX11_findingOf_211 rfl ?_
                  refine s_if_ne (tgt := 239) C dX11_findingOf_213 (by decide) (by omega) (fun c213 => ?_) (fun c213 => ?_)
                  · skip
                    refine s_iconst C dX11_findingOf_239 ?_
                    refine s_goto (tgt := 244) C dX11_findingOf_240 (by decide) ?_
                    first
                      | exact L244 1 _ (by omega) (Bz.t (knR_s.mpr (Or.inl (hkn.y c213))))
                      | exact L244 1 _ (by omega) (Bz.t (knR_s.mpr (Or.inr ⟨by omega, q233.y c236⟩)))
                  · skip
                    have hb2 := (hK i (by omega) (by omega)).2 q (by omega) (by omega)
                    refine s_aload_n C dX11_findingOf_216 rfl ?_
                    refine s_iload C dX11_findingOf_217 rfl ?_
                    refine s_aload_n C dX11_findingOf_219 rfl ?_
                    refine s_getr (k := 28) (b := 86) C dX11_findingOf_220 fl_X11_72 (by decide) rfl (by decide) rfl ?_
                    refine s_iload C dX11_findingOf_223 rfl ?_
                    refine s_iaload (n := 960) C dX11_findingOf_225 (by decide) rfl rfl (by omega) (by omega) (by omega) (rfl) (fun r225 => ?_)
                    refine s_aload_n C dX11_findingOf_226 rfl ?_
                    refine s_getr (k := 29) (b := 87) C dX11_findingOf_227 fl_X11_75 (by decide) rfl (by decide) rfl ?_
                    refine s_iload C dX11_findingOf_230 rfl ?_
                    refine s_iaload (n := 960) C dX11_findingOf_232 (by decide) rfl rfl (by omega) (by omega) (by omega) (rfl) (fun r232 => ?_)
                    refine s_callV3 C dX11_findingOf_233 cy_X11_hasKey cv_X11_hasKey lk_X11_212 (ct_X11_hasKey E M e (M 86 (40 * i + q)) (M 87 (40 * i + q)) (by omega) hb2.1 hb2.2 (hK e (by omega) (by omega))) (by decide) (by decide) (by first | decide | (decide)) rfl (Nat.le_of_ble_eq_true rfl) (k_P (fun z233 q233 => ?_))
                    refine s_if_eq (tgt := 243) C dX11_findingOf_236 (by decide) (by have := q233.b; omega) (fun c236 => ?_) (fun c236 => ?_)
                    · skip
                      refine s_iconst C dX11_findingOf_243 ?_
                      exact L244 0 _ (by omega) (Bz.f (fun h => (knR_s.mp h).elim (hkn.n c213) (fun g => q233.n c236 g.2)))
                    · skip
                      refine s_iconst C dX11_findingOf_239 ?_
                      refine s_goto (tgt := 244) C dX11_findingOf_240 (by decide) ?_
                      first
                        | exact L244 1 _ (by omega) (Bz.t (knR_s.mpr (Or.inl (hkn.y c213))))
                        | exact L244 1 _ (by omega) (Bz.t (knR_s.mpr (Or.inr ⟨by omega, q233.y c236⟩)))
            refine s_iload C dX11_findingOf_183 rfl ?_
            refine s_bipush C dX11_findingOf_185 (by decide) ?_
            refine s_iload_n C dX11_findingOf_187 rfl ?_
            refine s_imul C dX11_findingOf_188 ?_
            refine s_aload_n C dX11_findingOf_189 rfl ?_
            refine s_getr (k := 30) (b := 88) C dX11_findingOf_190 fl_X11_78 (by decide) rfl (by decide) rfl ?_
            refine s_iload_n C dX11_findingOf_193 rfl ?_
            refine s_iaload (n := 24) C dX11_findingOf_194 (by decide) rfl rfl (by omega) (by omega) (by omega) (rfl) (fun r194 => ?_)
            refine s_iadd C dX11_findingOf_195 ?_
            refine s_icmp_ge (tgt := 275) C dX11_findingOf_196 (by decide) (by omega) (by omega) (fun c196 => ?_) (fun c196 => ?_)
            · skip
              refine s_aload_n C dX11_findingOf_275 rfl ?_
              refine s_getr (k := 31) (b := 89) C dX11_findingOf_276 fl_X11_81 (by decide) rfl (by decide) rfl ?_
              refine s_iload_n C dX11_findingOf_279 rfl ?_
              refine s_iaload (n := 24) C dX11_findingOf_280 (by decide) rfl rfl (by omega) (by omega) (by omega) (rfl) (fun r280 => ?_)
              refine s_iconst C dX11_findingOf_281 ?_
              refine s_icmp_ne (tgt := 297) C dX11_findingOf_282 (by decide) (by omega) (by omega) (fun c282 => ?_) (fun c282 => ?_)
              · skip
                refine s_iconst C dX11_findingOf_297 ?_
                first | exact L298 0 _ _ _ (by omega) (Bz.f (fun h => c282 h.1)) | exact L298 0 _ _ _ (by omega) (Bz.f (fun h => c290 (q287.trans h.2)))
              · skip
                refine s_aload_n C dX11_findingOf_285 rfl ?_
                refine s_iload_n C dX11_findingOf_286 rfl ?_
                refine s_callV1 C dX11_findingOf_287 cy_X11_hanging cv_X11_hanging lk_X11_256 (ct_X11_hanging E M i (by omega) (by omega)) (by decide) (by decide) (by first | decide | (decide)) rfl (Nat.le_of_ble_eq_true rfl) (k_P (fun z287 q287 => ?_))
                have hh0 := cntB_nn (fun d => M 95 d == i) (M 66 24).toNat
                have hh1 : 0 ≤ z287 ∧ z287 ≤ 24 := by rw [q287]; unfold bHu; omega
                refine s_if_ne (tgt := 297) C dX11_findingOf_290 (by decide) (by omega) (fun c290 => ?_) (fun c290 => ?_)
                · skip
                  refine s_iconst C dX11_findingOf_297 ?_
                  first | exact L298 0 _ _ _ (by omega) (Bz.f (fun h => c282 h.1)) | exact L298 0 _ _ _ (by omega) (Bz.f (fun h => c290 (q287.trans h.2)))
                · skip
                  refine s_iconst C dX11_findingOf_293 ?_
                  refine s_goto (tgt := 298) C dX11_findingOf_294 (by decide) ?_
                  exact L298 1 _ _ _ (by omega) (Bz.t ⟨c282, by rw [← q287]; exact c290⟩)
            · skip
              refine s_iconst C dX11_findingOf_199 ?_
              refine s_istore (lv' := [_, _, _, _, _, _, _, _]) C dX11_findingOf_200 (by decide) rfl rfl ?_
              refine s_iconst C dX11_findingOf_202 ?_
              refine s_istore (lv' := [_, _, _, _, _, _, _, _]) C dX11_findingOf_203 (by decide) rfl rfl ?_
              exact L205 _ 0 0 (by omega) (by omega) (Bz.f (knR_0 M i q)) (Nat.lt_succ_self _)
        refine s_istore (lv' := [_, _, _, _, _, _, _, _]) C dX11_findingOf_175 (by decide) rfl rfl ?_
        refine s_bipush C dX11_findingOf_177 (by decide) ?_
        refine s_iload_n C dX11_findingOf_179 rfl ?_
        refine s_imul C dX11_findingOf_180 ?_
        refine s_istore (lv' := [_, _, _, _, _, _, _, _]) C dX11_findingOf_181 (by decide) rfl rfl ?_
        rw [show 40 * i = 40 * i + 0 by omega]
        exact L183 _ 0 s0 _ _ (by omega) (hs0.cg ⟨fun h => ⟨h, fun q a b => by omega⟩, fun h => h.1⟩) (Nat.lt_succ_self _)
      have L74 : ∀ (ba2 : Int) (u5 u6 u7 : Option Value) (hdl : d < M 66 24) (hba2 : Bz ba2 (baR M i (d + 1))), Gm E κ (pP M (fun z => FndR M i z)) 8 74 [some (zr E 66), some (zi i), some (zi ba2), some (zi tw), some (zi d), u5, u6, u7] [] M := by
        intro ba2 u5 u6 u7 hdl hba2
        have hba20 := hba2.b
        have L111 : ∀ (be : Int) (u5 u6 u7 : Option Value) (hbe : Bz be (d < i ∧ M 95 i ≠ -1 ∧ M 95 d = M 95 i)), Gm E κ (pP M (fun z => FndR M i z)) 8 111 [some (zr E 66), some (zi i), some (zi ba2), some (zi tw), some (zi d), u5, u6, u7] [zi be] M := by
          intro be u5 u6 u7 hbe
          have hbe0 := hbe.b
          have L154 : ∀ (t2 : Int) (u3 u5 u6 u7 : Option Value) (ht2 : Bz t2 (twR M i (d + 1))), Gm E κ (pP M (fun z => FndR M i z)) 8 154 [some (zr E 66), some (zi i), some (zi ba2), u3, some (zi d), u5, u6, u7] [zi t2] M := by
            intro t2 u3 u5 u6 u7 ht2
            refine s_istore_n (lv' := [_, _, _, _, _, _, _, _]) C dX11_findingOf_154 (by decide) rfl rfl ?_
            refine s_iinc (lv' := [_, _, _, _, _, _, _, _]) C dX11_findingOf_155 rfl (by decide) rfl rfl rfl ?_
            refine s_goto (tgt := 30) C dX11_findingOf_158 (by decide) ?_
            exact ih30 _ _ _ _ _ _ (by omega) hba2 ht2 (by omega)
          refine s_istore (lv' := [_, _, _, _, _, _, _, _]) C dX11_findingOf_111 (by decide) rfl rfl ?_
          refine s_iload_n C dX11_findingOf_113 rfl ?_
          refine s_if_ne (tgt := 149) C dX11_findingOf_114 (by decide) (by omega) (fun c114 => ?_) (fun c114 => ?_)
          · skip
            refine s_iconst C dX11_findingOf_149 ?_
            refine s_goto (tgt := 154) C dX11_findingOf_150 (by decide) ?_
            first
              | exact L154 1 _ _ _ _ (Bz.t (twR_s.mpr (Or.inl (htw.y c114))))
              | exact L154 1 _ _ _ _ (Bz.t (twR_s.mpr (Or.inr ⟨by omega, hbe.y c119, by omega, by omega⟩)))
          · skip
            refine s_iload C dX11_findingOf_117 rfl ?_
            refine s_if_eq (tgt := 153) C dX11_findingOf_119 (by decide) (by omega) (fun c119 => ?_) (fun c119 => ?_)
            · skip
              refine s_iconst C dX11_findingOf_153 ?_
              first
                | exact L154 0 _ _ _ _ (Bz.f (fun h => (twR_s.mp h).elim (htw.n c114) (fun g => hbe.n c119 g.2.1)))
                | exact L154 0 _ _ _ _ (Bz.f (fun h => (twR_s.mp h).elim (htw.n c114) (fun g => by have := g.2.2; omega)))
            · skip
              refine s_aload_n C dX11_findingOf_122 rfl ?_
              refine s_getr (k := 30) (b := 88) C dX11_findingOf_123 fl_X11_78 (by decide) rfl (by decide) rfl ?_
              refine s_iload_n C dX11_findingOf_126 rfl ?_
              refine s_iaload (n := 24) C dX11_findingOf_127 (by decide) rfl rfl (by omega) (by omega) (by omega) (rfl) (fun r127 => ?_)
              refine s_if_le (tgt := 153) C dX11_findingOf_128 (by decide) (by omega) (fun c128 => ?_) (fun c128 => ?_)
              · skip
                refine s_iconst C dX11_findingOf_153 ?_
                first
                  | exact L154 0 _ _ _ _ (Bz.f (fun h => (twR_s.mp h).elim (htw.n c114) (fun g => hbe.n c119 g.2.1)))
                  | exact L154 0 _ _ _ _ (Bz.f (fun h => (twR_s.mp h).elim (htw.n c114) (fun g => by have := g.2.2; omega)))
              · skip
                refine s_iconst C dX11_findingOf_131 ?_
                refine s_aload_n C dX11_findingOf_132 rfl ?_
                refine s_iload_n C dX11_findingOf_133 rfl ?_
                refine s_iload C dX11_findingOf_134 rfl ?_
                refine s_callV2 C dX11_findingOf_136 cy_X11_sharedBy cv_X11_sharedBy lk_X11_215 (ct_X11_sharedBy E M i d (by omega) (by omega) (hK i (by omega) (by omega)) (hK d (by omega) (by omega))) (by decide) (by decide) (by first | decide | (decide)) rfl (Nat.le_of_ble_eq_true rfl) (k_P (fun z136 q136 => ?_))
                have hle := shB_le M i d (M 88 i).toNat
                subst q136
                refine s_imul C dX11_findingOf_139 ?_
                refine s_aload_n C dX11_findingOf_140 rfl ?_
                refine s_getr (k := 30) (b := 88) C dX11_findingOf_141 fl_X11_78 (by decide) rfl (by decide) rfl ?_
                refine s_iload_n C dX11_findingOf_144 rfl ?_
                refine s_iaload (n := 24) C dX11_findingOf_145 (by decide) rfl rfl (by omega) (by omega) (by omega) (rfl) (fun r145 => ?_)
                refine s_icmp_lt (tgt := 153) C dX11_findingOf_146 (by decide) (by omega) (by omega) (fun c146 => ?_) (fun c146 => ?_)
                · skip
                  refine s_iconst C dX11_findingOf_153 ?_
                  first
                    | exact L154 0 _ _ _ _ (Bz.f (fun h => (twR_s.mp h).elim (htw.n c114) (fun g => hbe.n c119 g.2.1)))
                    | exact L154 0 _ _ _ _ (Bz.f (fun h => (twR_s.mp h).elim (htw.n c114) (fun g => by have := g.2.2; omega)))
                · skip
                  refine s_iconst C dX11_findingOf_149 ?_
                  refine s_goto (tgt := 154) C dX11_findingOf_150 (by decide) ?_
                  first
                    | exact L154 1 _ _ _ _ (Bz.t (twR_s.mpr (Or.inl (htw.y c114))))
                    | exact L154 1 _ _ _ _ (Bz.t (twR_s.mpr (Or.inr ⟨by omega, hbe.y c119, by omega, by omega⟩)))
        refine s_iload C dX11_findingOf_74 rfl ?_
        refine s_iload_n C dX11_findingOf_76 rfl ?_
        refine s_icmp_ge (tgt := 110) C dX11_findingOf_77 (by decide) (by omega) (by omega) (fun c77 => ?_) (fun c77 => ?_)
        · skip
          refine s_iconst C dX11_findingOf_110 ?_
          first | exact L111 0 _ _ _ (Bz.f (fun h => absurd h.1 (by omega))) | exact L111 0 _ _ _ (Bz.f (fun h => h.2.1 c87)) | exact L111 0 _ _ _ (Bz.f (fun h => c103 h.2.2))
        · skip
          refine s_aload_n C dX11_findingOf_80 rfl ?_
          refine s_getr (k := 38) (b := 95) C dX11_findingOf_81 fl_X11_100 (by decide) rfl (by decide) rfl ?_
          refine s_iload_n C dX11_findingOf_84 rfl ?_
          refine s_iaload (n := 24) C dX11_findingOf_85 (by decide) rfl rfl (by omega) (by omega) (by omega) (rfl) (fun r85 => ?_)
          refine s_iconst C dX11_findingOf_86 ?_
          refine s_icmp_eq (tgt := 110) C dX11_findingOf_87 (by decide) (by omega) (by omega) (fun c87 => ?_) (fun c87 => ?_)
          · skip
            refine s_iconst C dX11_findingOf_110 ?_
            first | exact L111 0 _ _ _ (Bz.f (fun h => absurd h.1 (by omega))) | exact L111 0 _ _ _ (Bz.f (fun h => h.2.1 c87)) | exact L111 0 _ _ _ (Bz.f (fun h => c103 h.2.2))
          · skip
            refine s_aload_n C dX11_findingOf_90 rfl ?_
            refine s_getr (k := 38) (b := 95) C dX11_findingOf_91 fl_X11_100 (by decide) rfl (by decide) rfl ?_
            refine s_iload C dX11_findingOf_94 rfl ?_
            refine s_iaload (n := 24) C dX11_findingOf_96 (by decide) rfl rfl (by omega) (by omega) (by omega) (rfl) (fun r96 => ?_)
            refine s_aload_n C dX11_findingOf_97 rfl ?_
            refine s_getr (k := 38) (b := 95) C dX11_findingOf_98 fl_X11_100 (by decide) rfl (by decide) rfl ?_
            refine s_iload_n C dX11_findingOf_101 rfl ?_
            refine s_iaload (n := 24) C dX11_findingOf_102 (by decide) rfl rfl (by omega) (by omega) (by omega) (rfl) (fun r102 => ?_)
            refine s_icmp_ne (tgt := 110) C dX11_findingOf_103 (by decide) (by omega) (by omega) (fun c103 => ?_) (fun c103 => ?_)
            · skip
              refine s_iconst C dX11_findingOf_110 ?_
              first | exact L111 0 _ _ _ (Bz.f (fun h => absurd h.1 (by omega))) | exact L111 0 _ _ _ (Bz.f (fun h => h.2.1 c87)) | exact L111 0 _ _ _ (Bz.f (fun h => c103 h.2.2))
            · skip
              refine s_iconst C dX11_findingOf_106 ?_
              refine s_goto (tgt := 111) C dX11_findingOf_107 (by decide) ?_
              exact L111 1 _ _ _ (Bz.t ⟨c77, c87, c103⟩)
      refine s_iload C dX11_findingOf_30 rfl ?_
      refine s_aload_n C dX11_findingOf_32 rfl ?_
      refine s_geti (k := 24) (j := 24) C dX11_findingOf_33 fl_X11_196 (by decide) rfl (by decide) rfl (rfl) (fun r33 => ?_)
      refine s_icmp_ge (tgt := 161) C dX11_findingOf_36 (by decide) (by omega) (by omega) (fun c36 => ?_) (fun c36 => ?_)
      · skip
        refine s_aload_n C dX11_findingOf_161 rfl ?_
        refine s_getr (k := 30) (b := 88) C dX11_findingOf_162 fl_X11_78 (by decide) rfl (by decide) rfl ?_
        refine s_iload_n C dX11_findingOf_165 rfl ?_
        refine s_iaload (n := 24) C dX11_findingOf_166 (by decide) rfl rfl (by omega) (by omega) (by omega) (rfl) (fun r166 => ?_)
        refine s_if_le (tgt := 174) C dX11_findingOf_167 (by decide) (by omega) (fun c167 => ?_) (fun c167 => ?_)
        · skip
          refine s_iconst C dX11_findingOf_174 ?_
          exact L175 0 _ _ _ (by omega) (Bz.f (by omega))
        · skip
          refine s_iconst C dX11_findingOf_170 ?_
          refine s_goto (tgt := 175) C dX11_findingOf_171 (by decide) ?_
          exact L175 1 _ _ _ (by omega) (Bz.t (by omega))
      · skip
        refine s_aload_n C dX11_findingOf_39 rfl ?_
        refine s_getr (k := 38) (b := 95) C dX11_findingOf_40 fl_X11_100 (by decide) rfl (by decide) rfl ?_
        refine s_iload C dX11_findingOf_43 rfl ?_
        refine s_iaload (n := 24) C dX11_findingOf_45 (by decide) rfl rfl (by omega) (by omega) (by omega) (rfl) (fun r45 => ?_)
        refine s_iload_n C dX11_findingOf_46 rfl ?_
        refine s_icmp_ne (tgt := 74) C dX11_findingOf_47 (by decide) (by omega) (by omega) (fun c47 => ?_) (fun c47 => ?_)
        · skip
          exact L74 ba _ _ _ (by omega) (hba.cg (by unfold baR; rw [supR_s]; exact ⟨fun h => ⟨h.1, fun q => q.elim h.2 (fun g => c47 g.2.1)⟩, fun h => ⟨h.1, fun q => h.2 (Or.inl q)⟩⟩))
        · skip
          refine s_aload_n C dX11_findingOf_50 rfl ?_
          refine s_getr (k := 31) (b := 89) C dX11_findingOf_51 fl_X11_81 (by decide) rfl (by decide) rfl ?_
          refine s_iload C dX11_findingOf_54 rfl ?_
          refine s_iaload (n := 24) C dX11_findingOf_56 (by decide) rfl rfl (by omega) (by omega) (by omega) (rfl) (fun r56 => ?_)
          refine s_iconst C dX11_findingOf_57 ?_
          refine s_icmp_eq (tgt := 72) C dX11_findingOf_58 (by decide) (by omega) (by omega) (fun c58 => ?_) (fun c58 => ?_)
          · skip
            refine s_iconst C dX11_findingOf_72 ?_
            refine s_istore_n (lv' := [_, _, _, _, _, _, _, _]) C dX11_findingOf_73 (by decide) rfl rfl ?_
            first
              | exact L74 0 _ _ _ (by omega) (Bz.f (fun h => h.2 (supR_s.mpr (Or.inr ⟨by omega, c47, Or.inl c58⟩))))
              | exact L74 0 _ _ _ (by omega) (Bz.f (fun h => h.2 (supR_s.mpr (Or.inr ⟨by omega, c47, Or.inr c69⟩))))
          · skip
            refine s_aload_n C dX11_findingOf_61 rfl ?_
            refine s_getr (k := 31) (b := 89) C dX11_findingOf_62 fl_X11_81 (by decide) rfl (by decide) rfl ?_
            refine s_iload C dX11_findingOf_65 rfl ?_
            refine s_iaload (n := 24) C dX11_findingOf_67 (by decide) rfl rfl (by omega) (by omega) (by omega) (rfl) (fun r67 => ?_)
            refine s_iconst C dX11_findingOf_68 ?_
            refine s_icmp_ne (tgt := 74) C dX11_findingOf_69 (by decide) (by omega) (by omega) (fun c69 => ?_) (fun c69 => ?_)
            · skip
              exact L74 ba _ _ _ (by omega) (hba.cg (by unfold baR; rw [supR_s]; exact ⟨fun h => ⟨h.1, fun q => q.elim h.2 (fun g => g.2.2.elim c58 c69)⟩, fun h => ⟨h.1, fun q => h.2 (Or.inl q)⟩⟩))
            · skip
              refine s_iconst C dX11_findingOf_72 ?_
              refine s_istore_n (lv' := [_, _, _, _, _, _, _, _]) C dX11_findingOf_73 (by decide) rfl rfl ?_
              first
                | exact L74 0 _ _ _ (by omega) (Bz.f (fun h => h.2 (supR_s.mpr (Or.inr ⟨by omega, c47, Or.inl c58⟩))))
                | exact L74 0 _ _ _ (by omega) (Bz.f (fun h => h.2 (supR_s.mpr (Or.inr ⟨by omega, c47, Or.inr c69⟩))))
  have L24 : ∀ (b : Int) (u2 u3 u4 u5 u6 u7 : Option Value) (hb : Bz b (M 89 i = 0 ∨ M 89 i = 4)), Gm E κ (pP M (fun z => FndR M i z)) 8 24 [some (zr E 66), some (zi i), u2, u3, u4, u5, u6, u7] [zi b] M := by
    intro b u2 u3 u4 u5 u6 u7 hb
    refine s_istore_n (lv' := [_, _, _, _, _, _, _, _]) C dX11_findingOf_24 (by decide) rfl rfl ?_
    refine s_iconst C dX11_findingOf_25 ?_
    refine s_istore_n (lv' := [_, _, _, _, _, _, _, _]) C dX11_findingOf_26 (by decide) rfl rfl ?_
    refine s_iconst C dX11_findingOf_27 ?_
    refine s_istore (lv' := [_, _, _, _, _, _, _, _]) C dX11_findingOf_28 (by decide) rfl rfl ?_
    exact L30 _ 0 b 0 _ _ _ (by omega) (hb.cg ⟨fun h => ⟨h, supR_0 M i⟩, fun h => h.1⟩) (Bz.f (twR_0 M i)) (Nat.lt_succ_self _)
  refine s_aload_n C dX11_findingOf_0 rfl ?_
  refine s_getr (k := 31) (b := 89) C dX11_findingOf_1 fl_X11_81 (by decide) rfl (by decide) rfl ?_
  refine s_iload_n C dX11_findingOf_4 rfl ?_
  refine s_iaload (n := 24) C dX11_findingOf_5 (by decide) rfl rfl (by omega) (by omega) (by omega) (rfl) (fun r5 => ?_)
  refine s_if_eq (tgt := 19) C dX11_findingOf_6 (by decide) (by omega) (fun c6 => ?_) (fun c6 => ?_)
  · skip
    refine s_iconst C dX11_findingOf_19 ?_
    refine s_goto (tgt := 24) C dX11_findingOf_20 (by decide) ?_
    exact L24 1 _ _ _ _ _ _ (Bz.t (by omega))
  · skip
    refine s_aload_n C dX11_findingOf_9 rfl ?_
    refine s_getr (k := 31) (b := 89) C dX11_findingOf_10 fl_X11_81 (by decide) rfl (by decide) rfl ?_
    refine s_iload_n C dX11_findingOf_13 rfl ?_
    refine s_iaload (n := 24) C dX11_findingOf_14 (by decide) rfl rfl (by omega) (by omega) (by omega) (rfl) (fun r14 => ?_)
    refine s_iconst C dX11_findingOf_15 ?_
    refine s_icmp_ne (tgt := 23) C dX11_findingOf_16 (by decide) (by omega) (by omega) (fun c16 => ?_) (fun c16 => ?_)
    · skip
      refine s_iconst C dX11_findingOf_23 ?_
      exact L24 0 _ _ _ _ _ _ (Bz.f (by omega))
    · skip
      refine s_iconst C dX11_findingOf_19 ?_
      refine s_goto (tgt := 24) C dX11_findingOf_20 (by decide) ?_
      exact L24 1 _ _ _ _ _ _ (Bz.t (by omega))

set_option maxRecDepth 20000 in
set_option maxHeartbeats 4000000 in
theorem ct_X11_finding (E : Ev) (M : Mm) (hI : RI M) (i : Int) (hi : rg i) : Ct E yX11_finding cX11_finding 2 (some .int) 6 [zr E 66, zi i] M (pI (fun z M' => (¬ (0 ≤ i ∧ i < M 66 24) ∧ z = -2 ∧ M' = M) ∨ ((0 ≤ i ∧ i < M 66 24) ∧ Tfs M M' ∧ FndR M' i z))) := by
  refine Ct.of (own := RX11) (lv0 := [some (zr E 66), some (zi i)]) (by decide) rfl (Nat.le_of_ble_eq_true rfl) rfl (fun κ C => ?_)
  refine s_aload_n C dX11_finding_0 rfl ?_
  refine s_iload_n C dX11_finding_1 rfl ?_
  refine s_callV1 C dX11_finding_2 cy_X11_isHere cv_X11_isHere lk_X11_250 (ct_X11_isHere E M i hi hI.n) (by decide) (by decide) (by first | decide | (decide)) rfl (Nat.le_of_ble_eq_true rfl) (k_P (fun z2 q2 => ?_))
  have k2 : (z2 = 1 ∧ (0 ≤ i ∧ i ≤ M 66 24 - 1)) ∨ (z2 = 0 ∧ ¬ (0 ≤ i ∧ i ≤ M 66 24 - 1)) := q2
  clear q2
  refine s_if_ne (tgt := 11) C dX11_finding_5 (by decide) (by omega) (fun c5 => ?_) (fun c5 => ?_)
  · skip
    refine s_aload_n C dX11_finding_11 rfl ?_
    refine s_callV0 C dX11_finding_12 cy_X11_makeTree cv_X11_makeTree lk_X11_253 (ct_mk E M hI (by omega)) (by decide) (by decide) (by first | decide | (decide)) rfl (Nat.le_of_ble_eq_true rfl) (k_V (fun M12 q12 => ?_))
    have hI2 := hI.tfs q12
    have n2 : M12 66 24 = M 66 24 := q12.2.1 24 (by decide) (by decide) (by decide)
    have hn := hI.n
    have hn2 : 1 ≤ M12 66 24 ∧ M12 66 24 ≤ 24 := by omega
    have hTF := q12.2.2.2
    refine s_aload_n C dX11_finding_15 rfl ?_
    refine s_iload_n C dX11_finding_16 rfl ?_
    refine s_callV1 C dX11_finding_17 cy_X11_findingOf cv_X11_findingOf lk_X11_262 (ct_X11_findingOf E M12 hn2 (fun j j0 j1 => hTF.B hI2.2.2.2.2.1 hn2.1 ⟨j0, j1⟩) i (by omega)) (by decide) (by decide) (by first | decide | (decide)) rfl (Nat.le_of_ble_eq_true rfl) (k_P (fun z17 q17 => ?_))
    exact s_ireturn C dX11_finding_20 (⟨_, rfl, Or.inr ⟨by omega, q12, q17⟩⟩)
  · skip
    refine s_bipush C dX11_finding_8 (by decide) ?_
    exact s_ireturn C dX11_finding_10 (⟨_, rfl, Or.inl ⟨fun h => by omega, rfl, rfl⟩⟩)

def MkV (M : Mm) (a b c d e i v : Int) : Prop := ∃ b1 b2 b3 b4 b5, FnR M i b1 b2 b3 b4 b5 ∧ v = b1 * a + b2 * b + b3 * c + b4 * d + b5 * e
abbrev okP (a : Int) : Prop := -100 ≤ a ∧ a ≤ 100
theorem mkv_of {M : Mm} {a b c d e i z : Int} (h : FndR M i z) : MkV M a b c d e i (zand z 1 * a + zand (zshr z 1) 1 * b + zand (zshr z 2) 1 * c + zand (zshr z 3) 1 * d + zand (zshr z 4) 1 * e) := by
  obtain ⟨b1, b2, b3, b4, b5, h1, h2⟩ := h
  obtain ⟨q1, q2, q3, q4, q5⟩ := bits_of h1.1.b h1.2.1.b h1.2.2.1.b h1.2.2.2.1.b h1.2.2.2.2.b h2
  refine ⟨b1, b2, b3, b4, b5, h1, ?_⟩
  rw [q1, q2, q3, q4, q5]

set_option maxRecDepth 20000 in
set_option maxHeartbeats 4000000 in
theorem ct_X11_marks (E : Ev) (M : Mm) (hI : RI M) (a b c d e : Int) (ha : rg a) (hb : rg b) (hc : rg c) (hd : rg d) (he : rg e) : Ct E yX11_marks cX11_marks 9 (some .int) 6 [zr E 66, zi a, zi b, zi c, zi d, zi e] M (pI (fun z M' => (¬ (okP a ∧ okP b ∧ okP c ∧ okP d ∧ okP e) ∧ z = -2 ∧ M' = M) ∨ ((okP a ∧ okP b ∧ okP c ∧ okP d ∧ okP e) ∧ M 66 24 = 0 ∧ z = 0 ∧ M' = M) ∨ ((okP a ∧ okP b ∧ okP c ∧ okP d ∧ okP e) ∧ M 66 24 ≠ 0 ∧ Tfs M M' ∧ ∃ g : Int → Int, (∀ i, 0 ≤ i → i < M 66 24 → MkV M' a b c d e i (g i)) ∧ z = sumI g (M 66 24).toNat))) := by
  refine Ct.of (own := RX11) (lv0 := [some (zr E 66), some (zi a), some (zi b), some (zi c), some (zi d), some (zi e), none, none, none]) (by decide) rfl (Nat.le_of_ble_eq_true rfl) rfl (fun κ C => ?_)
  have hn0 := hI.n
  have L59 : ∀ (n9 : Nat) (i : Nat) (g : Int → Int) (A : Mm) (u8 : Option Value) (hP : okP a ∧ okP b ∧ okP c ∧ okP d ∧ okP e) (hnz : M 66 24 ≠ 0) (hT : Tfs M A) (hi : (i : Int) ≤ M 66 24) (hg : ∀ j, 0 ≤ j → j < (i : Int) → MkV A a b c d e j (g j)) (hm : (M 66 24 - (i : Int)).toNat < n9), Gm E κ (pI (fun z M' => (¬ (okP a ∧ okP b ∧ okP c ∧ okP d ∧ okP e) ∧ z = -2 ∧ M' = M) ∨ ((okP a ∧ okP b ∧ okP c ∧ okP d ∧ okP e) ∧ M 66 24 = 0 ∧ z = 0 ∧ M' = M) ∨ ((okP a ∧ okP b ∧ okP c ∧ okP d ∧ okP e) ∧ M 66 24 ≠ 0 ∧ Tfs M M' ∧ ∃ g : Int → Int, (∀ i, 0 ≤ i → i < M 66 24 → MkV M' a b c d e i (g i)) ∧ z = sumI g (M 66 24).toNat))) 9 59 [some (zr E 66), some (zi a), some (zi b), some (zi c), some (zi d), some (zi e), some (zi (sumI g i)), some (zi (i : Int)), u8] [] A := by
    intro n9
    induction n9 with
    | zero => intro i g A u8 hP hnz hT hi hg hm; exact absurd hm (Nat.not_lt_zero _)
    | succ n9 ih59 =>
      intro i g A u8 hP hnz hT hi hg hm
      have hI2 := hI.tfs hT
      have n2 : A 66 24 = M 66 24 := hT.2.1 24 (by decide) (by decide) (by decide)
      have hn2 : 1 ≤ A 66 24 ∧ A 66 24 ≤ 24 := by omega
      have hTF := hT.2.2.2
      refine s_iload C dX11_marks_59 rfl ?_
      refine s_aload_n C dX11_marks_61 rfl ?_
      refine s_geti (k := 24) (j := 24) (z := M 66 24) C dX11_marks_62 fl_X11_196 (by decide) rfl (by decide) rfl (n2) (fun r62 => ?_)
      refine s_icmp_ge (tgt := 131) C dX11_marks_65 (by decide) (by omega) (by omega) (fun c65 => ?_) (fun c65 => ?_)
      · skip
        refine s_iload C dX11_marks_131 rfl ?_
        exact s_ireturn C dX11_marks_133 (⟨_, rfl, Or.inr (Or.inr ⟨hP, hnz, hT, g, fun j j0 j1 => hg j j0 (by omega), by rw [show (M 66 24).toNat = i by omega]⟩)⟩)
      · skip
        refine s_aload_n C dX11_marks_68 rfl ?_
        refine s_iload C dX11_marks_69 rfl ?_
        refine s_callV1 C dX11_marks_71 cy_X11_findingOf cv_X11_findingOf lk_X11_262 (ct_X11_findingOf E A hn2 (fun j j0 j1 => hTF.B hI2.2.2.2.2.1 hn2.1 ⟨j0, j1⟩) (i : Int) (by omega)) (by decide) (by decide) (by first | decide | (decide)) rfl (Nat.le_of_ble_eq_true rfl) (k_P (fun z71 q71 => ?_))
        have hv := mkv_of (a := a) (b := b) (c := c) (d := d) (e := e) q71
        refine s_istore (lv' := [_, _, _, _, _, _, _, _, _]) C dX11_marks_74 (by decide) rfl rfl ?_
        refine s_iload C dX11_marks_76 rfl ?_
        refine s_iload C dX11_marks_78 rfl ?_
        refine s_iconst C dX11_marks_80 ?_
        refine s_iand C dX11_marks_81 ?_
        refine s_iload_n C dX11_marks_82 rfl ?_
        refine s_imul C dX11_marks_83 ?_
        refine s_iload C dX11_marks_84 rfl ?_
        refine s_iconst C dX11_marks_86 ?_
        refine s_ishr C dX11_marks_87 ?_
        refine s_iconst C dX11_marks_88 ?_
        refine s_iand C dX11_marks_89 ?_
        refine s_iload_n C dX11_marks_90 rfl ?_
        refine s_imul C dX11_marks_91 ?_
        refine s_iadd C dX11_marks_92 ?_
        refine s_iload C dX11_marks_93 rfl ?_
        refine s_iconst C dX11_marks_95 ?_
        refine s_ishr C dX11_marks_96 ?_
        refine s_iconst C dX11_marks_97 ?_
        refine s_iand C dX11_marks_98 ?_
        refine s_iload_n C dX11_marks_99 rfl ?_
        refine s_imul C dX11_marks_100 ?_
        refine s_iadd C dX11_marks_101 ?_
        refine s_iload C dX11_marks_102 rfl ?_
        refine s_iconst C dX11_marks_104 ?_
        refine s_ishr C dX11_marks_105 ?_
        refine s_iconst C dX11_marks_106 ?_
        refine s_iand C dX11_marks_107 ?_
        refine s_iload C dX11_marks_108 rfl ?_
        refine s_imul C dX11_marks_110 ?_
        refine s_iadd C dX11_marks_111 ?_
        refine s_iload C dX11_marks_112 rfl ?_
        refine s_iconst C dX11_marks_114 ?_
        refine s_ishr C dX11_marks_115 ?_
        refine s_iconst C dX11_marks_116 ?_
        refine s_iand C dX11_marks_117 ?_
        refine s_iload C dX11_marks_118 rfl ?_
        refine s_imul C dX11_marks_120 ?_
        refine s_iadd C dX11_marks_121 ?_
        refine s_iadd C dX11_marks_122 ?_
        refine s_istore (lv' := [_, _, _, _, _, _, _, _, _]) C dX11_marks_123 (by decide) rfl rfl ?_
        refine s_iinc (lv' := [_, _, _, _, _, _, _, _, _]) C dX11_marks_125 rfl (by decide) rfl rfl rfl ?_
        refine s_goto (tgt := 59) C dX11_marks_128 (by decide) ?_
        generalize hw : zand z71 1 * a + zand (zshr z71 1) 1 * b + zand (zshr z71 2) 1 * c + zand (zshr z71 3) 1 * d + zand (zshr z71 4) 1 * e = v at hv ⊢
        have e9 : sumI g i + v = sumI (fun j => if j = (i : Int) then v else g j) (i + 1) := by
          rw [sumI, if_pos rfl, sumI_cg (f := fun j => if j = (i : Int) then v else g j) (g := g) i (fun j j0 j1 => by rw [if_neg (by omega)])]
        rw [e9]
        exact ih59 (i + 1) _ A _ hP hnz hT (by omega) (fun j j0 j1 => by
          by_cases cj : j = (i : Int)
          · rw [if_pos cj, cj]; exact hv
          · rw [if_neg cj]; exact hg j j0 (by omega)) (by omega)
  refine s_iload_n C dX11_marks_0 rfl ?_
  refine s_callS1 C dX11_marks_1 cy_X11_isPoint cs_X11_isPoint lk_X11_265 (ct_X11_isPoint E M a ha) (by decide) (Nat.le_of_ble_eq_true rfl) (k_P (fun z1 q1 => ?_))
  have k1 : (z1 = 1 ∧ (-100 ≤ a ∧ a ≤ 100)) ∨ (z1 = 0 ∧ ¬ (-100 ≤ a ∧ a ≤ 100)) := q1
  clear q1
  refine s_if_eq (tgt := 37) C dX11_marks_4 (by decide) (by omega) (fun c4 => ?_) (fun c4 => ?_)
  · skip
    refine s_bipush C dX11_marks_37 (by decide) ?_
    exact s_ireturn C dX11_marks_39 (⟨_, rfl, Or.inl ⟨fun h => by omega, rfl, rfl⟩⟩)
  · skip
    refine s_iload_n C dX11_marks_7 rfl ?_
    refine s_callS1 C dX11_marks_8 cy_X11_isPoint cs_X11_isPoint lk_X11_265 (ct_X11_isPoint E M b hb) (by decide) (Nat.le_of_ble_eq_true rfl) (k_P (fun z8 q8 => ?_))
    have k8 : (z8 = 1 ∧ (-100 ≤ b ∧ b ≤ 100)) ∨ (z8 = 0 ∧ ¬ (-100 ≤ b ∧ b ≤ 100)) := q8
    clear q8
    refine s_if_eq (tgt := 37) C dX11_marks_11 (by decide) (by omega) (fun c11 => ?_) (fun c11 => ?_)
    · skip
      refine s_bipush C dX11_marks_37 (by decide) ?_
      exact s_ireturn C dX11_marks_39 (⟨_, rfl, Or.inl ⟨fun h => by omega, rfl, rfl⟩⟩)
    · skip
      refine s_iload_n C dX11_marks_14 rfl ?_
      refine s_callS1 C dX11_marks_15 cy_X11_isPoint cs_X11_isPoint lk_X11_265 (ct_X11_isPoint E M c hc) (by decide) (Nat.le_of_ble_eq_true rfl) (k_P (fun z15 q15 => ?_))
      have k15 : (z15 = 1 ∧ (-100 ≤ c ∧ c ≤ 100)) ∨ (z15 = 0 ∧ ¬ (-100 ≤ c ∧ c ≤ 100)) := q15
      clear q15
      refine s_if_eq (tgt := 37) C dX11_marks_18 (by decide) (by omega) (fun c18 => ?_) (fun c18 => ?_)
      · skip
        refine s_bipush C dX11_marks_37 (by decide) ?_
        exact s_ireturn C dX11_marks_39 (⟨_, rfl, Or.inl ⟨fun h => by omega, rfl, rfl⟩⟩)
      · skip
        refine s_iload C dX11_marks_21 rfl ?_
        refine s_callS1 C dX11_marks_23 cy_X11_isPoint cs_X11_isPoint lk_X11_265 (ct_X11_isPoint E M d hd) (by decide) (Nat.le_of_ble_eq_true rfl) (k_P (fun z23 q23 => ?_))
        have k23 : (z23 = 1 ∧ (-100 ≤ d ∧ d ≤ 100)) ∨ (z23 = 0 ∧ ¬ (-100 ≤ d ∧ d ≤ 100)) := q23
        clear q23
        refine s_if_eq (tgt := 37) C dX11_marks_26 (by decide) (by omega) (fun c26 => ?_) (fun c26 => ?_)
        · skip
          refine s_bipush C dX11_marks_37 (by decide) ?_
          exact s_ireturn C dX11_marks_39 (⟨_, rfl, Or.inl ⟨fun h => by omega, rfl, rfl⟩⟩)
        · skip
          refine s_iload C dX11_marks_29 rfl ?_
          refine s_callS1 C dX11_marks_31 cy_X11_isPoint cs_X11_isPoint lk_X11_265 (ct_X11_isPoint E M e he) (by decide) (Nat.le_of_ble_eq_true rfl) (k_P (fun z31 q31 => ?_))
          have k31 : (z31 = 1 ∧ (-100 ≤ e ∧ e ≤ 100)) ∨ (z31 = 0 ∧ ¬ (-100 ≤ e ∧ e ≤ 100)) := q31
          clear q31
          refine s_if_ne (tgt := 40) C dX11_marks_34 (by decide) (by omega) (fun c34 => ?_) (fun c34 => ?_)
          · skip
            refine s_aload_n C dX11_marks_40 rfl ?_
            refine s_geti (k := 24) (j := 24) C dX11_marks_41 fl_X11_196 (by decide) rfl (by decide) rfl (rfl) (fun r41 => ?_)
            refine s_if_ne (tgt := 49) C dX11_marks_44 (by decide) (by omega) (fun c44 => ?_) (fun c44 => ?_)
            · skip
              refine s_aload_n C dX11_marks_49 rfl ?_
              refine s_callV0 C dX11_marks_50 cy_X11_makeTree cv_X11_makeTree lk_X11_253 (ct_mk E M hI (by omega)) (by decide) (by decide) (by first | decide | (decide)) rfl (Nat.le_of_ble_eq_true rfl) (k_V (fun M50 q50 => ?_))
              have hI2 := hI.tfs q50
              have n2 : M50 66 24 = M 66 24 := q50.2.1 24 (by decide) (by decide) (by decide)
              have hn := hI.n
              have hn2 : 1 ≤ M50 66 24 ∧ M50 66 24 ≤ 24 := by omega
              have hTF := q50.2.2.2
              refine s_iconst C dX11_marks_53 ?_
              refine s_istore (lv' := [_, _, _, _, _, _, _, _, _]) C dX11_marks_54 (by decide) rfl rfl ?_
              refine s_iconst C dX11_marks_56 ?_
              refine s_istore (lv' := [_, _, _, _, _, _, _, _, _]) C dX11_marks_57 (by decide) rfl rfl ?_
              exact L59 _ 0 (fun _ => 0) M50 _ (by omega) c44 q50 (by omega) (fun j j0 j1 => by omega) (Nat.lt_succ_self _)
            · skip
              refine s_iconst C dX11_marks_47 ?_
              exact s_ireturn C dX11_marks_48 (⟨_, rfl, Or.inr (Or.inl ⟨by omega, c44, rfl, rfl⟩)⟩)
          · skip
            refine s_bipush C dX11_marks_37 (by decide) ?_
            exact s_ireturn C dX11_marks_39 (⟨_, rfl, Or.inl ⟨fun h => by omega, rfl, rfl⟩⟩)
