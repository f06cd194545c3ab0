theorem XI.hn {M : Mm} {e d : Nat} (h : XI M e d) : 0 ≤ M e 7 ∧ M e 7 ≤ 24 := h.n
theorem XI.pl {M : Mm} {e d : Nat} (h : XI M e d) : plOk M (M e 7) := h.2.2.2.2.2.2.1.2.1
theorem frs_e {M M' : Mm} {e d : Nat} (hX : XI M e d) (q : Frs M M' e) : M' e = M e ∧ M' 41 = M 41 ∧ M' (e + 5) = M (e + 5) ∧ M' (e + 6) = M (e + 6) ∧ M' 15 = M 15 ∧ M' 0 6 = (e : Int) := by
  have he := hX.he
  refine ⟨q.1 e (by rcases he with rfl | rfl <;> decide), q.1 41 (by decide), q.1 (e + 5) (by rcases he with rfl | rfl <;> decide), q.1 (e + 6) (by rcases he with rfl | rfl <;> decide), q.1 15 (by decide), ?_⟩
  rw [q.2.1 6 (by decide) (by decide)]; exact hX.2.1.1
theorem frk_e {M M' : Mm} {e d : Nat} (hX : XI M e d) (q : FrK M M' e) : M' e = M e ∧ M' 41 = M 41 ∧ M' (e + 5) = M (e + 5) ∧ M' (e + 6) = M (e + 6) ∧ M' 15 = M 15 ∧ M' 0 6 = (e : Int) := by
  have he := hX.he
  refine ⟨q.1 e (by rcases he with rfl | rfl <;> decide), q.1 41 (by decide), q.1 (e + 5) (by rcases he with rfl | rfl <;> decide), q.1 (e + 6) (by rcases he with rfl | rfl <;> decide), q.1 15 (by decide), ?_⟩
  rw [q.2.1 6 (by decide) (by decide)]; exact hX.2.1.1
/-- of place i, by number -/
def senX (M : Mm) (e : Nat) (i w z : Int) : Prop := (w = 0 → z = M (e + 5) (M 41 i)) ∧ (w = 1 → z = M 33 (M 41 i)) ∧ (w = 2 → z = M 32 (M 41 i)) ∧ (w = 3 → z = M (e + 6) i) ∧ (w = 4 → z = M 51 i) ∧ (w = 5 → z = M 52 i) ∧ (w = 6 → z = M 54 i) ∧ (w = 7 → z = M 41 i) ∧ ((w < 0 ∨ 7 < w) → z = -2)
def cntX (M : Mm) (e : Nat) (w z : Int) : Prop := (w = 0 → z = M e 7) ∧ (w = 1 → z = if M e 7 = 0 then 0 else M (e + 6) (M e 7 - 1) + 1) ∧ (w = 2 → z = M 3 5) ∧ (w = 3 → z = M 7 5) ∧ (w = 4 → z = M 11 5) ∧ (w = 5 → z = M 55 2) ∧ (w = 6 → z = M 1 1) ∧ ((10 ≤ w ∧ w ≤ 13) → z = M 15 (w - 10)) ∧ ((w < 0 ∨ (7 < w ∧ w < 10) ∨ 13 < w) → z = -1)
def kX (M : Mm) (i : Int) : Int := M 32 (M 41 i)
def supX (M : Mm) (i d : Int) : Prop := ∃ q, 0 ≤ q ∧ q < d ∧ M 51 q = i ∧ (kX M q = 1 ∨ kX M q = 3)
def twX (M : Mm) (i d : Int) : Prop := ∃ q, 0 ≤ q ∧ q < d ∧ M 51 q = M 51 i ∧ M 33 (M 41 i) ≤ 2 * M 34 (M 41 q * 24 + M 41 i)
def stX (M : Mm) (i : Int) : Prop := 0 < M 33 (M 41 i) ∧ ∀ k, 0 ≤ k → k < ((M 31 8 + 63) / 64) → ∀ b, 0 ≤ b → b < 64 → tbl (M 35 (M 41 i * 15 + k)) b → ∃ e, 0 ≤ e ∧ e < i ∧ tbl (M 35 (M 41 e * 15 + k)) b
def FnX (M : Mm) (e : Nat) (i b1 b2 b3 b4 b5 : Int) : Prop := Bz b1 ((kX M i = 0 ∨ kX M i = 4) ∧ ¬ supX M i (M e 7)) ∧ Bz b2 (kX M i = 2 ∧ M 52 i = 0) ∧ Bz b3 (M 51 i ≠ -1 ∧ M 33 (M 41 i) ≠ 0 ∧ twX M i i) ∧ Bz b4 (stX M i) ∧ Bz b5 (i = 0 ∧ (kX M i = 1 ∨ kX M i = 2 ∨ kX M i = 3))
def FndX (M : Mm) (e : Nat) (i z : Int) : Prop := ∃ b1 b2 b3 b4 b5, FnX M e i b1 b2 b3 b4 b5 ∧ z = b1 + 2 * b2 + 4 * b3 + 8 * b4 + 16 * b5
def MkX (M : Mm) (e : Nat) (a b c d f i v : Int) : Prop := ∃ b1 b2 b3 b4 b5, FnX M e i b1 b2 b3 b4 b5 ∧ v = b1 * a + b2 * b + b3 * c + b4 * d + b5 * f
theorem supX_s {M : Mm} {i d : Int} : supX M i (d + 1) ↔ supX M i d ∨ (0 ≤ d ∧ M 51 d = i ∧ (kX M d = 1 ∨ kX M d = 3)) := by
  constructor
  · rintro ⟨q, a, b, c⟩
    by_cases e : q = d
    · subst e; exact Or.inr ⟨a, c⟩
    · exact Or.inl ⟨q, a, by omega, c⟩
  · rintro (⟨q, a, b, c⟩ | ⟨a, c⟩)
    · exact ⟨q, a, by omega, c⟩
    · exact ⟨d, a, by omega, c⟩
theorem twX_s {M : Mm} {i d : Int} : twX M i (d + 1) ↔ twX M i d ∨ (0 ≤ d ∧ M 51 d = M 51 i ∧ M 33 (M 41 i) ≤ 2 * M 34 (M 41 d * 24 + M 41 i)) := by
  constructor
  · rintro ⟨q, a, b, c⟩
    by_cases e : q = d
    · subst e; exact Or.inr ⟨a, c⟩
    · exact Or.inl ⟨q, a, by omega, c⟩
  · rintro (⟨q, a, b, c⟩ | ⟨a, c⟩)
    · exact ⟨q, a, by omega, c⟩
    · exact ⟨d, a, by omega, c⟩
theorem supX_0 (M : Mm) (i : Int) : ¬ supX M i 0 := fun ⟨q, a, b, _⟩ => by omega
theorem twX_0 (M : Mm) (i : Int) : ¬ twX M i 0 := fun ⟨q, a, b, _⟩ => by omega
theorem orN : (∀ x : Nat, x < 1 → zor (x : Int) 1 = (x : Int) + 1) ∧ (∀ x : Nat, x < 2 → zor (x : Int) 2 = (x : Int) + 2) ∧ (∀ x : Nat, x < 4 → zor (x : Int) 4 = (x : Int) + 4) ∧ (∀ x : Nat, x < 8 → zor (x : Int) 8 = (x : Int) + 8) ∧ (∀ x : Nat, x < 16 → zor (x : Int) 16 = (x : Int) + 16) := by decide +kernel
theorem or1 {x : Int} (h : x = 0) : zor x 1 = x + 1 := by have := orN.1 0 (by omega); rw [h]; exact this
theorem or2 {x : Int} (h : 0 ≤ x ∧ x < 2) : zor x 2 = x + 2 := by have := orN.2.1 x.toNat (by omega); rwa [Int.toNat_of_nonneg h.1] at this
theorem or4 {x : Int} (h : 0 ≤ x ∧ x < 4) : zor x 4 = x + 4 := by have := orN.2.2.1 x.toNat (by omega); rwa [Int.toNat_of_nonneg h.1] at this
theorem or8 {x : Int} (h : 0 ≤ x ∧ x < 8) : zor x 8 = x + 8 := by have := orN.2.2.2.1 x.toNat (by omega); rwa [Int.toNat_of_nonneg h.1] at this
theorem or16 {x : Int} (h : 0 ≤ x ∧ x < 16) : zor x 16 = x + 16 := by have := orN.2.2.2.2 x.toNat (by omega); rwa [Int.toNat_of_nonneg h.1] at this
theorem bits6 : ∀ a b c d e : Bool, (fun (v : Int) => (zand v 1 = if a then 1 else 0) ∧ (zand v 2 = if b then 2 else 0) ∧ (zand v 4 = if c then 4 else 0) ∧ (zand v 8 = if d then 8 else 0) ∧ (zand v 16 = if e then 16 else 0)) ((if a then 1 else 0) + 2 * (if b then 1 else 0) + 4 * (if c then 1 else 0) + 8 * (if d then 1 else 0) + 16 * (if e then 1 else 0)) := by decide +kernel
theorem bitsX {b1 b2 b3 b4 b5 v : Int} (h1 : b1 = 0 ∨ b1 = 1) (h2 : b2 = 0 ∨ b2 = 1) (h3 : b3 = 0 ∨ b3 = 1) (h4 : b4 = 0 ∨ b4 = 1) (h5 : b5 = 0 ∨ b5 = 1) (hv : v = b1 + 2 * b2 + 4 * b3 + 8 * b4 + 16 * b5) : zand v 1 = b1 ∧ zand v 2 = 2 * b2 ∧ zand v 4 = 4 * b3 ∧ zand v 8 = 8 * b4 ∧ zand v 16 = 16 * b5 := by
  obtain ⟨a, rfl⟩ := b01 h1
  obtain ⟨b, rfl⟩ := b01 h2
  obtain ⟨c, rfl⟩ := b01 h3
  obtain ⟨d, rfl⟩ := b01 h4
  obtain ⟨e, rfl⟩ := b01 h5
  rw [hv]
  obtain ⟨q1, q2, q3, q4, q5⟩ := bits6 a b c d e
  refine ⟨q1, q2.trans ?_, q3.trans ?_, q4.trans ?_, q5.trans ?_⟩ <;> split <;> rfl
/-- what the class's rows are fit for, once fresh -/
def Fit (M : Mm) (e : Nat) : Prop := (0 ≤ M e 7 ∧ M e 7 ≤ 24) ∧ M 0 6 = (e : Int) ∧ (∀ i, 0 ≤ i → i < M e 7 → 0 ≤ M 41 i ∧ M 41 i < M e 7) ∧ (∀ s, 0 ≤ s → s < M e 7 → 0 ≤ M 32 s ∧ M 32 s ≤ 4) ∧ (∀ a b, 0 ≤ a → a < M e 7 → 0 ≤ b → b < M e 7 → 0 ≤ M 34 (a * 24 + b) ∧ M 34 (a * 24 + b) ≤ 960) ∧ (∀ a, 0 ≤ a → a < M e 7 → 0 ≤ M 33 a ∧ M 33 a ≤ 960) ∧ (1 ≤ M e 7 → 0 ≤ M 31 8 ∧ M 31 8 ≤ 960)
theorem Frs.fit {M M' : Mm} {e d : Nat} (hX : XI M e d) (q : Frs M M' e) : Fit M' e := by
  have h2 := hX.frs q
  obtain ⟨k1, k2, k3, k4⟩ := q.2.2.2.2.1.rgs h2.n.2
  exact ⟨h2.n, (frs_e hX q).2.2.2.2.2, h2.pl.2.1, k1, k2, k3, k4⟩
theorem FrK.fit {M M' : Mm} {e d : Nat} (hX : XI M e d) (q : FrK M M' e) : Fit M' e := by
  have h2 := hX.frK q
  obtain ⟨k1, k2, k3, k4⟩ := q.2.2.2.1.rgs h2.n.2
  exact ⟨h2.n, (frk_e hX q).2.2.2.2.2, h2.pl.2.1, k1, k2, k3, k4⟩

set_option maxRecDepth 20000 in
set_option maxHeartbeats 4000000 in
theorem ct_X10_shared (E : Ev) (e d : Nat) (M : Mm) (hX : XI M e d) (i j : Int) (hi : rg i) (hj : rg j) : Ct E yX10_shared cX10_shared 3 (some .int) 5 [zr E 0, zi i, zi j] M (pI (fun z M' => (¬ ((0 ≤ i ∧ i < M e 7) ∧ 0 ≤ j ∧ j < M e 7) ∧ z = -2 ∧ M' = M) ∨ (((0 ≤ i ∧ i < M e 7) ∧ 0 ≤ j ∧ j < M e 7) ∧ FrK M M' e ∧ z = M' 34 (M' 41 i * 24 + M' 41 j)))) := by
  refine Ct.of (own := RX10) (lv0 := [some (zr E 0), some (zi i), some (zi j)]) (by decide) rfl (Nat.le_of_ble_eq_true rfl) rfl (fun κ C => ?_)
  have hn := hX.hn
  have he := hX.he
  obtain ⟨l1, l2, l3, l4, l5, l6⟩ := lnT he
  refine s_aload_n C dX10_shared_0 rfl ?_
  refine s_iload_n C dX10_shared_1 rfl ?_
  refine s_callV1 C dX10_shared_2 cy_X10_isNoSentence cv_X10_isNoSentence lk_X10_159 (ct_X10_isNoSentence E e hX.he M hX.2.1.1 i hi) (by decide) (by decide) (by first | decide | (decide)) rfl (Nat.le_of_ble_eq_true rfl) (k_P (fun z2 q2 => ?_))
  have k2 : (z2 = 1 ∧ ¬ (0 ≤ i ∧ i < M e 7)) ∨ (z2 = 0 ∧ 0 ≤ i ∧ i < M e 7) := by rcases q2 with ⟨g, g2⟩ | ⟨g, g2⟩ <;> omega
  clear q2
  refine s_if_ne (tgt := 16) C dX10_shared_5 (by decide) (by omega) (fun c5 => ?_) (fun c5 => ?_)
  · skip
    refine s_bipush C dX10_shared_16 (by decide) ?_
    exact s_ireturn C dX10_shared_18 (⟨_, rfl, Or.inl ⟨fun h => by omega, rfl, rfl⟩⟩)
  · skip
    refine s_aload_n C dX10_shared_8 rfl ?_
    refine s_iload_n C dX10_shared_9 rfl ?_
    refine s_callV1 C dX10_shared_10 cy_X10_isNoSentence cv_X10_isNoSentence lk_X10_159 (ct_X10_isNoSentence E e hX.he M hX.2.1.1 j hj) (by decide) (by decide) (by first | decide | (decide)) rfl (Nat.le_of_ble_eq_true rfl) (k_P (fun z10 q10 => ?_))
    have k10 : (z10 = 1 ∧ ¬ (0 ≤ j ∧ j < M e 7)) ∨ (z10 = 0 ∧ 0 ≤ j ∧ j < M e 7) := by rcases q10 with ⟨g, g2⟩ | ⟨g, g2⟩ <;> omega
    clear q10
    refine s_if_eq (tgt := 19) C dX10_shared_13 (by decide) (by omega) (fun c13 => ?_) (fun c13 => ?_)
    · skip
      refine s_aload_n C dX10_shared_19 rfl ?_
      refine s_callV0 C dX10_shared_20 cy_X10_refreshKeys cv_X10_refreshKeys lk_X10_202 (ct_X10_refreshKeys E e d M hX) (by decide) (by decide) (by first | decide | (decide)) rfl (Nat.le_of_ble_eq_true rfl) (k_V (fun M20 q20 => ?_))
      obtain ⟨r1, r41, r5, r6, r15, r06⟩ := frk_e hX q20
      have hF := q20.fit hX
      have r7 : M20 e 7 = M e 7 := by rw [r1]
      refine s_aload_n C dX10_shared_23 rfl ?_
      refine s_iload_n C dX10_shared_24 rfl ?_
      refine s_iload_n C dX10_shared_25 rfl ?_
      have p1 := hF.2.2.1 i (by omega) (by omega)
      have p2 := hF.2.2.1 j (by omega) (by omega)
      refine s_callV2 C dX10_shared_26 cy_X10_sharedKeys cv_X10_sharedKeys lk_X10_205 (ct_X10_sharedKeys E M20 i j (by omega) (by omega) (by omega) (by omega)) (by decide) (by decide) (by first | decide | (decide)) rfl (Nat.le_of_ble_eq_true rfl) (k_P (fun z26 q26 => ?_))
      exact s_ireturn C dX10_shared_29 (⟨_, rfl, Or.inr ⟨by omega, q20, q26⟩⟩)
    · skip
      refine s_bipush C dX10_shared_16 (by decide) ?_
      exact s_ireturn C dX10_shared_18 (⟨_, rfl, Or.inl ⟨fun h => by omega, rfl, rfl⟩⟩)

set_option maxRecDepth 20000 in
set_option maxHeartbeats 4000000 in
theorem ct_X10_cost (E : Ev) (e d : Nat) (M : Mm) (hX : XI M e d) (h f : Int) (hh : rg h) (hf : rg f) : Ct E yX10_cost cX10_cost 3 (some .int) 5 [zr E 0, zi h, zi f] M (pI (fun z M' => (¬ ((0 ≤ h ∧ h < M e 7) ∧ (0 ≤ f ∧ f < M e 7) ∧ h ≠ f) ∧ z = -2 ∧ M' = M) ∨ (((0 ≤ h ∧ h < M e 7) ∧ (0 ≤ f ∧ f < M e 7) ∧ h ≠ f) ∧ FrK M M' e ∧ z = hC M' e h f))) := by
  refine Ct.of (own := RX10) (lv0 := [some (zr E 0), some (zi h), some (zi f)]) (by decide) rfl (Nat.le_of_ble_eq_true rfl) rfl (fun κ C => ?_)
  have hn := hX.hn
  have he := hX.he
  obtain ⟨l1, l2, l3, l4, l5, l6⟩ := lnT he
  refine s_aload_n C dX10_cost_0 rfl ?_
  refine s_iload_n C dX10_cost_1 rfl ?_
  refine s_callV1 C dX10_cost_2 cy_X10_isNoSentence cv_X10_isNoSentence lk_X10_159 (ct_X10_isNoSentence E e hX.he M hX.2.1.1 h hh) (by decide) (by decide) (by first | decide | (decide)) rfl (Nat.le_of_ble_eq_true rfl) (k_P (fun z2 q2 => ?_))
  have k2 : (z2 = 1 ∧ ¬ (0 ≤ h ∧ h < M e 7)) ∨ (z2 = 0 ∧ 0 ≤ h ∧ h < M e 7) := by rcases q2 with ⟨g, g2⟩ | ⟨g, g2⟩ <;> omega
  clear q2
  refine s_if_ne (tgt := 21) C dX10_cost_5 (by decide) (by omega) (fun c5 => ?_) (fun c5 => ?_)
  · skip
    refine s_bipush C dX10_cost_21 (by decide) ?_
    exact s_ireturn C dX10_cost_23 (⟨_, rfl, Or.inl ⟨fun h => by omega, rfl, rfl⟩⟩)
  · skip
    refine s_aload_n C dX10_cost_8 rfl ?_
    refine s_iload_n C dX10_cost_9 rfl ?_
    refine s_callV1 C dX10_cost_10 cy_X10_isNoSentence cv_X10_isNoSentence lk_X10_159 (ct_X10_isNoSentence E e hX.he M hX.2.1.1 f hf) (by decide) (by decide) (by first | decide | (decide)) rfl (Nat.le_of_ble_eq_true rfl) (k_P (fun z10 q10 => ?_))
    have k10 : (z10 = 1 ∧ ¬ (0 ≤ f ∧ f < M e 7)) ∨ (z10 = 0 ∧ 0 ≤ f ∧ f < M e 7) := by rcases q10 with ⟨g, g2⟩ | ⟨g, g2⟩ <;> omega
    clear q10
    refine s_if_ne (tgt := 21) C dX10_cost_13 (by decide) (by omega) (fun c13 => ?_) (fun c13 => ?_)
    · skip
      refine s_bipush C dX10_cost_21 (by decide) ?_
      exact s_ireturn C dX10_cost_23 (⟨_, rfl, Or.inl ⟨fun h => by omega, rfl, rfl⟩⟩)
    · skip
      refine s_iload_n C dX10_cost_16 rfl ?_
      refine s_iload_n C dX10_cost_17 rfl ?_
      refine s_icmp_ne (tgt := 24) C dX10_cost_18 (by decide) (by omega) (by omega) (fun c18 => ?_) (fun c18 => ?_)
      · skip
        refine s_aload_n C dX10_cost_24 rfl ?_
        refine s_callV0 C dX10_cost_25 cy_X10_refreshKeys cv_X10_refreshKeys lk_X10_202 (ct_X10_refreshKeys E e d M hX) (by decide) (by decide) (by first | decide | (decide)) rfl (Nat.le_of_ble_eq_true rfl) (k_V (fun M25 q25 => ?_))
        obtain ⟨r1, r41, r5, r6, r15, r06⟩ := frk_e hX q25
        have hF := q25.fit hX
        have r7 : M25 e 7 = M e 7 := by rw [r1]
        refine s_aload_n C dX10_cost_28 rfl ?_
        refine s_iload_n C dX10_cost_29 rfl ?_
        refine s_iload_n C dX10_cost_30 rfl ?_
        have p1 := hF.2.2.1 h (by omega) (by omega)
        have p2 := hF.2.2.1 f (by omega) (by omega)
        have p3 := hF.2.2.2.1 _ p2.1 p2.2
        have p4 := hF.2.2.2.2.1 _ _ p1.1 p1.2 p2.1 p2.2
        refine s_callV2 C dX10_cost_31 cy_X10_hangCost cv_X10_hangCost lk_X10_216 (ct_X10_hangCost E e he M25 r06 h f (by omega) (by omega) (by omega) (by omega) (by omega) (by omega)) (by decide) (by decide) (by first | decide | (decide)) rfl (Nat.le_of_ble_eq_true rfl) (k_P (fun z31 q31 => ?_))
        exact s_ireturn C dX10_cost_34 (⟨_, rfl, Or.inr ⟨by omega, q25, q31⟩⟩)
      · skip
        refine s_bipush C dX10_cost_21 (by decide) ?_
        exact s_ireturn C dX10_cost_23 (⟨_, rfl, Or.inl ⟨fun h => by omega, rfl, rfl⟩⟩)

set_option maxRecDepth 20000 in
set_option maxHeartbeats 4000000 in
theorem ct_X10_tree (E : Ev) (e d : Nat) (M : Mm) (hX : XI M e d)  : Ct E yX10_tree cX10_tree 1 (some .int) 6 [zr E 0] M (pI (fun z M' => (M e 7 = 0 ∧ z = -1 ∧ M' = M) ∨ (M e 7 ≠ 0 ∧ Frs M M' e ∧ z = M' 46 1152))) := by
  refine Ct.of (own := RX10) (lv0 := [some (zr E 0)]) (by decide) rfl (Nat.le_of_ble_eq_true rfl) rfl (fun κ C => ?_)
  have hn := hX.hn
  have he := hX.he
  obtain ⟨l1, l2, l3, l4, l5, l6⟩ := lnT he
  refine s_aload_n C dX10_tree_0 rfl ?_
  refine s_getd (k := 6) (j := 6) (b := e) C dX10_tree_1 fl_X10_45 (by decide) rfl (by decide) rfl (hX.2.1.1) ?_
  refine s_geti (k := 7) (j := 7) C dX10_tree_4 fl_X10_149 (by first | (rcases hX.he with rfl | rfl <;> decide) | (rcases he with rfl | rfl <;> decide)) (by first | (rcases hX.he with rfl | rfl <;> decide) | (rcases he with rfl | rfl <;> decide)) (by decide) rfl (rfl) (fun r4 => ?_)
  refine s_if_ne (tgt := 12) C dX10_tree_7 (by decide) (by omega) (fun c7 => ?_) (fun c7 => ?_)
  · skip
    refine s_aload_n C dX10_tree_12 rfl ?_
    refine s_callV0 C dX10_tree_13 cy_X10_refresh cv_X10_refresh lk_X10_163 (ct_X10_refresh E e d M hX) (by decide) (by decide) (by first | decide | (decide)) rfl (Nat.le_of_ble_eq_true rfl) (k_V (fun M13 q13 => ?_))
    obtain ⟨r1, r41, r5, r6, r15, r06⟩ := frs_e hX q13
    have hF := q13.fit hX
    have r7 : M13 e 7 = M e 7 := by rw [r1]
    refine s_aload_n C dX10_tree_16 rfl ?_
    refine s_getr (k := 10) (b := 43) C dX10_tree_17 fl_X10_69 (by decide) rfl (by decide) rfl ?_
    refine s_callV0 C dX10_tree_20 cy_X1_leastCost cv_X1_leastCost lk_X10_219 (ct_X1_leastCost E M13) (by decide) (by decide) (by first | decide | (decide)) rfl (Nat.le_of_ble_eq_true rfl) (k_P (fun z20 q20 => ?_))
    exact s_ireturn C dX10_tree_23 (⟨_, rfl, Or.inr ⟨c7, q13, q20⟩⟩)
  · skip
    refine s_iconst C dX10_tree_10 ?_
    exact s_ireturn C dX10_tree_11 (⟨_, rfl, Or.inl ⟨c7, rfl, rfl⟩⟩)

set_option maxRecDepth 20000 in
set_option maxHeartbeats 4000000 in
theorem ct_X10_next (E : Ev) (e d : Nat) (M : Mm) (hX : XI M e d)  : Ct E yX10_next cX10_next 2 (some .int) 6 [zr E 0] M (pI (fun z M' => (M e 7 = 0 ∧ z = -1 ∧ M' = M) ∨ (M e 7 ≠ 0 ∧ Frs M M' e ∧ z = if M' 47 1152 < 268435456 then M' 47 1152 else -1))) := by
  refine Ct.of (own := RX10) (lv0 := [some (zr E 0), none]) (by decide) rfl (Nat.le_of_ble_eq_true rfl) rfl (fun κ C => ?_)
  have hn := hX.hn
  have he := hX.he
  obtain ⟨l1, l2, l3, l4, l5, l6⟩ := lnT he
  refine s_aload_n C dX10_next_0 rfl ?_
  refine s_getd (k := 6) (j := 6) (b := e) C dX10_next_1 fl_X10_45 (by decide) rfl (by decide) rfl (hX.2.1.1) ?_
  refine s_geti (k := 7) (j := 7) C dX10_next_4 fl_X10_149 (by first | (rcases hX.he with rfl | rfl <;> decide) | (rcases he with rfl | rfl <;> decide)) (by first | (rcases hX.he with rfl | rfl <;> decide) | (rcases he with rfl | rfl <;> decide)) (by decide) rfl (rfl) (fun r4 => ?_)
  refine s_if_ne (tgt := 12) C dX10_next_7 (by decide) (by omega) (fun c7 => ?_) (fun c7 => ?_)
  · skip
    refine s_aload_n C dX10_next_12 rfl ?_
    refine s_callV0 C dX10_next_13 cy_X10_refresh cv_X10_refresh lk_X10_163 (ct_X10_refresh E e d M hX) (by decide) (by decide) (by first | decide | (decide)) rfl (Nat.le_of_ble_eq_true rfl) (k_V (fun M13 q13 => ?_))
    obtain ⟨r1, r41, r5, r6, r15, r06⟩ := frs_e hX q13
    have hF := q13.fit hX
    have r7 : M13 e 7 = M e 7 := by rw [r1]
    refine s_aload_n C dX10_next_16 rfl ?_
    refine s_getr (k := 10) (b := 43) C dX10_next_17 fl_X10_69 (by decide) rfl (by decide) rfl ?_
    refine s_callV0 C dX10_next_20 cy_X1_secondCost cv_X1_secondCost lk_X10_223 (ct_X1_secondCost E M13) (by decide) (by decide) (by first | decide | (decide)) rfl (Nat.le_of_ble_eq_true rfl) (k_P (fun z20 q20 => ?_))
    subst q20
    have hb := (q13.2.2.2.2.2 (by rw [r7]; omega))
    have hb2 : 0 ≤ M13 47 1152 ∧ M13 47 1152 ≤ 268435456 := by
      obtain ⟨N, n1, b1, b2, _⟩ := hb
      have e7 : N e 7 = M e 7 := by rw [n1 e (by simp), r1]
      have := (b2.num (wD_Pw b1 (by omega))).2.1
      rw [n1 47 (by simp)] at this
      exact this
    refine s_istore_n (lv' := [_, _]) C dX10_next_23 (by decide) rfl rfl ?_
    refine s_iload_n C dX10_next_24 rfl ?_
    refine s_ldc C dX10_next_25 kc_X10_226 ?_
    refine s_icmp_ge (tgt := 34) C dX10_next_27 (by decide) (by omega) (by omega) (fun c27 => ?_) (fun c27 => ?_)
    · skip
      refine s_iconst C dX10_next_34 ?_
      exact s_ireturn C dX10_next_35 (⟨_, rfl, Or.inr ⟨c7, q13, by first | (rw [if_pos c27]; done) | (rw [if_neg (by omega)]; done)⟩⟩)
    · skip
      refine s_iload_n C dX10_next_30 rfl ?_
      refine s_goto (tgt := 35) C dX10_next_31 (by decide) ?_
      exact s_ireturn C dX10_next_35 (⟨_, rfl, Or.inr ⟨c7, q13, by first | (rw [if_pos c27]; done) | (rw [if_neg (by omega)]; done)⟩⟩)
  · skip
    refine s_iconst C dX10_next_10 ?_
    exact s_ireturn C dX10_next_11 (⟨_, rfl, Or.inl ⟨c7, rfl, rfl⟩⟩)

set_option maxRecDepth 20000 in
set_option maxHeartbeats 4000000 in
theorem ct_X10_rootPlace (E : Ev) (e d : Nat) (M : Mm) (hX : XI M e d)  : Ct E yX10_rootPlace cX10_rootPlace 1 (some .int) 6 [zr E 0] M (pI (fun z M' => (M e 7 = 0 ∧ z = -1 ∧ M' = M) ∨ (M e 7 ≠ 0 ∧ Frs M M' e ∧ z = M' 50 4))) := by
  refine Ct.of (own := RX10) (lv0 := [some (zr E 0)]) (by decide) rfl (Nat.le_of_ble_eq_true rfl) rfl (fun κ C => ?_)
  have hn := hX.hn
  have he := hX.he
  obtain ⟨l1, l2, l3, l4, l5, l6⟩ := lnT he
  refine s_aload_n C dX10_rootPlace_0 rfl ?_
  refine s_getd (k := 6) (j := 6) (b := e) C dX10_rootPlace_1 fl_X10_45 (by decide) rfl (by decide) rfl (hX.2.1.1) ?_
  refine s_geti (k := 7) (j := 7) C dX10_rootPlace_4 fl_X10_149 (by first | (rcases hX.he with rfl | rfl <;> decide) | (rcases he with rfl | rfl <;> decide)) (by first | (rcases hX.he with rfl | rfl <;> decide) | (rcases he with rfl | rfl <;> decide)) (by decide) rfl (rfl) (fun r4 => ?_)
  refine s_if_ne (tgt := 12) C dX10_rootPlace_7 (by decide) (by omega) (fun c7 => ?_) (fun c7 => ?_)
  · skip
    refine s_aload_n C dX10_rootPlace_12 rfl ?_
    refine s_callV0 C dX10_rootPlace_13 cy_X10_refresh cv_X10_refresh lk_X10_163 (ct_X10_refresh E e d M hX) (by decide) (by decide) (by first | decide | (decide)) rfl (Nat.le_of_ble_eq_true rfl) (k_V (fun M13 q13 => ?_))
    obtain ⟨r1, r41, r5, r6, r15, r06⟩ := frs_e hX q13
    have hF := q13.fit hX
    have r7 : M13 e 7 = M e 7 := by rw [r1]
    refine s_aload_n C dX10_rootPlace_16 rfl ?_
    refine s_getr (k := 11) (b := 50) C dX10_rootPlace_17 fl_X10_76 (by decide) rfl (by decide) rfl ?_
    refine s_geti (k := 4) (j := 4) C dX10_rootPlace_20 fl_X10_327 (by decide) rfl (by decide) rfl (rfl) (fun r20 => ?_)
    exact s_ireturn C dX10_rootPlace_23 (⟨_, rfl, Or.inr ⟨c7, q13, rfl⟩⟩)
  · skip
    refine s_iconst C dX10_rootPlace_10 ?_
    exact s_ireturn C dX10_rootPlace_11 (⟨_, rfl, Or.inl ⟨c7, rfl, rfl⟩⟩)

set_option maxRecDepth 20000 in
set_option maxHeartbeats 4000000 in
theorem ct_X10_sentence (E : Ev) (e d : Nat) (M : Mm) (hX : XI M e d) (i w : Int) (hi : rg i) (hw : rg w) : Ct E yX10_sentence cX10_sentence 4 (some .int) 6 [zr E 0, zi i, zi w] M (pI (fun z M' => (¬ (0 ≤ i ∧ i < M e 7) ∧ z = -2 ∧ M' = M) ∨ ((0 ≤ i ∧ i < M e 7) ∧ Frs M M' e ∧ senX M' e i w z))) := by
  refine Ct.of (own := RX10) (lv0 := [some (zr E 0), some (zi i), some (zi w), none]) (by decide) rfl (Nat.le_of_ble_eq_true rfl) rfl (fun κ C => ?_)
  have hn := hX.hn
  have he := hX.he
  obtain ⟨l1, l2, l3, l4, l5, l6⟩ := lnT he
  refine s_aload_n C dX10_sentence_0 rfl ?_
  refine s_iload_n C dX10_sentence_1 rfl ?_
  refine s_callV1 C dX10_sentence_2 cy_X10_isNoSentence cv_X10_isNoSentence lk_X10_159 (ct_X10_isNoSentence E e hX.he M hX.2.1.1 i hi) (by decide) (by decide) (by first | decide | (decide)) rfl (Nat.le_of_ble_eq_true rfl) (k_P (fun z2 q2 => ?_))
  have k2 : (z2 = 1 ∧ ¬ (0 ≤ i ∧ i < M e 7)) ∨ (z2 = 0 ∧ 0 ≤ i ∧ i < M e 7) := by rcases q2 with ⟨g, g2⟩ | ⟨g, g2⟩ <;> omega
  clear q2
  refine s_if_eq (tgt := 11) C dX10_sentence_5 (by decide) (by omega) (fun c5 => ?_) (fun c5 => ?_)
  · skip
    refine s_aload_n C dX10_sentence_11 rfl ?_
    refine s_callV0 C dX10_sentence_12 cy_X10_refresh cv_X10_refresh lk_X10_163 (ct_X10_refresh E e d M hX) (by decide) (by decide) (by first | decide | (decide)) rfl (Nat.le_of_ble_eq_true rfl) (k_V (fun M12 q12 => ?_))
    obtain ⟨r1, r41, r5, r6, r15, r06⟩ := frs_e hX q12
    have hF := q12.fit hX
    have r7 : M12 e 7 = M e 7 := by rw [r1]
    have p1 := hF.2.2.1 i (by omega) (by omega)
    refine s_aload_n C dX10_sentence_15 rfl ?_
    refine s_getr (k := 9) (b := 40) C dX10_sentence_16 fl_X10_62 (by decide) rfl (by decide) rfl ?_
    refine s_getr (k := 0) (b := 41) C dX10_sentence_19 fl_X10_166 (by decide) rfl (by decide) rfl ?_
    refine s_iload_n C dX10_sentence_22 rfl ?_
    refine s_iaload (n := 24) C dX10_sentence_23 (by decide) rfl rfl (by omega) (by omega) (by omega) (rfl) (fun r23 => ?_)
    refine s_istore_n (lv' := [_, _, _, _]) C dX10_sentence_24 (by decide) rfl rfl ?_
    refine s_iload_n C dX10_sentence_25 rfl ?_
    refine s_tabc (v := 0) (tgt := 72) C dX10_sentence_26 (by omega) (by decide) rfl (by decide) (fun c26 => ?_) (fun n26_0 => ?_)
    · skip
      refine s_aload_n C dX10_sentence_72 rfl ?_
      refine s_getd (k := 6) (j := 6) (b := e) C dX10_sentence_73 fl_X10_45 (by decide) rfl (by decide) rfl (r06) ?_
      refine s_getr (k := 4) (b := e + 5) C dX10_sentence_76 fl_X10_169 (by first | (rcases hX.he with rfl | rfl <;> decide) | (rcases he with rfl | rfl <;> decide)) (by first | (rcases hX.he with rfl | rfl <;> decide) | (rcases he with rfl | rfl <;> decide)) (by decide) (by first | (rcases hX.he with rfl | rfl <;> decide) | (rcases he with rfl | rfl <;> decide)) ?_
      refine s_iload_n C dX10_sentence_79 rfl ?_
      refine s_iaload C dX10_sentence_80 (by first | (rcases hX.he with rfl | rfl <;> decide) | (rcases he with rfl | rfl <;> decide)) (by first | (rcases hX.he with rfl | rfl <;> decide) | (rcases he with rfl | rfl <;> decide)) rfl (by omega) (by omega) (by omega) (rfl) (fun r80 => ?_)
      exact s_ireturn C dX10_sentence_81 (⟨_, rfl, by refine Or.inr ⟨by omega, q12, ?_⟩; unfold senX; refine ⟨fun h => ?_, fun h => ?_, fun h => ?_, fun h => ?_, fun h => ?_, fun h => ?_, fun h => ?_, fun h => ?_, fun h => ?_⟩ <;> first | (exfalso; omega) | rfl⟩)
    refine s_tabc (v := 1) (tgt := 82) C dX10_sentence_26 (by omega) (by decide) rfl (by decide) (fun c26 => ?_) (fun n26_1 => ?_)
    · skip
      refine s_aload_n C dX10_sentence_82 rfl ?_
      refine s_getr (k := 8) (b := 31) C dX10_sentence_83 fl_X10_55 (by decide) rfl (by decide) rfl ?_
      refine s_getr (k := 1) (b := 33) C dX10_sentence_86 fl_X10_172 (by decide) rfl (by decide) rfl ?_
      refine s_iload_n C dX10_sentence_89 rfl ?_
      refine s_iaload (n := 24) C dX10_sentence_90 (by decide) rfl rfl (by omega) (by omega) (by omega) (rfl) (fun r90 => ?_)
      exact s_ireturn C dX10_sentence_91 (⟨_, rfl, by refine Or.inr ⟨by omega, q12, ?_⟩; unfold senX; refine ⟨fun h => ?_, fun h => ?_, fun h => ?_, fun h => ?_, fun h => ?_, fun h => ?_, fun h => ?_, fun h => ?_, fun h => ?_⟩ <;> first | (exfalso; omega) | rfl⟩)
    refine s_tabc (v := 2) (tgt := 92) C dX10_sentence_26 (by omega) (by decide) rfl (by decide) (fun c26 => ?_) (fun n26_2 => ?_)
    · skip
      refine s_aload_n C dX10_sentence_92 rfl ?_
      refine s_getr (k := 8) (b := 31) C dX10_sentence_93 fl_X10_55 (by decide) rfl (by decide) rfl ?_
      refine s_getr (k := 0) (b := 32) C dX10_sentence_96 fl_X10_175 (by decide) rfl (by decide) rfl ?_
      refine s_iload_n C dX10_sentence_99 rfl ?_
      refine s_iaload (n := 24) C dX10_sentence_100 (by decide) rfl rfl (by omega) (by omega) (by omega) (rfl) (fun r100 => ?_)
      exact s_ireturn C dX10_sentence_101 (⟨_, rfl, by refine Or.inr ⟨by omega, q12, ?_⟩; unfold senX; refine ⟨fun h => ?_, fun h => ?_, fun h => ?_, fun h => ?_, fun h => ?_, fun h => ?_, fun h => ?_, fun h => ?_, fun h => ?_⟩ <;> first | (exfalso; omega) | rfl⟩)
    refine s_tabc (v := 3) (tgt := 102) C dX10_sentence_26 (by omega) (by decide) rfl (by decide) (fun c26 => ?_) (fun n26_3 => ?_)
    · skip
      refine s_aload_n C dX10_sentence_102 rfl ?_
      refine s_getd (k := 6) (j := 6) (b := e) C dX10_sentence_103 fl_X10_45 (by decide) rfl (by decide) rfl (r06) ?_
      refine s_getr (k := 5) (b := e + 6) C dX10_sentence_106 fl_X10_178 (by first | (rcases hX.he with rfl | rfl <;> decide) | (rcases he with rfl | rfl <;> decide)) (by first | (rcases hX.he with rfl | rfl <;> decide) | (rcases he with rfl | rfl <;> decide)) (by decide) (by first | (rcases hX.he with rfl | rfl <;> decide) | (rcases he with rfl | rfl <;> decide)) ?_
      refine s_iload_n C dX10_sentence_109 rfl ?_
      refine s_iaload C dX10_sentence_110 (by first | (rcases hX.he with rfl | rfl <;> decide) | (rcases he with rfl | rfl <;> decide)) (by first | (rcases hX.he with rfl | rfl <;> decide) | (rcases he with rfl | rfl <;> decide)) rfl (by omega) (by omega) (by omega) (rfl) (fun r110 => ?_)
      exact s_ireturn C dX10_sentence_111 (⟨_, rfl, by refine Or.inr ⟨by omega, q12, ?_⟩; unfold senX; refine ⟨fun h => ?_, fun h => ?_, fun h => ?_, fun h => ?_, fun h => ?_, fun h => ?_, fun h => ?_, fun h => ?_, fun h => ?_⟩ <;> first | (exfalso; omega) | rfl⟩)
    refine s_tabc (v := 4) (tgt := 112) C dX10_sentence_26 (by omega) (by decide) rfl (by decide) (fun c26 => ?_) (fun n26_4 => ?_)
    · skip
      refine s_aload_n C dX10_sentence_112 rfl ?_
      refine s_getr (k := 11) (b := 50) C dX10_sentence_113 fl_X10_76 (by decide) rfl (by decide) rfl ?_
      refine s_getr (k := 0) (b := 51) C dX10_sentence_116 fl_X10_181 (by decide) rfl (by decide) rfl ?_
      refine s_iload_n C dX10_sentence_119 rfl ?_
      refine s_iaload (n := 24) C dX10_sentence_120 (by decide) rfl rfl (by omega) (by omega) (by omega) (rfl) (fun r120 => ?_)
      exact s_ireturn C dX10_sentence_121 (⟨_, rfl, by refine Or.inr ⟨by omega, q12, ?_⟩; unfold senX; refine ⟨fun h => ?_, fun h => ?_, fun h => ?_, fun h => ?_, fun h => ?_, fun h => ?_, fun h => ?_, fun h => ?_, fun h => ?_⟩ <;> first | (exfalso; omega) | rfl⟩)
    refine s_tabc (v := 5) (tgt := 122) C dX10_sentence_26 (by omega) (by decide) rfl (by decide) (fun c26 => ?_) (fun n26_5 => ?_)
    · skip
      refine s_aload_n C dX10_sentence_122 rfl ?_
      refine s_getr (k := 11) (b := 50) C dX10_sentence_123 fl_X10_76 (by decide) rfl (by decide) rfl ?_
      refine s_getr (k := 1) (b := 52) C dX10_sentence_126 fl_X10_184 (by decide) rfl (by decide) rfl ?_
      refine s_iload_n C dX10_sentence_129 rfl ?_
      refine s_iaload (n := 24) C dX10_sentence_130 (by decide) rfl rfl (by omega) (by omega) (by omega) (rfl) (fun r130 => ?_)
      exact s_ireturn C dX10_sentence_131 (⟨_, rfl, by refine Or.inr ⟨by omega, q12, ?_⟩; unfold senX; refine ⟨fun h => ?_, fun h => ?_, fun h => ?_, fun h => ?_, fun h => ?_, fun h => ?_, fun h => ?_, fun h => ?_, fun h => ?_⟩ <;> first | (exfalso; omega) | rfl⟩)
    refine s_tabc (v := 6) (tgt := 132) C dX10_sentence_26 (by omega) (by decide) rfl (by decide) (fun c26 => ?_) (fun n26_6 => ?_)
    · skip
      refine s_aload_n C dX10_sentence_132 rfl ?_
      refine s_getr (k := 11) (b := 50) C dX10_sentence_133 fl_X10_76 (by decide) rfl (by decide) rfl ?_
      refine s_getr (k := 3) (b := 54) C dX10_sentence_136 fl_X10_187 (by decide) rfl (by decide) rfl ?_
      refine s_iload_n C dX10_sentence_139 rfl ?_
      refine s_iaload (n := 24) C dX10_sentence_140 (by decide) rfl rfl (by omega) (by omega) (by omega) (rfl) (fun r140 => ?_)
      exact s_ireturn C dX10_sentence_141 (⟨_, rfl, by refine Or.inr ⟨by omega, q12, ?_⟩; unfold senX; refine ⟨fun h => ?_, fun h => ?_, fun h => ?_, fun h => ?_, fun h => ?_, fun h => ?_, fun h => ?_, fun h => ?_, fun h => ?_⟩ <;> first | (exfalso; omega) | rfl⟩)
    refine s_tabc (v := 7) (tgt := 142) C dX10_sentence_26 (by omega) (by decide) rfl (by decide) (fun c26 => ?_) (fun n26_7 => ?_)
    · skip
      refine s_iload_n C dX10_sentence_142 rfl ?_
      exact s_ireturn C dX10_sentence_143 (⟨_, rfl, by refine Or.inr ⟨by omega, q12, ?_⟩; unfold senX; refine ⟨fun h => ?_, fun h => ?_, fun h => ?_, fun h => ?_, fun h => ?_, fun h => ?_, fun h => ?_, fun h => ?_, fun h => ?_⟩ <;> first | (exfalso; omega) | rfl⟩)
    refine s_tabd (tgt := 144) C dX10_sentence_26 (by omega) (by omega) (by decide) ?_
    refine s_bipush C dX10_sentence_144 (by decide) ?_
    exact s_ireturn C dX10_sentence_146 (⟨_, rfl, by refine Or.inr ⟨by omega, q12, ?_⟩; unfold senX; refine ⟨fun h => ?_, fun h => ?_, fun h => ?_, fun h => ?_, fun h => ?_, fun h => ?_, fun h => ?_, fun h => ?_, fun h => ?_⟩ <;> first | (exfalso; omega) | rfl⟩)
  · skip
    refine s_bipush C dX10_sentence_8 (by decide) ?_
    exact s_ireturn C dX10_sentence_10 (⟨_, rfl, Or.inl ⟨fun h => by omega, rfl, rfl⟩⟩)

set_option maxRecDepth 20000 in
set_option maxHeartbeats 4000000 in
theorem ct_X10_count (E : Ev) (e d : Nat) (M : Mm) (hX : XI M e d) (w : Int) (hw : rg w) : Ct E yX10_count cX10_count 2 (some .int) 7 [zr E 0, zi w] M (pI (fun z M' => (w ≠ 7 ∧ M' = M ∧ cntX M e w z) ∨ (w = 7 ∧ ((M e 7 = 0 ∧ z = -1 ∧ M' = M) ∨ (M e 7 ≠ 0 ∧ Frs M M' e ∧ z = M' 50 4))))) := by
  refine Ct.of (own := RX10) (lv0 := [some (zr E 0), some (zi w)]) (by decide) rfl (Nat.le_of_ble_eq_true rfl) rfl (fun κ C => ?_)
  have hn := hX.hn
  have he := hX.he
  obtain ⟨l1, l2, l3, l4, l5, l6⟩ := lnT he
  refine s_iload_n C dX10_count_0 rfl ?_
  refine s_tabc (v := 0) (tgt := 48) C dX10_count_1 (by omega) (by decide) rfl (by decide) (fun c1 => ?_) (fun n1_0 => ?_)
  · skip
    refine s_aload_n C dX10_count_48 rfl ?_
    refine s_getd (k := 6) (j := 6) (b := e) C dX10_count_49 fl_X10_45 (by decide) rfl (by decide) rfl (hX.2.1.1) ?_
    refine s_geti (k := 7) (j := 7) C dX10_count_52 fl_X10_149 (by first | (rcases hX.he with rfl | rfl <;> decide) | (rcases he with rfl | rfl <;> decide)) (by first | (rcases hX.he with rfl | rfl <;> decide) | (rcases he with rfl | rfl <;> decide)) (by decide) rfl (rfl) (fun r52 => ?_)
    exact s_ireturn C dX10_count_55 (⟨_, rfl, by refine Or.inl ⟨by omega, rfl, ?_⟩; unfold cntX; refine ⟨fun h => ?_, fun h => ?_, fun h => ?_, fun h => ?_, fun h => ?_, fun h => ?_, fun h => ?_, fun h => ?_, fun h => ?_⟩ <;> first | (exfalso; omega) | exact q60 | rfl⟩)
  refine s_tabc (v := 1) (tgt := 56) C dX10_count_1 (by omega) (by decide) rfl (by decide) (fun c1 => ?_) (fun n1_1 => ?_)
  · skip
    refine s_aload_n C dX10_count_56 rfl ?_
    refine s_getd (k := 6) (j := 6) (b := e) C dX10_count_57 fl_X10_45 (by decide) rfl (by decide) rfl (hX.2.1.1) ?_
    refine s_callV0 C dX10_count_60 cy_X8_paragraphs cv_X8_paragraphs lk_X10_321 (ct_X8_paragraphs E e he M hn) (by decide) (by first | (rcases hX.he with rfl | rfl <;> decide) | (rcases he with rfl | rfl <;> decide)) (by first | decide | exact (by first | (rcases hX.he with rfl | rfl <;> decide) | (rcases he with rfl | rfl <;> decide))) (by first | (rcases hX.he with rfl | rfl <;> decide) | (rcases he with rfl | rfl <;> decide)) (Nat.le_of_ble_eq_true rfl) (k_P (fun z60 q60 => ?_))
    exact s_ireturn C dX10_count_63 (⟨_, rfl, by refine Or.inl ⟨by omega, rfl, ?_⟩; unfold cntX; refine ⟨fun h => ?_, fun h => ?_, fun h => ?_, fun h => ?_, fun h => ?_, fun h => ?_, fun h => ?_, fun h => ?_, fun h => ?_⟩ <;> first | (exfalso; omega) | exact q60 | rfl⟩)
  refine s_tabc (v := 2) (tgt := 64) C dX10_count_1 (by omega) (by decide) rfl (by decide) (fun c1 => ?_) (fun n1_2 => ?_)
  · skip
    refine s_aload_n C dX10_count_64 rfl ?_
    refine s_getr (k := 1) (b := 3) C dX10_count_65 fl_X10_21 (by decide) rfl (by decide) rfl ?_
    refine s_geti (k := 5) (j := 5) C dX10_count_68 fl_X10_135 (by decide) rfl (by decide) rfl (rfl) (fun r68 => ?_)
    exact s_ireturn C dX10_count_71 (⟨_, rfl, by refine Or.inl ⟨by omega, rfl, ?_⟩; unfold cntX; refine ⟨fun h => ?_, fun h => ?_, fun h => ?_, fun h => ?_, fun h => ?_, fun h => ?_, fun h => ?_, fun h => ?_, fun h => ?_⟩ <;> first | (exfalso; omega) | exact q60 | rfl⟩)
  refine s_tabc (v := 3) (tgt := 72) C dX10_count_1 (by omega) (by decide) rfl (by decide) (fun c1 => ?_) (fun n1_3 => ?_)
  · skip
    refine s_aload_n C dX10_count_72 rfl ?_
    refine s_getr (k := 2) (b := 7) C dX10_count_73 fl_X10_25 (by decide) rfl (by decide) rfl ?_
    refine s_geti (k := 5) (j := 5) C dX10_count_76 fl_X10_135 (by decide) rfl (by decide) rfl (rfl) (fun r76 => ?_)
    exact s_ireturn C dX10_count_79 (⟨_, rfl, by refine Or.inl ⟨by omega, rfl, ?_⟩; unfold cntX; refine ⟨fun h => ?_, fun h => ?_, fun h => ?_, fun h => ?_, fun h => ?_, fun h => ?_, fun h => ?_, fun h => ?_, fun h => ?_⟩ <;> first | (exfalso; omega) | exact q60 | rfl⟩)
  refine s_tabc (v := 4) (tgt := 80) C dX10_count_1 (by omega) (by decide) rfl (by decide) (fun c1 => ?_) (fun n1_4 => ?_)
  · skip
    refine s_aload_n C dX10_count_80 rfl ?_
    refine s_getr (k := 3) (b := 11) C dX10_count_81 fl_X10_28 (by decide) rfl (by decide) rfl ?_
    refine s_geti (k := 5) (j := 5) C dX10_count_84 fl_X10_135 (by decide) rfl (by decide) rfl (rfl) (fun r84 => ?_)
    exact s_ireturn C dX10_count_87 (⟨_, rfl, by refine Or.inl ⟨by omega, rfl, ?_⟩; unfold cntX; refine ⟨fun h => ?_, fun h => ?_, fun h => ?_, fun h => ?_, fun h => ?_, fun h => ?_, fun h => ?_, fun h => ?_, fun h => ?_⟩ <;> first | (exfalso; omega) | exact q60 | rfl⟩)
  refine s_tabc (v := 5) (tgt := 88) C dX10_count_1 (by omega) (by decide) rfl (by decide) (fun c1 => ?_) (fun n1_5 => ?_)
  · skip
    refine s_aload_n C dX10_count_88 rfl ?_
    refine s_getr (k := 12) (b := 55) C dX10_count_89 fl_X10_83 (by decide) rfl (by decide) rfl ?_
    refine s_geti (k := 2) (j := 2) C dX10_count_92 fl_X10_155 (by decide) rfl (by decide) rfl (rfl) (fun r92 => ?_)
    exact s_ireturn C dX10_count_95 (⟨_, rfl, by refine Or.inl ⟨by omega, rfl, ?_⟩; unfold cntX; refine ⟨fun h => ?_, fun h => ?_, fun h => ?_, fun h => ?_, fun h => ?_, fun h => ?_, fun h => ?_, fun h => ?_, fun h => ?_⟩ <;> first | (exfalso; omega) | exact q60 | rfl⟩)
  refine s_tabc (v := 6) (tgt := 96) C dX10_count_1 (by omega) (by decide) rfl (by decide) (fun c1 => ?_) (fun n1_6 => ?_)
  · skip
    refine s_aload_n C dX10_count_96 rfl ?_
    refine s_getr (k := 0) (b := 1) C dX10_count_97 fl_X10_12 (by decide) rfl (by decide) rfl ?_
    refine s_geti (k := 1) (j := 1) C dX10_count_100 fl_X10_94 (by decide) rfl (by decide) rfl (rfl) (fun r100 => ?_)
    exact s_ireturn C dX10_count_103 (⟨_, rfl, by refine Or.inl ⟨by omega, rfl, ?_⟩; unfold cntX; refine ⟨fun h => ?_, fun h => ?_, fun h => ?_, fun h => ?_, fun h => ?_, fun h => ?_, fun h => ?_, fun h => ?_, fun h => ?_⟩ <;> first | (exfalso; omega) | exact q60 | rfl⟩)
  refine s_tabc (v := 7) (tgt := 104) C dX10_count_1 (by omega) (by decide) rfl (by decide) (fun c1 => ?_) (fun n1_7 => ?_)
  · skip
    refine s_aload_n C dX10_count_104 rfl ?_
    refine s_callV0 C dX10_count_105 cy_X10_rootPlace cv_X10_rootPlace lk_X10_324 (ct_X10_rootPlace E e d M hX) (by decide) (by decide) (by first | decide | (decide)) rfl (Nat.le_of_ble_eq_true rfl) (k_I (fun z105 M105 q105 => ?_))
    exact s_ireturn C dX10_count_108 (⟨_, rfl, Or.inr ⟨by omega, q105⟩⟩)
  refine s_tabd (tgt := 109) C dX10_count_1 (by omega) (by omega) (by decide) ?_
  refine s_iload_n C dX10_count_109 rfl ?_
  refine s_bipush C dX10_count_110 (by decide) ?_
  refine s_icmp_lt (tgt := 133) C dX10_count_112 (by decide) (by omega) (by omega) (fun c112 => ?_) (fun c112 => ?_)
  · skip
    refine s_iconst C dX10_count_133 ?_
    exact s_ireturn C dX10_count_134 (⟨_, rfl, by refine Or.inl ⟨by omega, rfl, ?_⟩; unfold cntX; refine ⟨fun h => ?_, fun h => ?_, fun h => ?_, fun h => ?_, fun h => ?_, fun h => ?_, fun h => ?_, fun h => ?_, fun h => ?_⟩ <;> first | (exfalso; omega) | exact q60 | rfl⟩)
  · skip
    refine s_iload_n C dX10_count_115 rfl ?_
    refine s_bipush C dX10_count_116 (by decide) ?_
    refine s_icmp_ge (tgt := 133) C dX10_count_118 (by decide) (by omega) (by omega) (fun c118 => ?_) (fun c118 => ?_)
    · skip
      refine s_iconst C dX10_count_133 ?_
      exact s_ireturn C dX10_count_134 (⟨_, rfl, by refine Or.inl ⟨by omega, rfl, ?_⟩; unfold cntX; refine ⟨fun h => ?_, fun h => ?_, fun h => ?_, fun h => ?_, fun h => ?_, fun h => ?_, fun h => ?_, fun h => ?_, fun h => ?_⟩ <;> first | (exfalso; omega) | exact q60 | rfl⟩)
    · skip
      refine s_aload_n C dX10_count_121 rfl ?_
      refine s_getr (k := 4) (b := 15) C dX10_count_122 fl_X10_31 (by decide) rfl (by decide) rfl ?_
      refine s_iload_n C dX10_count_125 rfl ?_
      refine s_bipush C dX10_count_126 (by decide) ?_
      refine s_isub C dX10_count_128 ?_
      refine s_iaload (n := 4) C dX10_count_129 (by decide) rfl rfl (by omega) (by omega) (by omega) (rfl) (fun r129 => ?_)
      refine s_goto (tgt := 134) C dX10_count_130 (by decide) ?_
      exact s_ireturn C dX10_count_134 (⟨_, rfl, by refine Or.inl ⟨by omega, rfl, ?_⟩; unfold cntX; refine ⟨fun h => ?_, fun h => ?_, fun h => ?_, fun h => ?_, fun h => ?_, fun h => ?_, fun h => ?_, fun h => ?_, fun h => ?_⟩ <;> first | (exfalso; omega) | exact q60 | rfl⟩)

set_option maxRecDepth 20000 in
set_option maxHeartbeats 4000000 in
theorem ct_X10_stands (E : Ev) (e d : Nat) (M : Mm) (hX : XI M e d) (h : Int) (hh : rg h) : Ct E yX10_stands cX10_stands 4 (some .int) 6 [zr E 0, zi h] M (pI (fun z M' => (¬ (0 ≤ h ∧ h < M e 7) ∧ z = -2 ∧ M' = M) ∨ ((0 ≤ h ∧ h < M e 7) ∧ Frs M M' e ∧ z = stF (M' 51) h (M' e 7).toNat))) := by
  refine Ct.of (own := RX10) (lv0 := [some (zr E 0), some (zi h), none, none]) (by decide) rfl (Nat.le_of_ble_eq_true rfl) rfl (fun κ C => ?_)
  have hn := hX.hn
  have he := hX.he
  obtain ⟨l1, l2, l3, l4, l5, l6⟩ := lnT he
  have L19 : ∀ (n9 : Nat) (k : Nat) (A : Mm) (hT : Frs M A e) (hh2 : 0 ≤ h ∧ h < M e 7) (hk : (k : Int) ≤ A e 7) (hm : (A e 7 - (k : Int)).toNat < n9), Gm E κ (pI (fun z M' => (¬ (0 ≤ h ∧ h < M e 7) ∧ z = -2 ∧ M' = M) ∨ ((0 ≤ h ∧ h < M e 7) ∧ Frs M M' e ∧ z = stF (M' 51) h (M' e 7).toNat))) 4 19 [some (zr E 0), some (zi h), some (zi (stF (A 51) h k)), some (zi (k : Int))] [] A := by
    intro n9
    induction n9 with
    | zero => intro k A  hT hh2 hk hm; exact absurd hm (Nat.not_lt_zero _)
    | succ n9 ih19 =>
      intro k A  hT hh2 hk hm
      obtain ⟨r1, r41, r5, r6, r15, r06⟩ := frs_e hX hT
      have r7 : A e 7 = M e 7 := by rw [r1]
      refine s_iload_n C dX10_stands_19 rfl ?_
      refine s_aload_n C dX10_stands_20 rfl ?_
      refine s_getd (k := 6) (j := 6) (b := e) C dX10_stands_21 fl_X10_45 (by decide) rfl (by decide) rfl (r06) ?_
      refine s_geti (k := 7) (j := 7) C dX10_stands_24 fl_X10_149 (by first | (rcases hX.he with rfl | rfl <;> decide) | (rcases he with rfl | rfl <;> decide)) (by first | (rcases hX.he with rfl | rfl <;> decide) | (rcases he with rfl | rfl <;> decide)) (by decide) rfl (rfl) (fun r24 => ?_)
      refine s_icmp_ge (tgt := 58) C dX10_stands_27 (by decide) (by omega) (by omega) (fun c27 => ?_) (fun c27 => ?_)
      · skip
        refine s_iload_n C dX10_stands_58 rfl ?_
        exact s_ireturn C dX10_stands_59 (⟨_, rfl, Or.inr ⟨hh2, hT, by rw [show (A e 7).toNat = k by omega]⟩⟩)
      · skip
        refine s_aload_n C dX10_stands_30 rfl ?_
        refine s_getr (k := 11) (b := 50) C dX10_stands_31 fl_X10_76 (by decide) rfl (by decide) rfl ?_
        refine s_getr (k := 0) (b := 51) C dX10_stands_34 fl_X10_181 (by decide) rfl (by decide) rfl ?_
        refine s_iload_n C dX10_stands_37 rfl ?_
        refine s_iaload (n := 24) C dX10_stands_38 (by decide) rfl rfl (by omega) (by omega) (by omega) (rfl) (fun r38 => ?_)
        refine s_iload_n C dX10_stands_39 rfl ?_
        refine s_icmp_ne (tgt := 52) C dX10_stands_40 (by decide) (by omega) (by omega) (fun c40 => ?_) (fun c40 => ?_)
        · skip
          refine s_iinc (lv' := [_, _, _, _]) C dX10_stands_52 rfl (by decide) rfl rfl rfl ?_
          refine s_goto (tgt := 19) C dX10_stands_55 (by decide) ?_
          have e9 := stF_s (A 51) h k
          first
            | (rw [if_neg c40, Int.add_zero] at e9; rw [← e9]; exact ih19 (k + 1) A hT hh2 (by omega) (by omega))
            | (rw [if_pos c40] at e9; rw [← e9]; exact ih19 (k + 1) A hT hh2 (by omega) (by omega))
        · skip
          refine s_iload_n C dX10_stands_43 rfl ?_
          refine s_iload_n C dX10_stands_44 rfl ?_
          refine s_iload_n C dX10_stands_45 rfl ?_
          refine s_isub C dX10_stands_46 ?_
          refine s_abs C dX10_stands_47 lm_X10_256 js_abs ji_Math jc_abs (by decide) (Nat.le_of_ble_eq_true rfl) (by omega) ?_
          refine s_iadd C dX10_stands_50 ?_
          refine s_istore_n (lv' := [_, _, _, _]) C dX10_stands_51 (by decide) rfl rfl ?_
          refine s_iinc (lv' := [_, _, _, _]) C dX10_stands_52 rfl (by decide) rfl rfl rfl ?_
          refine s_goto (tgt := 19) C dX10_stands_55 (by decide) ?_
          have e9 := stF_s (A 51) h k
          first
            | (rw [if_neg c40, Int.add_zero] at e9; rw [← e9]; exact ih19 (k + 1) A hT hh2 (by omega) (by omega))
            | (rw [if_pos c40] at e9; rw [← e9]; exact ih19 (k + 1) A hT hh2 (by omega) (by omega))
  refine s_aload_n C dX10_stands_0 rfl ?_
  refine s_iload_n C dX10_stands_1 rfl ?_
  refine s_callV1 C dX10_stands_2 cy_X10_isNoSentence cv_X10_isNoSentence lk_X10_159 (ct_X10_isNoSentence E e hX.he M hX.2.1.1 h hh) (by decide) (by decide) (by first | decide | (decide)) rfl (Nat.le_of_ble_eq_true rfl) (k_P (fun z2 q2 => ?_))
  have k2 : (z2 = 1 ∧ ¬ (0 ≤ h ∧ h < M e 7)) ∨ (z2 = 0 ∧ 0 ≤ h ∧ h < M e 7) := by rcases q2 with ⟨g, g2⟩ | ⟨g, g2⟩ <;> omega
  clear q2
  refine s_if_eq (tgt := 11) C dX10_stands_5 (by decide) (by omega) (fun c5 => ?_) (fun c5 => ?_)
  · skip
    refine s_aload_n C dX10_stands_11 rfl ?_
    refine s_callV0 C dX10_stands_12 cy_X10_refresh cv_X10_refresh lk_X10_163 (ct_X10_refresh E e d M hX) (by decide) (by decide) (by first | decide | (decide)) rfl (Nat.le_of_ble_eq_true rfl) (k_V (fun M12 q12 => ?_))
    obtain ⟨r1, r41, r5, r6, r15, r06⟩ := frs_e hX q12
    have hF := q12.fit hX
    have r7 : M12 e 7 = M e 7 := by rw [r1]
    refine s_iconst C dX10_stands_15 ?_
    refine s_istore_n (lv' := [_, _, _, _]) C dX10_stands_16 (by decide) rfl rfl ?_
    refine s_iconst C dX10_stands_17 ?_
    refine s_istore_n (lv' := [_, _, _, _]) C dX10_stands_18 (by decide) rfl rfl ?_
    exact L19 _ 0 M12 q12 (by omega) (by omega) (Nat.lt_succ_self _)
  · skip
    refine s_bipush C dX10_stands_8 (by decide) ?_
    exact s_ireturn C dX10_stands_10 (⟨_, rfl, Or.inl ⟨fun h => by omega, rfl, rfl⟩⟩)

set_option maxRecDepth 20000 in
set_option maxHeartbeats 4000000 in
theorem ct_X10_hasSupport (E : Ev) (e : Nat) (he : e = 17 ∨ e = 24) (M : Mm) (hF : Fit M e) (i : Int) (hi : rg i) : Ct E yX10_hasSupport cX10_hasSupport 4 (some .boolean) 1 [zr E 0, zi i] M (pP M (fun z => Bz z (supX M i (M e 7)))) := by
  refine Ct.of (own := RX10) (lv0 := [some (zr E 0), some (zi i), none, none]) (by decide) rfl (Nat.le_of_ble_eq_true rfl) rfl (fun κ C => ?_)
  obtain ⟨hn, h06, hat, hk4, h34, h33, h31⟩ := hF
  obtain ⟨l1, l2, l3, l4, l5, l6⟩ := lnT he
  have L2 : ∀ (n9 : Nat) (k : Int) (u3 : Option Value) (hk : 0 ≤ k ∧ k ≤ M e 7) (hno : ¬ supX M i k) (hm : (M e 7 - k).toNat < n9), Gm E κ (pP M (fun z => Bz z (supX M i (M e 7)))) 4 2 [some (zr E 0), some (zi i), some (zi k), u3] [] M := by
    intro n9
    induction n9 with
    | zero => intro k u3 hk hno hm; exact absurd hm (Nat.not_lt_zero _)
    | succ n9 ih2 =>
      intro k u3 hk hno hm
      refine s_iload_n C dX10_hasSupport_2 rfl ?_
      refine s_aload_n C dX10_hasSupport_3 rfl ?_
      refine s_getd (k := 6) (j := 6) (b := e) C dX10_hasSupport_4 fl_X10_45 (by decide) rfl (by decide) rfl (h06) ?_
      refine s_geti (k := 7) (j := 7) C dX10_hasSupport_7 fl_X10_149 (by first | (rcases hX.he with rfl | rfl <;> decide) | (rcases he with rfl | rfl <;> decide)) (by first | (rcases hX.he with rfl | rfl <;> decide) | (rcases he with rfl | rfl <;> decide)) (by decide) rfl (rfl) (fun r7 => ?_)
      refine s_icmp_ge (tgt := 50) C dX10_hasSupport_10 (by decide) (by omega) (by omega) (fun c10 => ?_) (fun c10 => ?_)
      · skip
        refine s_iconst C dX10_hasSupport_50 ?_
        exact s_zreturn C dX10_hasSupport_51 (by decide) (⟨_, rfl, rfl, Bz.f (by have c0 : k = M e 7 := (by omega); subst c0; exact hno)⟩)
      · skip
        refine s_aload_n C dX10_hasSupport_13 rfl ?_
        refine s_iload_n C dX10_hasSupport_14 rfl ?_
        have p15 := hat k (by omega) (by omega)
        have p15b := hk4 _ p15.1 p15.2
        refine s_callV1 C dX10_hasSupport_15 cy_X10_kindAt cv_X10_kindAt lk_X10_239 (ct_X10_kindAt E M k (by omega) (by omega)) (by decide) (by decide) (by first | decide | (decide)) rfl (Nat.le_of_ble_eq_true rfl) (k_P (fun z15 q15 => ?_))
        have q15b : z15 = kX M k := q15
        clear q15
        have q15c : 0 ≤ z15 ∧ z15 ≤ 4 := by rw [q15b]; unfold kX; omega
        refine s_istore_n (lv' := [_, _, _, _]) C dX10_hasSupport_18 (by decide) rfl rfl ?_
        refine s_aload_n C dX10_hasSupport_19 rfl ?_
        refine s_getr (k := 11) (b := 50) C dX10_hasSupport_20 fl_X10_76 (by decide) rfl (by decide) rfl ?_
        refine s_getr (k := 0) (b := 51) C dX10_hasSupport_23 fl_X10_181 (by decide) rfl (by decide) rfl ?_
        refine s_iload_n C dX10_hasSupport_26 rfl ?_
        refine s_iaload (n := 24) C dX10_hasSupport_27 (by decide) rfl rfl (by omega) (by omega) (by omega) (rfl) (fun r27 => ?_)
        refine s_iload_n C dX10_hasSupport_28 rfl ?_
        refine s_icmp_ne (tgt := 44) C dX10_hasSupport_29 (by decide) (by omega) (by omega) (fun c29 => ?_) (fun c29 => ?_)
        · skip
          refine s_iinc (lv' := [_, _, _, _]) C dX10_hasSupport_44 rfl (by decide) rfl rfl rfl ?_
          refine s_goto (tgt := 2) C dX10_hasSupport_47 (by decide) ?_
          exact ih2 (k + 1) _ (by omega) (fun g => (supX_s.mp g).elim hno (fun g2 => by
            first
              | exact c29 g2.2.1
              | (have := g2.2.2; rw [← q15b] at this; exact this.elim c34 c39))) (by omega)
        · skip
          refine s_iload_n C dX10_hasSupport_32 rfl ?_
          refine s_iconst C dX10_hasSupport_33 ?_
          refine s_icmp_eq (tgt := 42) C dX10_hasSupport_34 (by decide) (by omega) (by omega) (fun c34 => ?_) (fun c34 => ?_)
          · skip
            refine s_iconst C dX10_hasSupport_42 ?_
            exact s_zreturn C dX10_hasSupport_43 (by decide) (⟨_, rfl, rfl, Bz.t (by obtain ⟨q, a, b, c⟩ : supX M i (k + 1) := supX_s.mpr (Or.inr ⟨by omega, c29, by rw [← q15b]; first | exact Or.inl c34 | exact Or.inr c39⟩); exact ⟨q, a, by omega, c⟩)⟩)
          · skip
            refine s_iload_n C dX10_hasSupport_37 rfl ?_
            refine s_iconst C dX10_hasSupport_38 ?_
            refine s_icmp_ne (tgt := 44) C dX10_hasSupport_39 (by decide) (by omega) (by omega) (fun c39 => ?_) (fun c39 => ?_)
            · skip
              refine s_iinc (lv' := [_, _, _, _]) C dX10_hasSupport_44 rfl (by decide) rfl rfl rfl ?_
              refine s_goto (tgt := 2) C dX10_hasSupport_47 (by decide) ?_
              exact ih2 (k + 1) _ (by omega) (fun g => (supX_s.mp g).elim hno (fun g2 => by
                first
                  | exact c29 g2.2.1
                  | (have := g2.2.2; rw [← q15b] at this; exact this.elim c34 c39))) (by omega)
            · skip
              refine s_iconst C dX10_hasSupport_42 ?_
              exact s_zreturn C dX10_hasSupport_43 (by decide) (⟨_, rfl, rfl, Bz.t (by obtain ⟨q, a, b, c⟩ : supX M i (k + 1) := supX_s.mpr (Or.inr ⟨by omega, c29, by rw [← q15b]; first | exact Or.inl c34 | exact Or.inr c39⟩); exact ⟨q, a, by omega, c⟩)⟩)
  refine s_iconst C dX10_hasSupport_0 ?_
  refine s_istore_n (lv' := [_, _, _, _]) C dX10_hasSupport_1 (by decide) rfl rfl ?_
  exact L2 _ 0 _ (by omega) (supX_0 M i) (Nat.lt_succ_self _)

set_option maxRecDepth 20000 in
set_option maxHeartbeats 4000000 in
theorem ct_X10_isToldTwice (E : Ev) (e : Nat) (he : e = 17 ∨ e = 24) (M : Mm) (hF : Fit M e) (i : Int) (hi : 0 ≤ i ∧ i < M e 7) : Ct E yX10_isToldTwice cX10_isToldTwice 5 (some .boolean) 1 [zr E 0, zi i] M (pP M (fun z => Bz z (M 51 i ≠ -1 ∧ M 33 (M 41 i) ≠ 0 ∧ twX M i i))) := by
  refine Ct.of (own := RX10) (lv0 := [some (zr E 0), some (zi i), none, none, none]) (by decide) rfl (Nat.le_of_ble_eq_true rfl) rfl (fun κ C => ?_)
  obtain ⟨hn, h06, hat, hk4, h34, h33, h31⟩ := hF
  obtain ⟨l1, l2, l3, l4, l5, l6⟩ := lnT he
  have pi := hat i hi.1 hi.2
  have pi2 := h33 _ pi.1 pi.2
  have L42 : ∀ (n9 : Nat) (k : Int) (hk : 0 ≤ k ∧ k ≤ i) (h1 : M 51 i ≠ -1) (h2 : M 33 (M 41 i) ≠ 0) (hrg : rg (M 51 i)) (hno : ¬ twX M i k) (hm : (i - k).toNat < n9), Gm E κ (pP M (fun z => Bz z (M 51 i ≠ -1 ∧ M 33 (M 41 i) ≠ 0 ∧ twX M i i))) 5 42 [some (zr E 0), some (zi i), some (zi (M 33 (M 41 i))), some (zi (M 51 i)), some (zi k)] [] M := by
    intro n9
    induction n9 with
    | zero => intro k  hk h1 h2 hrg hno hm; exact absurd hm (Nat.not_lt_zero _)
    | succ n9 ih42 =>
      intro k  hk h1 h2 hrg hno hm
      refine s_iload C dX10_isToldTwice_42 rfl ?_
      refine s_iload_n C dX10_isToldTwice_44 rfl ?_
      refine s_icmp_ge (tgt := 83) C dX10_isToldTwice_45 (by decide) (by omega) (by omega) (fun c45 => ?_) (fun c45 => ?_)
      · skip
        refine s_iconst C dX10_isToldTwice_83 ?_
        exact s_zreturn C dX10_isToldTwice_84 (by decide) (⟨_, rfl, rfl, Bz.f (fun g => hno (by have c0 : k = i := (by omega); subst c0; exact g.2.2))⟩)
      · skip
        refine s_aload_n C dX10_isToldTwice_48 rfl ?_
        refine s_getr (k := 11) (b := 50) C dX10_isToldTwice_49 fl_X10_76 (by decide) rfl (by decide) rfl ?_
        refine s_getr (k := 0) (b := 51) C dX10_isToldTwice_52 fl_X10_181 (by decide) rfl (by decide) rfl ?_
        refine s_iload C dX10_isToldTwice_55 rfl ?_
        refine s_iaload (n := 24) C dX10_isToldTwice_57 (by decide) rfl rfl (by omega) (by omega) (by omega) (rfl) (fun r57 => ?_)
        refine s_iload_n C dX10_isToldTwice_58 rfl ?_
        refine s_icmp_ne (tgt := 77) C dX10_isToldTwice_59 (by decide) (by omega) (by omega) (fun c59 => ?_) (fun c59 => ?_)
        · skip
          refine s_iinc (lv' := [_, _, _, _, _]) C dX10_isToldTwice_77 rfl (by decide) rfl rfl rfl ?_
          refine s_goto (tgt := 42) C dX10_isToldTwice_80 (by decide) ?_
          exact ih42 (k + 1) (by omega) h1 h2 hrg (fun g => (twX_s.mp g).elim hno (fun g2 => by
            first
              | exact c59 g2.2.1
              | (have := g2.2.2; omega))) (by omega)
        · skip
          refine s_iconst C dX10_isToldTwice_62 ?_
          refine s_aload_n C dX10_isToldTwice_63 rfl ?_
          refine s_iload C dX10_isToldTwice_64 rfl ?_
          refine s_iload_n C dX10_isToldTwice_66 rfl ?_
          have pk := hat k (by omega) (by omega)
          have pk2 := h34 _ _ pk.1 pk.2 pi.1 pi.2
          refine s_callV2 C dX10_isToldTwice_67 cy_X10_sharedKeys cv_X10_sharedKeys lk_X10_205 (ct_X10_sharedKeys E M k i (by omega) (by omega) (by omega) (by omega)) (by decide) (by decide) (by first | decide | (decide)) rfl (Nat.le_of_ble_eq_true rfl) (k_P (fun z67 q67 => ?_))
          subst q67
          refine s_imul C dX10_isToldTwice_70 ?_
          refine s_iload_n C dX10_isToldTwice_71 rfl ?_
          refine s_icmp_lt (tgt := 77) C dX10_isToldTwice_72 (by decide) (by omega) (by omega) (fun c72 => ?_) (fun c72 => ?_)
          · skip
            refine s_iinc (lv' := [_, _, _, _, _]) C dX10_isToldTwice_77 rfl (by decide) rfl rfl rfl ?_
            refine s_goto (tgt := 42) C dX10_isToldTwice_80 (by decide) ?_
            exact ih42 (k + 1) (by omega) h1 h2 hrg (fun g => (twX_s.mp g).elim hno (fun g2 => by
              first
                | exact c59 g2.2.1
                | (have := g2.2.2; omega))) (by omega)
          · skip
            refine s_iconst C dX10_isToldTwice_75 ?_
            exact s_zreturn C dX10_isToldTwice_76 (by decide) (⟨_, rfl, rfl, Bz.t ⟨h1, h2, by obtain ⟨q, a, b, c⟩ : twX M i (k + 1) := twX_s.mpr (Or.inr ⟨by omega, c59, c72⟩); exact ⟨q, a, by omega, c⟩⟩⟩)
  refine s_aload_n C dX10_isToldTwice_0 rfl ?_
  refine s_getr (k := 8) (b := 31) C dX10_isToldTwice_1 fl_X10_55 (by decide) rfl (by decide) rfl ?_
  refine s_getr (k := 1) (b := 33) C dX10_isToldTwice_4 fl_X10_172 (by decide) rfl (by decide) rfl ?_
  refine s_aload_n C dX10_isToldTwice_7 rfl ?_
  refine s_getr (k := 9) (b := 40) C dX10_isToldTwice_8 fl_X10_62 (by decide) rfl (by decide) rfl ?_
  refine s_getr (k := 0) (b := 41) C dX10_isToldTwice_11 fl_X10_166 (by decide) rfl (by decide) rfl ?_
  refine s_iload_n C dX10_isToldTwice_14 rfl ?_
  refine s_iaload (n := 24) C dX10_isToldTwice_15 (by decide) rfl rfl (by omega) (by omega) (by omega) (rfl) (fun r15 => ?_)
  refine s_iaload (n := 24) C dX10_isToldTwice_16 (by decide) rfl rfl (by omega) (by omega) (by omega) (rfl) (fun r16 => ?_)
  refine s_istore_n (lv' := [_, _, _, _, _]) C dX10_isToldTwice_17 (by decide) rfl rfl ?_
  refine s_aload_n C dX10_isToldTwice_18 rfl ?_
  refine s_getr (k := 11) (b := 50) C dX10_isToldTwice_19 fl_X10_76 (by decide) rfl (by decide) rfl ?_
  refine s_getr (k := 0) (b := 51) C dX10_isToldTwice_22 fl_X10_181 (by decide) rfl (by decide) rfl ?_
  refine s_iload_n C dX10_isToldTwice_25 rfl ?_
  refine s_iaload (n := 24) C dX10_isToldTwice_26 (by decide) rfl rfl (by omega) (by omega) (by omega) (rfl) (fun r26 => ?_)
  refine s_istore_n (lv' := [_, _, _, _, _]) C dX10_isToldTwice_27 (by decide) rfl rfl ?_
  refine s_iload_n C dX10_isToldTwice_28 rfl ?_
  refine s_iconst C dX10_isToldTwice_29 ?_
  refine s_icmp_eq (tgt := 37) C dX10_isToldTwice_30 (by decide) (by omega) (by omega) (fun c30 => ?_) (fun c30 => ?_)
  · skip
    refine s_iconst C dX10_isToldTwice_37 ?_
    exact s_zreturn C dX10_isToldTwice_38 (by decide) (⟨_, rfl, rfl, Bz.f (fun g => by first | exact g.1 c30 | exact g.2.1 c34)⟩)
  · skip
    refine s_iload_n C dX10_isToldTwice_33 rfl ?_
    refine s_if_ne (tgt := 39) C dX10_isToldTwice_34 (by decide) (by omega) (fun c34 => ?_) (fun c34 => ?_)
    · skip
      refine s_iconst C dX10_isToldTwice_39 ?_
      refine s_istore (lv' := [_, _, _, _, _]) C dX10_isToldTwice_40 (by decide) rfl rfl ?_
      exact L42 _ 0 (by omega) c30 c34 r26 (twX_0 M i) (Nat.lt_succ_self _)
    · skip
      refine s_iconst C dX10_isToldTwice_37 ?_
      exact s_zreturn C dX10_isToldTwice_38 (by decide) (⟨_, rfl, rfl, Bz.f (fun g => by first | exact g.1 c30 | exact g.2.1 c34)⟩)

set_option maxRecDepth 20000 in
set_option maxHeartbeats 4000000 in
theorem ct_X10_findings (E : Ev) (e : Nat) (he : e = 17 ∨ e = 24) (M : Mm) (hF : Fit M e) (i : Int) (hi : 0 ≤ i ∧ i < M e 7) : Ct E yX10_findings cX10_findings 4 (some .int) 2 [zr E 0, zi i] M (pP M (fun z => FndX M e i z)) := by
  refine Ct.of (own := RX10) (lv0 := [some (zr E 0), some (zi i), none, none]) (by decide) rfl (Nat.le_of_ble_eq_true rfl) rfl (fun κ C => ?_)
  have hF0 := hF
  obtain ⟨hn, h06, hat, hk4, h34, h33, h31⟩ := hF
  obtain ⟨l1, l2, l3, l4, l5, l6⟩ := lnT he
  have pi := hat i hi.1 hi.2
  have pi2 := hk4 _ pi.1 pi.2
  have pi3 : 0 ≤ kX M i ∧ kX M i ≤ 4 := pi2
  have L29 : ∀ (b1 : Int) (h1 : Bz b1 ((kX M i = 0 ∨ kX M i = 4) ∧ ¬ supX M i (M e 7))), Gm E κ (pP M (fun z => FndX M e i z)) 4 29 [some (zr E 0), some (zi i), some (zi (kX M i)), some (zi b1)] [] M := by
    intro b1  h1
    have h10 := h1.b
    have L50 : ∀ (b2 v2 : Int) (hv2 : v2 = b1 + 2 * b2) (h2 : Bz b2 (kX M i = 2 ∧ M 52 i = 0)), Gm E κ (pP M (fun z => FndX M e i z)) 4 50 [some (zr E 0), some (zi i), some (zi (kX M i)), some (zi v2)] [] M := by
      intro b2 v2  hv2 h2
      have h20 := h2.b
      have L62 : ∀ (b3 v3 : Int) (hv3 : v3 = b1 + 2 * b2 + 4 * b3) (h3 : Bz b3 (M 51 i ≠ -1 ∧ M 33 (M 41 i) ≠ 0 ∧ twX M i i)), Gm E κ (pP M (fun z => FndX M e i z)) 4 62 [some (zr E 0), some (zi i), some (zi (kX M i)), some (zi v3)] [] M := by
        intro b3 v3  hv3 h3
        have h30 := h3.b
        have L85 : ∀ (b4 v4 : Int) (hv4 : v4 = b1 + 2 * b2 + 4 * b3 + 8 * b4) (h4 : Bz b4 (stX M i)), Gm E κ (pP M (fun z => FndX M e i z)) 4 85 [some (zr E 0), some (zi i), some (zi (kX M i)), some (zi v4)] [] M := by
          intro b4 v4  hv4 h4
          have h40 := h4.b
          have L101 : ∀ (b5 v5 : Int) (u2 : Option Value) (hv5 : v5 = b1 + 2 * b2 + 4 * b3 + 8 * b4 + 16 * b5) (h5 : Bz b5 (i = 0 ∧ (kX M i = 1 ∨ kX M i = 2 ∨ kX M i = 3))), Gm E κ (pP M (fun z => FndX M e i z)) 4 101 [some (zr E 0), some (zi i), u2, some (zi v5)] [] M := by
            intro b5 v5 u2 hv5 h5
            refine s_iload_n C dX10_findings_101 rfl ?_
            exact s_ireturn C dX10_findings_102 (⟨_, rfl, rfl, ⟨b1, b2, b3, b4, b5, ⟨h1, h2, h3, h4, h5⟩, hv5⟩⟩)
          refine s_iload_n C dX10_findings_85 rfl ?_
          refine s_if_ne (tgt := 101) C dX10_findings_86 (by decide) (by omega) (fun c86 => ?_) (fun c86 => ?_)
          · skip
            exact L101 0 v4 _ (by omega) (Bz.f (fun g => c86 g.1))
          · skip
            refine s_iload_n C dX10_findings_89 rfl ?_
            refine s_callS1 C dX10_findings_90 cy_X10_isBound cs_X10_isBound lk_X10_242 (ct_X10_isBound E M (kX M i) (by omega)) (by decide) (Nat.le_of_ble_eq_true rfl) (k_P (fun z90 q90 => ?_))
            refine s_if_eq (tgt := 101) C dX10_findings_93 (by decide) (by have := q90.b; omega) (fun c93 => ?_) (fun c93 => ?_)
            · skip
              exact L101 0 v4 _ (by omega) (Bz.f (fun g => q90.n c93 g.2))
            · skip
              refine s_iload_n C dX10_findings_96 rfl ?_
              refine s_bipush C dX10_findings_97 (by decide) ?_
              refine s_ior C dX10_findings_99 ?_
              refine s_istore_n (lv' := [_, _, _, _]) C dX10_findings_100 (by decide) rfl rfl ?_
              rw [or16 (by omega)]
              exact L101 1 _ _ (by omega) (Bz.t ⟨c86, q90.y c93⟩)
        refine s_aload_n C dX10_findings_62 rfl ?_
        refine s_getr (k := 8) (b := 31) C dX10_findings_63 fl_X10_55 (by decide) rfl (by decide) rfl ?_
        refine s_iload_n C dX10_findings_66 rfl ?_
        refine s_aload_n C dX10_findings_67 rfl ?_
        refine s_getr (k := 9) (b := 40) C dX10_findings_68 fl_X10_62 (by decide) rfl (by decide) rfl ?_
        refine s_getr (k := 0) (b := 41) C dX10_findings_71 fl_X10_166 (by decide) rfl (by decide) rfl ?_
        refine s_callV2 C dX10_findings_74 cy_X2_isStale cv_X2_isStale lk_X10_274 (ct_X2_isStale E M i (by omega) (fun f f0 f1 => by have := hat f f0 (by omega); omega) (h31 (by omega))) (by decide) (by decide) (by first | decide | (decide)) rfl (Nat.le_of_ble_eq_true rfl) (k_P (fun z74 q74 => ?_))
        refine s_if_eq (tgt := 85) C dX10_findings_77 (by decide) (by have := q74.b; omega) (fun c77 => ?_) (fun c77 => ?_)
        · skip
          exact L85 0 v3 (by omega) (Bz.f (q74.n c77))
        · skip
          refine s_iload_n C dX10_findings_80 rfl ?_
          refine s_bipush C dX10_findings_81 (by decide) ?_
          refine s_ior C dX10_findings_83 ?_
          refine s_istore_n (lv' := [_, _, _, _]) C dX10_findings_84 (by decide) rfl rfl ?_
          rw [or8 (by omega)]
          exact L85 1 _ (by omega) (Bz.t (q74.y c77))
      refine s_aload_n C dX10_findings_50 rfl ?_
      refine s_iload_n C dX10_findings_51 rfl ?_
      refine s_callV1 C dX10_findings_52 cy_X10_isToldTwice cv_X10_isToldTwice lk_X10_271 (ct_X10_isToldTwice E e he M hF0 i hi) (by decide) (by decide) (by first | decide | (decide)) rfl (Nat.le_of_ble_eq_true rfl) (k_P (fun z52 q52 => ?_))
      refine s_if_eq (tgt := 62) C dX10_findings_55 (by decide) (by have := q52.b; omega) (fun c55 => ?_) (fun c55 => ?_)
      · skip
        exact L62 0 v2 (by omega) (Bz.f (q52.n c55))
      · skip
        refine s_iload_n C dX10_findings_58 rfl ?_
        refine s_iconst C dX10_findings_59 ?_
        refine s_ior C dX10_findings_60 ?_
        refine s_istore_n (lv' := [_, _, _, _]) C dX10_findings_61 (by decide) rfl rfl ?_
        rw [or4 (by omega)]
        exact L62 1 _ (by omega) (Bz.t (q52.y c55))
    refine s_iload_n C dX10_findings_29 rfl ?_
    refine s_iconst C dX10_findings_30 ?_
    refine s_icmp_ne (tgt := 50) C dX10_findings_31 (by decide) (by omega) (by omega) (fun c31 => ?_) (fun c31 => ?_)
    · skip
      exact L50 0 b1 (by omega) (Bz.f (fun g => c31 g.1))
    · skip
      refine s_aload_n C dX10_findings_34 rfl ?_
      refine s_getr (k := 11) (b := 50) C dX10_findings_35 fl_X10_76 (by decide) rfl (by decide) rfl ?_
      refine s_getr (k := 1) (b := 52) C dX10_findings_38 fl_X10_184 (by decide) rfl (by decide) rfl ?_
      refine s_iload_n C dX10_findings_41 rfl ?_
      refine s_iaload (n := 24) C dX10_findings_42 (by decide) rfl rfl (by omega) (by omega) (by omega) (rfl) (fun r42 => ?_)
      refine s_if_ne (tgt := 50) C dX10_findings_43 (by decide) (by omega) (fun c43 => ?_) (fun c43 => ?_)
      · skip
        exact L50 0 b1 (by omega) (Bz.f (fun g => c43 g.2))
      · skip
        refine s_iload_n C dX10_findings_46 rfl ?_
        refine s_iconst C dX10_findings_47 ?_
        refine s_ior C dX10_findings_48 ?_
        refine s_istore_n (lv' := [_, _, _, _]) C dX10_findings_49 (by decide) rfl rfl ?_
        rw [or2 (by omega)]
        exact L50 1 _ (by omega) (Bz.t ⟨c31, c43⟩)
  refine s_aload_n C dX10_findings_0 rfl ?_
  refine s_iload_n C dX10_findings_1 rfl ?_
  have p2 := hat i (by omega) (by omega)
  have p2b := hk4 _ p2.1 p2.2
  refine s_callV1 C dX10_findings_2 cy_X10_kindAt cv_X10_kindAt lk_X10_239 (ct_X10_kindAt E M i (by omega) (by omega)) (by decide) (by decide) (by first | decide | (decide)) rfl (Nat.le_of_ble_eq_true rfl) (k_P (fun z2 q2 => ?_))
  have q2b : z2 = kX M i := q2
  clear q2
  have q2c : 0 ≤ z2 ∧ z2 ≤ 4 := by rw [q2b]; unfold kX; omega
  subst q2b
  refine s_istore_n (lv' := [_, _, _, _]) C dX10_findings_5 (by decide) rfl rfl ?_
  refine s_iconst C dX10_findings_6 ?_
  refine s_istore_n (lv' := [_, _, _, _]) C dX10_findings_7 (by decide) rfl rfl ?_
  refine s_iload_n C dX10_findings_8 rfl ?_
  refine s_if_eq (tgt := 17) C dX10_findings_9 (by decide) (by omega) (fun c9 => ?_) (fun c9 => ?_)
  · skip
    refine s_aload_n C dX10_findings_17 rfl ?_
    refine s_iload_n C dX10_findings_18 rfl ?_
    refine s_callV1 C dX10_findings_19 cy_X10_hasSupport cv_X10_hasSupport lk_X10_268 (ct_X10_hasSupport E e he M hF0 i (by omega)) (by decide) (by decide) (by first | decide | (decide)) rfl (Nat.le_of_ble_eq_true rfl) (k_P (fun z19 q19 => ?_))
    refine s_if_ne (tgt := 29) C dX10_findings_22 (by decide) (by have := q19.b; omega) (fun c22 => ?_) (fun c22 => ?_)
    · skip
      exact L29 0 (Bz.f (fun g => g.2 (q19.y c22)))
    · skip
      refine s_iload_n C dX10_findings_25 rfl ?_
      refine s_iconst C dX10_findings_26 ?_
      refine s_ior C dX10_findings_27 ?_
      refine s_istore_n (lv' := [_, _, _, _]) C dX10_findings_28 (by decide) rfl rfl ?_
      rw [or1 rfl]
      exact L29 1 (Bz.t ⟨by first | exact Or.inl c9 | exact Or.inr c14, q19.n c22⟩)
  · skip
    refine s_iload_n C dX10_findings_12 rfl ?_
    refine s_iconst C dX10_findings_13 ?_
    refine s_icmp_ne (tgt := 29) C dX10_findings_14 (by decide) (by omega) (by omega) (fun c14 => ?_) (fun c14 => ?_)
    · skip
      exact L29 0 (Bz.f (fun g => g.1.elim c9 c14))
    · skip
      refine s_aload_n C dX10_findings_17 rfl ?_
      refine s_iload_n C dX10_findings_18 rfl ?_
      refine s_callV1 C dX10_findings_19 cy_X10_hasSupport cv_X10_hasSupport lk_X10_268 (ct_X10_hasSupport E e he M hF0 i (by omega)) (by decide) (by decide) (by first | decide | (decide)) rfl (Nat.le_of_ble_eq_true rfl) (k_P (fun z19 q19 => ?_))
      refine s_if_ne (tgt := 29) C dX10_findings_22 (by decide) (by have := q19.b; omega) (fun c22 => ?_) (fun c22 => ?_)
      · skip
        exact L29 0 (Bz.f (fun g => g.2 (q19.y c22)))
      · skip
        refine s_iload_n C dX10_findings_25 rfl ?_
        refine s_iconst C dX10_findings_26 ?_
        refine s_ior C dX10_findings_27 ?_
        refine s_istore_n (lv' := [_, _, _, _]) C dX10_findings_28 (by decide) rfl rfl ?_
        rw [or1 rfl]
        exact L29 1 (Bz.t ⟨by first | exact Or.inl c9 | exact Or.inr c14, q19.n c22⟩)

set_option maxRecDepth 20000 in
set_option maxHeartbeats 4000000 in
theorem ct_X10_finding (E : Ev) (e d : Nat) (M : Mm) (hX : XI M e d) (i : Int) (hi : rg i) : Ct E yX10_finding cX10_finding 2 (some .int) 6 [zr E 0, zi i] M (pI (fun z M' => (¬ (0 ≤ i ∧ i < M e 7) ∧ z = -2 ∧ M' = M) ∨ ((0 ≤ i ∧ i < M e 7) ∧ Frs M M' e ∧ FndX M' e i z))) := by
  refine Ct.of (own := RX10) (lv0 := [some (zr E 0), some (zi i)]) (by decide) rfl (Nat.le_of_ble_eq_true rfl) rfl (fun κ C => ?_)
  have hn := hX.hn
  have he := hX.he
  obtain ⟨l1, l2, l3, l4, l5, l6⟩ := lnT he
  refine s_aload_n C dX10_finding_0 rfl ?_
  refine s_iload_n C dX10_finding_1 rfl ?_
  refine s_callV1 C dX10_finding_2 cy_X10_isNoSentence cv_X10_isNoSentence lk_X10_159 (ct_X10_isNoSentence E e hX.he M hX.2.1.1 i hi) (by decide) (by decide) (by first | decide | (decide)) rfl (Nat.le_of_ble_eq_true rfl) (k_P (fun z2 q2 => ?_))
  have k2 : (z2 = 1 ∧ ¬ (0 ≤ i ∧ i < M e 7)) ∨ (z2 = 0 ∧ 0 ≤ i ∧ i < M e 7) := by rcases q2 with ⟨g, g2⟩ | ⟨g, g2⟩ <;> omega
  clear q2
  refine s_if_eq (tgt := 11) C dX10_finding_5 (by decide) (by omega) (fun c5 => ?_) (fun c5 => ?_)
  · skip
    refine s_aload_n C dX10_finding_11 rfl ?_
    refine s_callV0 C dX10_finding_12 cy_X10_refresh cv_X10_refresh lk_X10_163 (ct_X10_refresh E e d M hX) (by decide) (by decide) (by first | decide | (decide)) rfl (Nat.le_of_ble_eq_true rfl) (k_V (fun M12 q12 => ?_))
    obtain ⟨r1, r41, r5, r6, r15, r06⟩ := frs_e hX q12
    have hF := q12.fit hX
    have r7 : M12 e 7 = M e 7 := by rw [r1]
    refine s_aload_n C dX10_finding_15 rfl ?_
    refine s_iload_n C dX10_finding_16 rfl ?_
    refine s_callV1 C dX10_finding_17 cy_X10_findings cv_X10_findings lk_X10_227 (ct_X10_findings E e he M12 hF i (by omega)) (by decide) (by decide) (by first | decide | (decide)) rfl (Nat.le_of_ble_eq_true rfl) (k_P (fun z17 q17 => ?_))
    exact s_ireturn C dX10_finding_20 (⟨_, rfl, Or.inr ⟨by omega, q12, q17⟩⟩)
  · skip
    refine s_bipush C dX10_finding_8 (by decide) ?_
    exact s_ireturn C dX10_finding_10 (⟨_, rfl, Or.inl ⟨fun h => by omega, rfl, rfl⟩⟩)

set_option maxRecDepth 20000 in
set_option maxHeartbeats 4000000 in
theorem ct_X10_marks (E : Ev) (e d : Nat) (M : Mm) (hX : XI M e d) (a b c p f : Int) (ha : rg a) (hb : rg b) (hc : rg c) (hp : rg p) (hf : rg f) : Ct E yX10_marks cX10_marks 9 (some .int) 6 [zr E 0, zi a, zi b, zi c, zi p, zi f] M (pI (fun z M' => (¬ (okP a ∧ okP b ∧ okP c ∧ okP p ∧ okP f) ∧ z = -2 ∧ M' = M) ∨ ((okP a ∧ okP b ∧ okP c ∧ okP p ∧ okP f) ∧ Frs M M' e ∧ ∃ g : Int → Int, (∀ i, 0 ≤ i → i < M e 7 → MkX M' e a b c p f i (g i)) ∧ z = sumI g (M e 7).toNat))) := by
  refine Ct.of (own := RX10) (lv0 := [some (zr E 0), some (zi a), some (zi b), some (zi c), some (zi p), some (zi f), none, none, none]) (by decide) rfl (Nat.le_of_ble_eq_true rfl) rfl (fun κ C => ?_)
  have hn := hX.hn
  have he := hX.he
  obtain ⟨l1, l2, l3, l4, l5, l6⟩ := lnT he
  have L50 : ∀ (n9 : Nat) (i : Nat) (g : Int → Int) (A : Mm) (u8 : Option Value) (hP : okP a ∧ okP b ∧ okP c ∧ okP p ∧ okP f) (hT : Frs M A e) (hi : (i : Int) ≤ M e 7) (hg : ∀ j, 0 ≤ j → j < (i : Int) → MkX A e a b c p f j (g j)) (hm : (M e 7 - (i : Int)).toNat < n9), Gm E κ (pI (fun z M' => (¬ (okP a ∧ okP b ∧ okP c ∧ okP p ∧ okP f) ∧ z = -2 ∧ M' = M) ∨ ((okP a ∧ okP b ∧ okP c ∧ okP p ∧ okP f) ∧ Frs M M' e ∧ ∃ g : Int → Int, (∀ i, 0 ≤ i → i < M e 7 → MkX M' e a b c p f i (g i)) ∧ z = sumI g (M e 7).toNat))) 9 50 [some (zr E 0), some (zi a), some (zi b), some (zi c), some (zi p), some (zi f), some (zi (sumI g i)), some (zi (i : Int)), u8] [] A := by
    intro n9
    induction n9 with
    | zero => intro i g A u8 hP hT hi hg hm; exact absurd hm (Nat.not_lt_zero _)
    | succ n9 ih50 =>
      intro i g A u8 hP hT hi hg hm
      obtain ⟨r1, r41, r5, r6, r15, r06⟩ := frs_e hX hT
      have r7 : A e 7 = M e 7 := by rw [r1]
      have hF := hT.fit hX
      have L84 : ∀ (b1 b2 b3 b4 b5 v t : Int) (u6 : Option Value) (hil : (i : Int) < M e 7) (hf : FnX A e (i : Int) b1 b2 b3 b4 b5) (hv : v = b1 + 2 * b2 + 4 * b3 + 8 * b4 + 16 * b5) (ht1 : t = b1 * a), Gm E κ (pI (fun z M' => (¬ (okP a ∧ okP b ∧ okP c ∧ okP p ∧ okP f) ∧ z = -2 ∧ M' = M) ∨ ((okP a ∧ okP b ∧ okP c ∧ okP p ∧ okP f) ∧ Frs M M' e ∧ ∃ g : Int → Int, (∀ i, 0 ≤ i → i < M e 7 → MkX M' e a b c p f i (g i)) ∧ z = sumI g (M e 7).toNat))) 9 84 [some (zr E 0), some (zi a), some (zi b), some (zi c), some (zi p), some (zi f), u6, some (zi (i : Int)), some (zi v)] [zi t, zi (sumI g i)] A := by
        intro b1 b2 b3 b4 b5 v t u6 hil hf hv ht1
        obtain ⟨w1, w2, w3, w4, w5⟩ := bitsX hf.1.b hf.2.1.b hf.2.2.1.b hf.2.2.2.1.b hf.2.2.2.2.b hv
        have o1 := hf.1.b
        have o2 := hf.2.1.b
        have o3 := hf.2.2.1.b
        have o4 := hf.2.2.2.1.b
        have o5 := hf.2.2.2.2.b
        have L101 : ∀ (t2 : Int) (u6 : Option Value) (ht2 : t2 = b2 * b), Gm E κ (pI (fun z M' => (¬ (okP a ∧ okP b ∧ okP c ∧ okP p ∧ okP f) ∧ z = -2 ∧ M' = M) ∨ ((okP a ∧ okP b ∧ okP c ∧ okP p ∧ okP f) ∧ Frs M M' e ∧ ∃ g : Int → Int, (∀ i, 0 ≤ i → i < M e 7 → MkX M' e a b c p f i (g i)) ∧ z = sumI g (M e 7).toNat))) 9 101 [some (zr E 0), some (zi a), some (zi b), some (zi c), some (zi p), some (zi f), u6, some (zi (i : Int)), some (zi v)] [zi t2, zi (sumI g i + t)] A := by
          intro t2 u6 ht2
          have L118 : ∀ (t3 : Int) (u6 : Option Value) (ht3 : t3 = b3 * c), Gm E κ (pI (fun z M' => (¬ (okP a ∧ okP b ∧ okP c ∧ okP p ∧ okP f) ∧ z = -2 ∧ M' = M) ∨ ((okP a ∧ okP b ∧ okP c ∧ okP p ∧ okP f) ∧ Frs M M' e ∧ ∃ g : Int → Int, (∀ i, 0 ≤ i → i < M e 7 → MkX M' e a b c p f i (g i)) ∧ z = sumI g (M e 7).toNat))) 9 118 [some (zr E 0), some (zi a), some (zi b), some (zi c), some (zi p), some (zi f), u6, some (zi (i : Int)), some (zi v)] [zi t3, zi (sumI g i + t + t2)] A := by
            intro t3 u6 ht3
            have L137 : ∀ (t4 : Int) (u6 : Option Value) (ht4 : t4 = b4 * p), Gm E κ (pI (fun z M' => (¬ (okP a ∧ okP b ∧ okP c ∧ okP p ∧ okP f) ∧ z = -2 ∧ M' = M) ∨ ((okP a ∧ okP b ∧ okP c ∧ okP p ∧ okP f) ∧ Frs M M' e ∧ ∃ g : Int → Int, (∀ i, 0 ≤ i → i < M e 7 → MkX M' e a b c p f i (g i)) ∧ z = sumI g (M e 7).toNat))) 9 137 [some (zr E 0), some (zi a), some (zi b), some (zi c), some (zi p), some (zi f), u6, some (zi (i : Int)), some (zi v)] [zi t4, zi (sumI g i + t + t2 + t3)] A := by
              intro t4 u6 ht4
              have L156 : ∀ (t5 : Int) (u6 : Option Value) (ht5 : t5 = b5 * f), Gm E κ (pI (fun z M' => (¬ (okP a ∧ okP b ∧ okP c ∧ okP p ∧ okP f) ∧ z = -2 ∧ M' = M) ∨ ((okP a ∧ okP b ∧ okP c ∧ okP p ∧ okP f) ∧ Frs M M' e ∧ ∃ g : Int → Int, (∀ i, 0 ≤ i → i < M e 7 → MkX M' e a b c p f i (g i)) ∧ z = sumI g (M e 7).toNat))) 9 156 [some (zr E 0), some (zi a), some (zi b), some (zi c), some (zi p), some (zi f), u6, some (zi (i : Int)), some (zi v)] [zi t5, zi (sumI g i + t + t2 + t3 + t4)] A := by
                intro t5 u6 ht5
                refine s_iadd C dX10_marks_156 ?_
                refine s_istore (lv' := [_, _, _, _, _, _, _, _, _]) C dX10_marks_157 (by decide) rfl rfl ?_
                refine s_iinc (lv' := [_, _, _, _, _, _, _, _, _]) C dX10_marks_159 rfl (by decide) rfl rfl rfl ?_
                refine s_goto (tgt := 50) C dX10_marks_162 (by decide) ?_
                have e9 : sumI g i + t + t2 + t3 + t4 + t5 = sumI (fun j => if j = (i : Int) then b1 * a + b2 * b + b3 * c + b4 * p + b5 * f else g j) (i + 1) := by
                  rw [sumI, if_pos rfl, sumI_cg (f := fun j => if j = (i : Int) then b1 * a + b2 * b + b3 * c + b4 * p + b5 * f else g j) (g := g) i (fun j j0 j1 => by rw [if_neg (by omega)]), ht1, ht2, ht3, ht4, ht5]
                  omega
                rw [e9]
                exact ih50 (i + 1) _ A _ hP hT (by omega) (fun j j0 j1 => by
                  by_cases cj : j = (i : Int)
                  · rw [if_pos cj, cj]; exact ⟨b1, b2, b3, b4, b5, hf, rfl⟩
                  · rw [if_neg cj]; exact hg j j0 (by omega)) (by omega)
              refine s_iadd C dX10_marks_137 ?_
              refine s_istore (lv' := [_, _, _, _, _, _, _, _, _]) C dX10_marks_138 (by decide) rfl rfl ?_
              refine s_iload C dX10_marks_140 rfl ?_
              refine s_iload C dX10_marks_142 rfl ?_
              refine s_bipush C dX10_marks_144 (by decide) ?_
              refine s_iand C dX10_marks_146 ?_
              refine s_if_eq (tgt := 155) C dX10_marks_147 (by decide) (by rw [w5]; omega) (fun c147 => ?_) (fun c147 => ?_)
              · skip
                refine s_iconst C dX10_marks_155 ?_
                rw [w5] at c147
                exact L156 0 _ (by rw [show b5 = 0 by omega, Int.zero_mul])
              · skip
                refine s_iload C dX10_marks_150 rfl ?_
                refine s_goto (tgt := 156) C dX10_marks_152 (by decide) ?_
                rw [w5] at c147
                exact L156 f _ (by rw [show b5 = 1 by omega, Int.one_mul])
            refine s_iadd C dX10_marks_118 ?_
            refine s_istore (lv' := [_, _, _, _, _, _, _, _, _]) C dX10_marks_119 (by decide) rfl rfl ?_
            refine s_iload C dX10_marks_121 rfl ?_
            refine s_iload C dX10_marks_123 rfl ?_
            refine s_bipush C dX10_marks_125 (by decide) ?_
            refine s_iand C dX10_marks_127 ?_
            refine s_if_eq (tgt := 136) C dX10_marks_128 (by decide) (by rw [w4]; omega) (fun c128 => ?_) (fun c128 => ?_)
            · skip
              refine s_iconst C dX10_marks_136 ?_
              rw [w4] at c128
              exact L137 0 _ (by rw [show b4 = 0 by omega, Int.zero_mul])
            · skip
              refine s_iload C dX10_marks_131 rfl ?_
              refine s_goto (tgt := 137) C dX10_marks_133 (by decide) ?_
              rw [w4] at c128
              exact L137 p _ (by rw [show b4 = 1 by omega, Int.one_mul])
          refine s_iadd C dX10_marks_101 ?_
          refine s_istore (lv' := [_, _, _, _, _, _, _, _, _]) C dX10_marks_102 (by decide) rfl rfl ?_
          refine s_iload C dX10_marks_104 rfl ?_
          refine s_iload C dX10_marks_106 rfl ?_
          refine s_iconst C dX10_marks_108 ?_
          refine s_iand C dX10_marks_109 ?_
          refine s_if_eq (tgt := 117) C dX10_marks_110 (by decide) (by rw [w3]; omega) (fun c110 => ?_) (fun c110 => ?_)
          · skip
            refine s_iconst C dX10_marks_117 ?_
            rw [w3] at c110
            exact L118 0 _ (by rw [show b3 = 0 by omega, Int.zero_mul])
          · skip
            refine s_iload_n C dX10_marks_113 rfl ?_
            refine s_goto (tgt := 118) C dX10_marks_114 (by decide) ?_
            rw [w3] at c110
            exact L118 c _ (by rw [show b3 = 1 by omega, Int.one_mul])
        refine s_iadd C dX10_marks_84 ?_
        refine s_istore (lv' := [_, _, _, _, _, _, _, _, _]) C dX10_marks_85 (by decide) rfl rfl ?_
        refine s_iload C dX10_marks_87 rfl ?_
        refine s_iload C dX10_marks_89 rfl ?_
        refine s_iconst C dX10_marks_91 ?_
        refine s_iand C dX10_marks_92 ?_
        refine s_if_eq (tgt := 100) C dX10_marks_93 (by decide) (by rw [w2]; omega) (fun c93 => ?_) (fun c93 => ?_)
        · skip
          refine s_iconst C dX10_marks_100 ?_
          rw [w2] at c93
          exact L101 0 _ (by rw [show b2 = 0 by omega, Int.zero_mul])
        · skip
          refine s_iload_n C dX10_marks_96 rfl ?_
          refine s_goto (tgt := 101) C dX10_marks_97 (by decide) ?_
          rw [w2] at c93
          exact L101 b _ (by rw [show b2 = 1 by omega, Int.one_mul])
      refine s_iload C dX10_marks_50 rfl ?_
      refine s_aload_n C dX10_marks_52 rfl ?_
      refine s_getd (k := 6) (j := 6) (b := e) C dX10_marks_53 fl_X10_45 (by decide) rfl (by decide) rfl (r06) ?_
      refine s_geti (k := 7) (j := 7) C dX10_marks_56 fl_X10_149 (by first | (rcases hX.he with rfl | rfl <;> decide) | (rcases he with rfl | rfl <;> decide)) (by first | (rcases hX.he with rfl | rfl <;> decide) | (rcases he with rfl | rfl <;> decide)) (by decide) rfl (rfl) (fun r56 => ?_)
      refine s_icmp_ge (tgt := 165) C dX10_marks_59 (by decide) (by omega) (by omega) (fun c59 => ?_) (fun c59 => ?_)
      · skip
        refine s_iload C dX10_marks_165 rfl ?_
        exact s_ireturn C dX10_marks_167 (⟨_, rfl, Or.inr ⟨hP, hT, g, fun j j0 j1 => hg j j0 (by omega), by rw [show (M e 7).toNat = i by omega]⟩⟩)
      · skip
        refine s_aload_n C dX10_marks_62 rfl ?_
        refine s_iload C dX10_marks_63 rfl ?_
        refine s_callV1 C dX10_marks_65 cy_X10_findings cv_X10_findings lk_X10_227 (ct_X10_findings E e he A hF (i : Int) (by omega)) (by decide) (by decide) (by first | decide | (decide)) rfl (Nat.le_of_ble_eq_true rfl) (k_P (fun z65 q65 => ?_))
        obtain ⟨b1, b2, b3, b4, b5, hf, hv⟩ := q65
        obtain ⟨w1, w2, w3, w4, w5⟩ := bitsX hf.1.b hf.2.1.b hf.2.2.1.b hf.2.2.2.1.b hf.2.2.2.2.b hv
        have o1 := hf.1.b
        refine s_istore (lv' := [_, _, _, _, _, _, _, _, _]) C dX10_marks_68 (by decide) rfl rfl ?_
        refine s_iload C dX10_marks_70 rfl ?_
        refine s_iload C dX10_marks_72 rfl ?_
        refine s_iconst C dX10_marks_74 ?_
        refine s_iand C dX10_marks_75 ?_
        refine s_if_eq (tgt := 83) C dX10_marks_76 (by decide) (by rw [w1]; omega) (fun c76 => ?_) (fun c76 => ?_)
        · skip
          refine s_iconst C dX10_marks_83 ?_
          rw [w1] at c76
          exact L84 b1 b2 b3 b4 b5 z65 0 _ (by omega) hf hv (by rw [show b1 = 0 by omega, Int.zero_mul])
        · skip
          refine s_iload_n C dX10_marks_79 rfl ?_
          refine s_goto (tgt := 84) C dX10_marks_80 (by decide) ?_
          rw [w1] at c76
          exact L84 b1 b2 b3 b4 b5 z65 a _ (by omega) hf hv (by rw [show b1 = 1 by omega, Int.one_mul])
  refine s_iload_n C dX10_marks_0 rfl ?_
  refine s_callS1 C dX10_marks_1 cy_X10_isNoPoint cs_X10_isNoPoint lk_X10_230 (ct_X10_isNoPoint E M a ha) (by decide) (Nat.le_of_ble_eq_true rfl) (k_P (fun z1 q1 => ?_))
  have k1 : (z1 = 1 ∧ ¬ (-100 ≤ a ∧ a ≤ 100)) ∨ (z1 = 0 ∧ (-100 ≤ a ∧ a ≤ 100)) := by rcases q1 with ⟨g, g2⟩ | ⟨g, g2⟩ <;> omega
  clear q1
  refine s_if_ne (tgt := 37) C dX10_marks_4 (by decide) (by omega) (fun c4 => ?_) (fun c4 => ?_)
  · skip
    refine s_bipush C dX10_marks_37 (by decide) ?_
    exact s_ireturn C dX10_marks_39 (⟨_, rfl, Or.inl ⟨fun h => by omega, rfl, rfl⟩⟩)
  · skip
    refine s_iload_n C dX10_marks_7 rfl ?_
    refine s_callS1 C dX10_marks_8 cy_X10_isNoPoint cs_X10_isNoPoint lk_X10_230 (ct_X10_isNoPoint E M b hb) (by decide) (Nat.le_of_ble_eq_true rfl) (k_P (fun z8 q8 => ?_))
    have k8 : (z8 = 1 ∧ ¬ (-100 ≤ b ∧ b ≤ 100)) ∨ (z8 = 0 ∧ (-100 ≤ b ∧ b ≤ 100)) := by rcases q8 with ⟨g, g2⟩ | ⟨g, g2⟩ <;> omega
    clear q8
    refine s_if_ne (tgt := 37) C dX10_marks_11 (by decide) (by omega) (fun c11 => ?_) (fun c11 => ?_)
    · skip
      refine s_bipush C dX10_marks_37 (by decide) ?_
      exact s_ireturn C dX10_marks_39 (⟨_, rfl, Or.inl ⟨fun h => by omega, rfl, rfl⟩⟩)
    · skip
      refine s_iload_n C dX10_marks_14 rfl ?_
      refine s_callS1 C dX10_marks_15 cy_X10_isNoPoint cs_X10_isNoPoint lk_X10_230 (ct_X10_isNoPoint E M c hc) (by decide) (Nat.le_of_ble_eq_true rfl) (k_P (fun z15 q15 => ?_))
      have k15 : (z15 = 1 ∧ ¬ (-100 ≤ c ∧ c ≤ 100)) ∨ (z15 = 0 ∧ (-100 ≤ c ∧ c ≤ 100)) := by rcases q15 with ⟨g, g2⟩ | ⟨g, g2⟩ <;> omega
      clear q15
      refine s_if_ne (tgt := 37) C dX10_marks_18 (by decide) (by omega) (fun c18 => ?_) (fun c18 => ?_)
      · skip
        refine s_bipush C dX10_marks_37 (by decide) ?_
        exact s_ireturn C dX10_marks_39 (⟨_, rfl, Or.inl ⟨fun h => by omega, rfl, rfl⟩⟩)
      · skip
        refine s_iload C dX10_marks_21 rfl ?_
        refine s_callS1 C dX10_marks_23 cy_X10_isNoPoint cs_X10_isNoPoint lk_X10_230 (ct_X10_isNoPoint E M p hp) (by decide) (Nat.le_of_ble_eq_true rfl) (k_P (fun z23 q23 => ?_))
        have k23 : (z23 = 1 ∧ ¬ (-100 ≤ p ∧ p ≤ 100)) ∨ (z23 = 0 ∧ (-100 ≤ p ∧ p ≤ 100)) := by rcases q23 with ⟨g, g2⟩ | ⟨g, g2⟩ <;> omega
        clear q23
        refine s_if_ne (tgt := 37) C dX10_marks_26 (by decide) (by omega) (fun c26 => ?_) (fun c26 => ?_)
        · skip
          refine s_bipush C dX10_marks_37 (by decide) ?_
          exact s_ireturn C dX10_marks_39 (⟨_, rfl, Or.inl ⟨fun h => by omega, rfl, rfl⟩⟩)
        · skip
          refine s_iload C dX10_marks_29 rfl ?_
          refine s_callS1 C dX10_marks_31 cy_X10_isNoPoint cs_X10_isNoPoint lk_X10_230 (ct_X10_isNoPoint E M f hf) (by decide) (Nat.le_of_ble_eq_true rfl) (k_P (fun z31 q31 => ?_))
          have k31 : (z31 = 1 ∧ ¬ (-100 ≤ f ∧ f ≤ 100)) ∨ (z31 = 0 ∧ (-100 ≤ f ∧ f ≤ 100)) := by rcases q31 with ⟨g, g2⟩ | ⟨g, g2⟩ <;> omega
          clear q31
          refine s_if_eq (tgt := 40) C dX10_marks_34 (by decide) (by omega) (fun c34 => ?_) (fun c34 => ?_)
          · skip
            refine s_aload_n C dX10_marks_40 rfl ?_
            refine s_callV0 C dX10_marks_41 cy_X10_refresh cv_X10_refresh lk_X10_163 (ct_X10_refresh E e d M hX) (by decide) (by decide) (by first | decide | (decide)) rfl (Nat.le_of_ble_eq_true rfl) (k_V (fun M41 q41 => ?_))
            obtain ⟨r1, r41, r5, r6, r15, r06⟩ := frs_e hX q41
            have hF := q41.fit hX
            have r7 : M41 e 7 = M e 7 := by rw [r1]
            refine s_iconst C dX10_marks_44 ?_
            refine s_istore (lv' := [_, _, _, _, _, _, _, _, _]) C dX10_marks_45 (by decide) rfl rfl ?_
            refine s_iconst C dX10_marks_47 ?_
            refine s_istore (lv' := [_, _, _, _, _, _, _, _, _]) C dX10_marks_48 (by decide) rfl rfl ?_
            exact L50 _ 0 (fun _ => 0) M41 _ (by omega) q41 (by omega) (fun j j0 j1 => by omega) (Nat.lt_succ_self _)
          · skip
            refine s_bipush C dX10_marks_37 (by decide) ?_
            exact s_ireturn C dX10_marks_39 (⟨_, rfl, Or.inl ⟨fun h => by omega, rfl, rfl⟩⟩)
