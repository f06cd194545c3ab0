/-! counts of keys -/
theorem cnt_inj {P : Int → Prop} {m' : Nat} {R : Int → Int → Prop} : ∀ (m : Nat) (Q : Int → Prop), (∀ q, 0 ≤ q → q < (m : Int) → P q → ∃ q', 0 ≤ q' ∧ q' < (m' : Int) ∧ Q q' ∧ R q q') → (∀ q1 q2 q', 0 ≤ q1 → q1 < (m : Int) → 0 ≤ q2 → q2 < (m : Int) → P q1 → P q2 → R q1 q' → R q2 q' → q1 = q2) → cntB (fun q => bP (P q)) m ≤ cntB (fun q => bP (Q q)) m' := by
  intro m
  induction m with
  | zero => intro Q _ _; exact (cntB_nn _ m').1
  | succ m ih =>
    intro Q h1 h2
    rw [cntB]
    by_cases c : P (m : Int)
    · obtain ⟨q', a1, a2, a3, a4⟩ := h1 (m : Int) (by omega) (by omega) c
      have i2 := ih (fun x => Q x ∧ x ≠ q') (fun q b1 b2 b3 => by
        obtain ⟨y, y1, y2, y3, y4⟩ := h1 q b1 (by omega) b3
        refine ⟨y, y1, y2, ⟨y3, fun ey => ?_⟩, y4⟩
        rw [ey] at y4
        have := h2 q (m : Int) q' b1 (by omega) (by omega) (by omega) b3 c y4 a4
        omega) (fun q1 q2 y b1 b2 b3 b4 b5 b6 b7 b8 => h2 q1 q2 y b1 (by omega) b3 (by omega) b5 b6 b7 b8)
      have e9 := cntB_up (f := fun x => bP (Q x ∧ x ≠ q')) (g := fun x => bP (Q x)) (u := q') m' a1 a2 (bP_f (fun g => g.2 rfl)) (bP_t a3) (fun q _ qn => bP_cg ⟨fun g => ⟨g, qn⟩, fun g => g.1⟩)
      rw [if_pos (bP_t c)]
      omega
    · rw [bP_f c, if_neg (by decide)]
      have i2 := ih Q (fun q b1 b2 b3 => h1 q b1 (by omega) b3) (fun q1 q2 y b1 b2 b3 b4 b5 b6 b7 b8 => h2 q1 q2 y b1 (by omega) b3 (by omega) b5 b6 b7 b8)
      omega
theorem cntB_block (F : Int → Bool) : ∀ u : Nat, sumI (fun k => cntB (fun j => F (64 * k + j)) 64) u = cntB F (64 * u) := by
  have hadd : ∀ a b : Nat, cntB F (a + b) = cntB F a + cntB (fun j => F ((a : Int) + j)) b := by
    intro a b
    induction b with
    | zero => simp [cntB]
    | succ b ih =>
      rw [show a + (b + 1) = (a + b) + 1 by omega, cntB, cntB, ih, show ((a + b : Nat) : Int) = (a : Int) + (b : Int) by omega]
      omega
  intro u
  induction u with
  | zero => rfl
  | succ u ih =>
    rw [sumI, ih, show 64 * (u + 1) = 64 * u + 64 by omega, hadd, show ((64 * u : Nat) : Int) = 64 * (u : Int) by omega]
theorem shL_cnt (M : Mm) (a b : Int) (u : Nat) : shL M a b u = cntB (fun q => bP (kb M a q ∧ kb M b q)) (64 * u) := by
  rw [← cntB_block]
  unfold shL
  refine sumI_cg u (fun k k0 k1 => ?_)
  unfold pcL
  refine cntB_congr 64 (fun j j0 j1 => ?_)
  have h := tbl_and (x := M 35 (a * 15 + k)) (y := M 35 (b * 15 + k)) (j := j)
  have e1 : (64 * k + j) / 64 = k := by omega
  have e2 : (64 * k + j) % 64 = j := by omega
  unfold kb
  rw [e1, e2]
  by_cases c : tbl (zland (M 35 (a * 15 + k)) (M 35 (b * 15 + k))) j
  · rw [bP_t (h.mp c)]; exact c
  · rw [bP_f (fun g => c (h.mpr g))]; exact Bool.eq_false_iff.mpr c
/-- key q is n bytes of the reference's word w -/
def KS (M : Mm) (e : Nat) (q w n : Int) : Prop := M 37 q = n ∧ ∀ p, 0 ≤ p → p < n → M (e + 1) (M 36 q + p) = M 77 (16 * w + p)
theorem KS.same {M : Mm} {e : Nat} {q w n v m : Int} (h : KS M e q w n) (s : sK M v m w n) : KS M e q v m := by
  obtain ⟨h1, h2⟩ := h
  obtain ⟨s1, s2⟩ := s
  subst s1
  exact ⟨h1, fun p a b => (h2 p a b).trans (s2 p a b).symm⟩
theorem KS.sk {M : Mm} {e : Nat} {q w n v m : Int} (h : KS M e q w n) (h' : KS M e q v m) : sK M w n v m := by
  obtain ⟨h1, h2⟩ := h
  obtain ⟨s1, s2⟩ := h'
  have en : n = m := h1.symm.trans s1
  subst en
  exact ⟨rfl, fun p a b => (h2 p a b).symm.trans (s2 p a b)⟩
theorem KS.uq {M : Mm} {e : Nat} {q q' w n : Int} (hK : KT M (e + 1)) (h : KS M e q w n) (h' : KS M e q' w n) (a : 0 ≤ q ∧ q < M 31 8) (b : 0 ≤ q' ∧ q' < M 31 8) : q = q' := by
  have hd := hK.2.2.2.2.2
  have key : ∀ x y, KS M e x w n → KS M e y w n → isK M (e + 1) x (M 36 y) (M 37 y) := by
    rintro x y ⟨x1, x2⟩ ⟨y1, y2⟩
    refine ⟨by rw [x1, y1], fun p p0 p1 => ?_⟩
    rw [y1] at p1
    rw [x2 p p0 p1, y2 p p0 p1]
  by_cases c1 : q < q'
  · exact absurd (key q q' h h') (hd q q' a.1 c1 b.2)
  · by_cases c2 : q' < q
    · exact absurd (key q' q h' h) (hd q' q b.1 c2 a.2)
    · omega
/-- what a sentence's keys are, on both sides -/
def KW (M : Mm) (e : Nat) (i q : Int) : Prop := ∃ k k0 z v, MkK M (M 85 i) z k0 v ∧ k0 ≤ k ∧ 0 ≤ k ∧ k < M 79 (M 85 i) ∧ ¬ isStopR M (40 * M 85 i + k) ∧ ∀ n, foldR M (40 * M 85 i + k) n → KS M e q (40 * M 85 i + k) n
theorem kb_to {M : Mm} {e : Nat} (he : e = 17 ∨ e = 24) (hT : cTs M) (hE : cEs M e) (hR : tR M 13 75 10) (hr : eR M) (hF : KFr e M) {i : Int} (hi : 0 ≤ i ∧ i < M 66 24) (hK : KR M M i) : (∀ q, 0 ≤ q → q < 960 → kb M (M 41 i) q → q < M 31 8 ∧ KW M e i q) ∧ ∀ k k0 z v, MkK M (M 85 i) z k0 v → k0 ≤ k → 0 ≤ k → k < M 79 (M 85 i) → ¬ isStopR M (40 * M 85 i + k) → ∃ q, 0 ≤ q ∧ q < M 31 8 ∧ kb M (M 41 i) q ∧ ∀ n, foldR M (40 * M 85 i + k) n → KS M e q (40 * M 85 i + k) n := by
  have e41 := (hE.2.2.1 i hi.1 hi.2).2
  have hs := hr.2.2 i hi.1 hi.2
  have hn := hr.1
  obtain ⟨⟨g1, _, g3, g4⟩, hk, _⟩ := hF
  have e7 : M e 7 = M 66 24 := hE.1
  have hwd := (hE.2.1 (M 85 i) hs.1 hs.2).1
  obtain ⟨z9, hz1, _⟩ := hk (M 85 i) hs.1 (by rw [e7]; exact hs.2)
  have hw1 := (hr.2.1 (M 85 i) hs.1 hs.2).1
  have sg : ∀ k z k0 v, MkK M (M 85 i) z k0 v → 0 ≤ k → (k0 ≤ k ↔ (1 ≤ k ∨ ¬ isSg M e (M 85 i))) := by
    intro k z k0 v hm k1
    have ez := sign_eq hT hE hs.1 hs.2 (by omega) hz1 hm.1
    have hsg := (Fd7_sg hz1).1
    rcases hm.2 with ⟨m1, m2, _⟩ | ⟨m1, m2, _⟩
    · have : ¬ isSg M e (M 85 i) := fun g => by have := hsg.mpr g; omega
      exact ⟨fun _ => Or.inr this, fun _ => by omega⟩
    · have : isSg M e (M 85 i) := hsg.mp (by omega)
      exact ⟨fun g => Or.inl (by omega), fun g => g.elim (fun g => by omega) (fun g => absurd this g)⟩
  have ks : ∀ q k, 0 ≤ k → k < M 79 (M 85 i) → Hk M M e (M 85 i) k q → ∀ n, foldR M (40 * M 85 i + k) n → KS M e q (40 * M 85 i + k) n := by
    intro q k k0 k1 ⟨_, lost, _, hl, hq⟩ n hn2
    have ef := fold_eq hT hE hR hs.1 hs.2 k0 k1 hl hn2
    rw [ef] at hq
    obtain ⟨hl2, hb⟩ := (hE.2.1 (M 85 i) hs.1 hs.2).2 k k0 k1
    refine ⟨hq.1, fun p p0 p1 => ?_⟩
    have h0 := hl.1
    rw [hq.2 p p0 p1]
    exact hb p p0 (by omega)
  rw [e41]
  obtain ⟨zr, k0r, hmk, _⟩ := hK
  refine ⟨fun q q0 q1 hq => ?_, fun k k0 z v hm a b c d => ?_⟩
  · obtain ⟨h1, k, h2, h3⟩ := g3 (M 85 i) q hs.1 (by omega) q0 q1 hq
    obtain ⟨p1, p2, p3, p4, p5, p6⟩ := h2
    rw [hwd] at p4
    exact ⟨h1, k, k0r, zr, _, hmk, (sg k zr k0r _ hmk p3).mpr p5, p3, p4, fun g => h3.1 ((stop_eq hT hE hs.1 hs.2 p3 p4).mpr g), ks q k p3 p4 h3⟩
  · obtain ⟨q, q0, q1, q2, q3⟩ := g4 (M 85 i) k ⟨hs.1, by omega, b, by rw [hwd]; exact c, (sg k z k0 v hm b).mp a, Or.inl (by rw [e7]; exact hs.2)⟩ (fun g => d ((stop_eq hT hE hs.1 hs.2 b c).mp g))
    exact ⟨q, q0, q1, q2, ks q k b c q3⟩
/-- each key of place i that the class has is one that the reference has, and back -/
theorem key_to {M : Mm} {e : Nat} (he : e = 17 ∨ e = 24) (hT : cTs M) (hE : cEs M e) (hR : tR M 13 75 10) (hr : eR M) (hF : KFr e M) {i : Int} (hi : 0 ≤ i ∧ i < M 66 24) (hK : KR M M i) : (∀ q, 0 ≤ q → q < 960 → kb M (M 41 i) q → ∃ x, 0 ≤ x ∧ x < M 88 i ∧ KS M e q (M 86 (40 * i + x)) (M 87 (40 * i + x))) ∧ ∀ x, 0 ≤ x → x < M 88 i → ∃ q, 0 ≤ q ∧ q < M 31 8 ∧ kb M (M 41 i) q ∧ KS M e q (M 86 (40 * i + x)) (M 87 (40 * i + x)) := by
  obtain ⟨h1, h2⟩ := kb_to he hT hE hR hr hF hi hK
  obtain ⟨zr, k0r, hmk, c1, c2, c3, c4⟩ := hK
  constructor
  · intro q q0 q1 hq
    obtain ⟨_, k, k0, z, v, m1, m2, m3, m4, m5, m6⟩ := h1 q q0 q1 hq
    have ek : k0 = k0r := by
      have hz : z = zr := by
        have a1 := m1.1
        have a2 := hmk.1
        rcases a1 with ⟨a3, a4⟩ | ⟨a3, a4, a5, a6⟩ <;> rcases a2 with ⟨b3, b4⟩ | ⟨b3, b4, b5, b6⟩
        · omega
        · exact absurd b5 (a4 zr b3 b4)
        · exact absurd a5 (b4 z a3 a4)
        · by_cases q1 : z < zr
          · exact absurd a5 (b6 z a3 q1)
          · by_cases q2 : zr < z
            · exact absurd b5 (a6 zr b3 q2)
            · omega
      rcases m1.2 with ⟨a, b, _⟩ | ⟨a, b, _⟩ <;> rcases hmk.2 with ⟨c, d, _⟩ | ⟨c, d, _⟩ <;> omega
    obtain ⟨n, x, x1, x2, x3, x4⟩ := c4 k (by omega) m4 m5
    refine ⟨x, x2, x3, (m6 n x1).same ?_⟩
    exact ⟨x4.1.symm, fun p a b => (x4.2 p a (by rw [x4.1]; exact b)).symm⟩
  · intro x x0 x1
    obtain ⟨k', a1, a2, a3, a4, a5, _⟩ := c2 x x0 x1
    rw [a3] at a4 a5 ⊢
    have hk0 : 0 ≤ k' := by rcases hmk.2 with ⟨_, b, _⟩ | ⟨_, b, _⟩ <;> omega
    obtain ⟨q, q0, q1, q2, q3⟩ := h2 k' k0r zr _ hmk a1 hk0 a2 a4
    exact ⟨q, q0, q1, q2, q3 _ a5⟩
theorem sh_eq {M : Mm} {e : Nat} (he : e = 17 ∨ e = 24) (hT : cTs M) (hE : cEs M e) (hR : tR M 13 75 10) (hr : eR M) (hF : KFr e M) {i j : Int} (hi : 0 ≤ i ∧ i < M 66 24) (hj : 0 ≤ j ∧ j < M 66 24) (hK : KR M M i) (hJ : KR M M j) : shL M (M 41 i) (M 41 j) ((M 31 8 + 63) / 64).toNat = shB M i j (M 88 i).toNat := by
  obtain ⟨a1, a2⟩ := key_to he hT hE hR hr hF hi hK
  obtain ⟨b1, b2⟩ := key_to he hT hE hR hr hF hj hJ
  have kt := hF.1.1
  have h31 := kt.1
  have hi88 := (hK.B hr hi).1
  have h960 : ∀ q : Int, q < ((64 * ((M 31 8 + 63) / 64).toNat : Nat) : Int) → q < 960 := fun q hq => by omega
  have lt31 : ∀ {p q : Int}, 0 ≤ p → p < M 66 24 → KR M M p → 0 ≤ q → q < 960 → kb M (M 41 p) q → q < M 31 8 := fun hp0 hp1 hk q0 q1 hq => ((kb_to he hT hE hR hr hF ⟨hp0, hp1⟩ hk).1 _ q0 q1 hq).1
  rw [shL_cnt]
  unfold shB
  refine Int.le_antisymm ?_ ?_
  · refine cnt_inj (R := fun q x => KS M e q (M 86 (40 * i + x)) (M 87 (40 * i + x))) _ _ (fun q q0 q1 hq => ?_) (fun q1 q2 x c1 c2 c3 c4 c5 c6 c7 c8 => ?_)
    · have q9 := h960 q q1
      obtain ⟨x, x0, x1, x2⟩ := a1 q q0 q9 hq.1
      obtain ⟨y, y0, y1, y2⟩ := b1 q q0 q9 hq.2
      exact ⟨x, x0, by omega, ⟨y, y0, y1, x2.sk y2⟩, x2⟩
    · exact c7.uq kt c8 ⟨c1, lt31 hi.1 hi.2 hK c1 (h960 _ c2) c5.1⟩ ⟨c3, lt31 hi.1 hi.2 hK c3 (h960 _ c4) c6.1⟩
  · refine cnt_inj (R := fun x q => KS M e q (M 86 (40 * i + x)) (M 87 (40 * i + x))) _ _ (fun x x0 x1 hx => ?_) (fun x1 x2 q c1 c2 c3 c4 c5 c6 c7 c8 => ?_)
    · obtain ⟨q, q0, q1, q2, q3⟩ := a2 x x0 (by omega)
      obtain ⟨y, y0, y1, y2⟩ := hx
      obtain ⟨q', r0, r1, r2, r3⟩ := b2 y y0 y1
      have eq : q = q' := q3.uq kt (r3.same y2) ⟨q0, q1⟩ ⟨r0, r1⟩
      refine ⟨q, q0, by omega, ⟨q2, by rw [eq]; exact r2⟩, q3⟩
    · obtain ⟨zr, k0r, hmk, d1, d2, d3, d4⟩ := hK
      by_cases g1 : x1 < x2
      · exact absurd (c8.sk c7) (d3 x1 x2 c1 g1 (by omega))
      · by_cases g2 : x2 < x1
        · exact absurd (c7.sk c8) (d3 x2 x1 c3 g2 (by omega))
        · omega
theorem cntB_all {f : Int → Bool} : ∀ k : Nat, (∀ i : Int, 0 ≤ i → i < (k : Int) → f i = true) → cntB f k = (k : Int) := by
  intro k
  induction k with
  | zero => intro _; rfl
  | succ k ih => intro h; rw [cntB, ih (fun i a b => h i a (by omega)), h (k : Int) (by omega) (by omega)]; simp
theorem shB_self {M : Mm} {i : Int} (h : 0 ≤ M 88 i) : shB M i i (M 88 i).toNat = M 88 i := by
  unfold shB
  rw [cntB_all _ (fun x a b => bP_t ⟨x, a, by omega, rfl, fun p _ _ => rfl⟩)]
  omega
