/-! THE FIRST ROW of those that cost least -/
theorem sumI_c (F : Int → Int) (a : Nat) (h : ∀ d : Int, (a : Int) ≤ d → F d = 0) : ∀ j : Nat, sumI F (a + j) = sumI F a := by
  intro j
  induction j with
  | zero => rfl
  | succ j ih => rw [show a + (j + 1) = (a + j) + 1 by omega, sumI, ih, h _ (by omega)]; omega
theorem hiS (f : Int → Int) : ∀ m : Nat, m ≤ 12 → sumI (fun d => hiD d (f d)) m = Vn f 0 m * p32 (12 - m) := by
  intro m
  induction m with
  | zero => intro _; simp [sumI, Vn]
  | succ m ih =>
    intro hm
    rw [sumI, ih (by omega), Vn]
    have e1 : 12 - m = (12 - (m + 1)) + 1 := by omega
    have e2 : hiD (m : Int) (f (m : Int)) = (f (m : Int) + 1) * p32 (12 - (m + 1)) := by
      unfold hiD
      rw [if_pos (by omega), show (11 - (m : Int)).toNat = 12 - (m + 1) by omega]
    rw [e2, e1, p32, Int.zero_add, Int.mul_comm 32 (Vn f 0 m), Int.add_mul (Vn f 0 m * 32), Int.mul_assoc (Vn f 0 m)]
theorem loS (f : Int → Int) : ∀ m : Nat, m ≤ 12 → sumI (fun d => loD d (f d)) (12 + m) = Vn f 12 m * p32 (12 - m) := by
  intro m
  induction m with
  | zero =>
    intro _
    have h0 : ∀ k : Nat, k ≤ 12 → sumI (fun d => loD d (f d)) k = 0 := by
      intro k
      induction k with
      | zero => intro _; rfl
      | succ k ih2 =>
        intro hk
        rw [sumI, ih2 (by omega)]
        unfold loD
        rw [if_pos (by omega)]
        rfl
    rw [h0 12 (by omega)]; simp [Vn]
  | succ m ih =>
    intro hm
    rw [show 12 + (m + 1) = (12 + m) + 1 by omega, sumI, ih (by omega), Vn]
    have e1 : 12 - m = (12 - (m + 1)) + 1 := by omega
    have e3 : (12 : Int) + (m : Int) = ((12 + m : Nat) : Int) := by omega
    have e2 : loD ((12 + m : Nat) : Int) (f ((12 + m : Nat) : Int)) = (f ((12 + m : Nat) : Int) + 1) * p32 (12 - (m + 1)) := by
      unfold loD
      rw [if_neg (by omega), show (23 - ((12 + m : Nat) : Int)).toNat = 12 - (m + 1) by omega]
    rw [e2, e1, p32, e3, Int.mul_comm 32 (Vn f 12 m), Int.add_mul (Vn f 12 m * 32), Int.mul_assoc (Vn f 12 m)]
theorem hl_V {x : Drv} (h1 : (kys x).Nodup) (h2 : ∀ d ∈ kys x, 0 ≤ d ∧ d < 24) : hiA x = Vn (rowOf x) 0 12 ∧ loA x = Vn (rowOf x) 12 12 := by
  constructor
  · rw [sumA (F := hiD) (G := hiA) rfl (fun _ _ => rfl) hiD_m1 x h1 h2, show (24 : Nat) = 12 + 12 by rfl, sumI_c _ 12 (fun d hd => by unfold hiD; rw [if_neg (by omega)]) 12, hiS _ 12 (by omega)]
    simp [p32]
  · rw [sumA (F := loD) (G := loA) rfl (fun _ _ => rfl) loD_m1 x h1 h2, show (24 : Nat) = 12 + 12 by rfl, loS _ 12 (by omega)]
    simp [p32]
def dgt (f : Int → Int) : Prop := ∀ d, -1 ≤ f d ∧ f d ≤ 30
theorem Vn_dig {f : Int → Int} (hf : dgt f) (s : Int) : ∀ (m j : Nat), j < m → Vn f s m / p32 (m - 1 - j) % 32 = f (s + (j : Int)) + 1 := by
  intro m
  induction m with
  | zero => intro j hj; omega
  | succ m ih =>
    intro j hj
    have c := hf (s + (m : Int))
    by_cases e : j = m
    · subst e
      rw [show j + 1 - 1 - j = 0 by omega, p32, Vn, Int.ediv_one]
      omega
    · rw [show m + 1 - 1 - j = (m - 1 - j) + 1 by omega, p32, ← Int.ediv_ediv_of_nonneg (by omega), Vn, show (32 * Vn f s m + (f (s + (m : Int)) + 1)) / 32 = Vn f s m by omega]
      exact ih j (by omega)
theorem Vn_cg {f g : Int → Int} (s : Int) : ∀ m : Nat, (∀ j : Nat, j < m → f (s + (j : Int)) = g (s + (j : Int))) → Vn f s m = Vn g s m := by
  intro m
  induction m with
  | zero => intro _; rfl
  | succ m ih => intro h; rw [Vn, Vn, ih (fun j hj => h j (by omega)), h m (by omega)]
theorem Vn_lt {f g : Int → Int} (hf : dgt f) (hg : dgt g) (s : Int) : ∀ (m j : Nat), j < m → (∀ k : Nat, k < j → f (s + (k : Int)) = g (s + (k : Int))) → f (s + (j : Int)) < g (s + (j : Int)) → Vn f s m < Vn g s m := by
  intro m
  induction m with
  | zero => intro j hj; omega
  | succ m ih =>
    intro j hj h1 h2
    rw [Vn, Vn]
    by_cases e : j = m
    · subst e
      rw [Vn_cg s j h1]
      omega
    · have := ih j (by omega) h1 h2
      have c := hf (s + (m : Int))
      have c2 := hg (s + (m : Int))
      omega
/-- rows of whole trees are rows of digits -/
theorem WdP.dgt {n : Int} (hn : 1 ≤ n ∧ n ≤ 24) {x : Drv} (h : WdP n x) : dgt (rowOf x) ∧ hiA x = Vn (rowOf x) 0 12 ∧ loA x = Vn (rowOf x) 12 12 := by
  obtain ⟨h1, r, hr, hr2, ht⟩ := h
  have T := ht (rowOf x) (fun _ _ _ => rfl)
  have V := hl_V h1.1 (fun d hd => by have := (h1.2 d).mp hd; omega)
  refine ⟨fun d => ?_, V⟩
  by_cases c : 0 ≤ d ∧ d ≤ n - 1
  · by_cases c2 : d = r
    · subst c2; omega
    · have := T.2.1 d c.1 c.2 c2; omega
  · have : rowOf x d = -1 := rowOf_no (fun q => c ((h1.2 d).mp q))
    omega
theorem row_back {n : Int} (hn : 1 ≤ n ∧ n ≤ 24) {x : Drv} (h : WdP n x) {d : Int} (hd : 0 ≤ d ∧ d < 24) : rowH (hiA x) (loA x) d = rowOf x d := by
  obtain ⟨h1, h2, h3⟩ := h.dgt hn
  unfold rowH
  rw [h2, h3]
  by_cases c : d < 12
  · rw [if_pos c]
    have := Vn_dig h1 0 12 d.toNat (by omega)
    rw [show 12 - 1 - d.toNat = (11 - d).toNat by omega, show (0 : Int) + (d.toNat : Int) = d by omega] at this
    omega
  · rw [if_neg c]
    have := Vn_dig h1 12 12 (d - 12).toNat (by omega)
    rw [show 12 - 1 - (d - 12).toNat = (23 - d).toNat by omega, show (12 : Int) + ((d - 12).toNat : Int) = d by omega] at this
    omega
theorem row_first {n : Int} (hn : 1 ≤ n ∧ n ≤ 24) {x y : Drv} (hx : WdP n x) (hy : WdP n y) {d : Int} (hd : 0 ≤ d ∧ d < n) (he : ∀ k, 0 ≤ k → k < d → rowOf y k = rowOf x k) (hl : rowOf y d < rowOf x d) : hiA y < hiA x ∨ (hiA y = hiA x ∧ loA y < loA x) := by
  obtain ⟨x1, x2, x3⟩ := hx.dgt hn
  obtain ⟨y1, y2, y3⟩ := hy.dgt hn
  rw [x2, x3, y2, y3]
  by_cases c : d < 12
  · left
    refine Vn_lt y1 x1 0 12 d.toNat (by omega) (fun k hk => he _ (by omega) (by omega)) ?_
    rw [show (0 : Int) + (d.toNat : Int) = d by omega]; exact hl
  · right
    refine ⟨Vn_cg 0 12 (fun j hj => he _ (by omega) (by omega)), Vn_lt y1 x1 12 12 (d - 12).toNat (by omega) (fun k hk => he _ (by omega) (by omega)) ?_⟩
    rw [show (12 : Int) + ((d - 12).toNat : Int) = d by omega]; exact hl
/-- of the trees over n, x is the first of those that cost least -/
def isBest (w : Int → Int → Int) (n : Int) (x : Drv) : Prop := x ∈ wD n ∧ (∀ y ∈ wD n, cO w x ≤ cO w y) ∧ ∀ y ∈ wD n, cO w y = cO w x → ∀ d, 0 ≤ d → d < n → (∀ k, 0 ≤ k → k < d → rowOf y k = rowOf x k) → rowOf x d ≤ rowOf y d
/-- and c the least cost of the others -/
def isNext (w : Int → Int → Int) (n : Int) (x : Drv) (U c : Int) : Prop := c ≤ U ∧ (∀ y ∈ wD n, Dfr 0 (n - 1) y x → c ≤ cO w y) ∧ (c = U ∨ ∃ y ∈ wD n, Dfr 0 (n - 1) y x ∧ cO w y = c)
theorem mnC_at {w : Int → Int → Int} : ∀ L : List Drv, mnC w L = UU ∨ ∃ y ∈ L, cO w y = mnC w L := by
  intro L
  induction L with
  | nil => exact Or.inl rfl
  | cons x l ih =>
    simp only [mnC]
    by_cases c : cO w x ≤ mnC w l
    · exact Or.inr ⟨x, List.mem_cons_self, by omega⟩
    · rcases ih with h | ⟨y, h1, h2⟩
      · left; omega
      · exact Or.inr ⟨y, List.mem_cons_of_mem _ h1, by omega⟩
theorem Dfr.symm {a b : Int} {x y : Drv} (h : Dfr a b x y) : Dfr a b y x := by
  obtain ⟨d, h1, h2, h3⟩ := h
  exact ⟨d, h1, h2, fun q => h3 q.symm⟩
/-- what the class's forest holds -/
theorem Gd_best {w : Int → Int → Int} {n l s e t : Int} (hn : 1 ≤ n ∧ n ≤ 24) (h : Gd w l s e t (wD n)) : ∃ x, isBest w n x ∧ l = cO w x ∧ (∀ d, 0 ≤ d → d < n → rowH e t d = rowOf x d) ∧ isNext w n x UU s := by
  obtain ⟨x, R, hp, h1, h2, h3, h4, h5⟩ := h
  have hx : x ∈ wD n := hp.mem_iff.mpr List.mem_cons_self
  have px := wD_P hn hx
  have hpw : (x :: R).Pairwise (Dfr 0 (n - 1)) := (List.Perm.pairwise_iff (fun h => h.symm) hp).mp (wD_U hn)
  have hR := List.pairwise_cons.mp hpw
  refine ⟨x, ⟨hx, fun y hy => ?_, fun y hy hc d d0 d1 hk => ?_⟩, h1, fun d d0 d1 => ?_, ?_, fun y hy hd => ?_, ?_⟩
  · have := h4 y hy
    unfold noL lexLt at this
    omega
  · have := h4 y hy
    unfold noL lexLt at this
    apply Classical.byContradiction
    intro hlt
    have := row_first hn px (wD_P hn hy) ⟨d0, d1⟩ hk (by omega)
    omega
  · rw [h2, h3]; exact row_back hn px (by omega)
  · rw [h5]; exact mnC_le w R
  · rw [h5]
    rcases List.mem_cons.mp (hp.mem_iff.mp hy) with rfl | hy2
    · obtain ⟨q, _, _, q3⟩ := hd
      exact absurd rfl q3
    · exact mnC_ub hy2
  · rw [h5]
    rcases mnC_at (w := w) R with h | ⟨y, g1, g2⟩
    · exact Or.inl h
    · exact Or.inr ⟨y, hp.mem_iff.mpr (List.mem_cons_of_mem _ g1), (hR.1 y g1).symm, g2⟩
