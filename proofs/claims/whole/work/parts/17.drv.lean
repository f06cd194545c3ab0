/-! derivations: lists of arcs (who hangs, on whom); how the cells of the forest stand for lists of them -/
abbrev Drv : Type := List (Int × Int)
abbrev UU : Int := 268435456
abbrev B60 : Int := 1152921504606846976
def p32 : Nat → Int
  | 0 => 1
  | k + 1 => 32 * p32 k
theorem p32_pos : ∀ k, 1 ≤ p32 k := by
  intro k
  induction k with
  | zero => decide
  | succ k ih => rw [p32]; omega
def cO (w : Int → Int → Int) : Drv → Int
  | [] => 0
  | a :: l => w a.1 a.2 + cO w l
def hiD (d h : Int) : Int := if d < 12 then (h + 1) * p32 (11 - d).toNat else 0
def loD (d h : Int) : Int := if d < 12 then 0 else (h + 1) * p32 (23 - d).toNat
def hiA : Drv → Int
  | [] => 0
  | a :: l => hiD a.1 a.2 + hiA l
def loA : Drv → Int
  | [] => 0
  | a :: l => loD a.1 a.2 + loA l
theorem cO_app (w : Int → Int → Int) (x y : Drv) : cO w (x ++ y) = cO w x + cO w y := by
  induction x with
  | nil => simp [cO]
  | cons a l ih => simp only [List.cons_append, cO, ih]; omega
theorem hiA_app (x y : Drv) : hiA (x ++ y) = hiA x + hiA y := by
  induction x with
  | nil => simp [hiA]
  | cons a l ih => simp only [List.cons_append, hiA, ih]; omega
theorem loA_app (x y : Drv) : loA (x ++ y) = loA x + loA y := by
  induction x with
  | nil => simp [loA]
  | cons a l ih => simp only [List.cons_append, loA, ih]; omega
def lexLt (c h l c' h' l' : Int) : Prop := c < c' ∨ (c = c' ∧ (h < h' ∨ (h = h' ∧ l < l')))
/-- x comes no later than y -/
def noL (w : Int → Int → Int) (x y : Drv) : Prop := ¬ lexLt (cO w y) (hiA y) (loA y) (cO w x) (hiA x) (loA x)
def mnC (w : Int → Int → Int) : List Drv → Int
  | [] => UU
  | x :: l => min (cO w x) (mnC w l)
theorem mnC_app (w : Int → Int → Int) (A B : List Drv) : mnC w (A ++ B) = min (mnC w A) (mnC w B) := by
  induction A with
  | nil =>
    have : ∀ l, mnC w l ≤ UU := by
      intro l
      induction l with
      | nil => exact Int.le_refl _
      | cons x l ih => simp only [mnC]; omega
    have := this B
    simp only [List.nil_append, mnC]; omega
  | cons a l ih => simp only [List.cons_append, mnC, ih]; omega
theorem mnC_le (w : Int → Int → Int) : ∀ l, mnC w l ≤ UU := by
  intro l
  induction l with
  | nil => exact Int.le_refl _
  | cons x l ih => simp only [mnC]; omega
theorem mnC_perm {w : Int → Int → Int} {A B : List Drv} (h : A.Perm B) : mnC w A = mnC w B := by
  induction h with
  | nil => rfl
  | cons x _ ih => simp only [mnC, ih]
  | swap x y l => simp only [mnC]; omega
  | trans _ _ h1 h2 => rw [h1, h2]
theorem mnC_lb {w : Int → Int → Int} {A : List Drv} {c : Int} (hc : c ≤ UU) (h : ∀ x ∈ A, c ≤ cO w x) : c ≤ mnC w A := by
  induction A with
  | nil => exact hc
  | cons a l ih =>
    have h1 := ih (fun x hx => h x (List.mem_cons_of_mem _ hx))
    have h2 := h a List.mem_cons_self
    simp only [mnC]; omega
theorem mnC_ub {w : Int → Int → Int} {A : List Drv} {x : Drv} (h : x ∈ A) : mnC w A ≤ cO w x := by
  induction A with
  | nil => cases h
  | cons a l ih =>
    simp only [mnC]
    rcases List.mem_cons.mp h with rfl | h
    · omega
    · have := ih h; omega
/-- what all derivations of a list keep -/
def Pw (w : Int → Int → Int) (L : List Drv) : Prop := ∀ x ∈ L, (0 ≤ cO w x ∧ cO w x ≤ 100000) ∧ (0 ≤ hiA x ∧ hiA x < B60) ∧ (0 ≤ loA x ∧ loA x < B60)
/-- a cell's four numbers stand for a list that isn't empty -/
def Gd (w : Int → Int → Int) (l s e t : Int) (L : List Drv) : Prop := ∃ (x : Drv) (R : List Drv), L.Perm (x :: R) ∧ l = cO w x ∧ e = hiA x ∧ t = loA x ∧ (∀ y ∈ L, noL w x y) ∧ s = mnC w R
def Gs (w : Int → Int → Int) (l s e t : Int) (L : List Drv) : Prop := (L = [] ∧ l = UU ∧ s = UU ∧ e = 0 ∧ t = 0) ∨ Gd w l s e t L
def prd (A B : List Drv) (t : Drv) : List Drv := A.flatMap (fun x => B.map (fun y => x ++ y ++ t))
theorem prd_mem {A B : List Drv} {t z : Drv} : z ∈ prd A B t ↔ ∃ x ∈ A, ∃ y ∈ B, z = x ++ y ++ t := by
  simp only [prd, List.mem_flatMap, List.mem_map]
  constructor
  · rintro ⟨x, hx, y, hy, rfl⟩; exact ⟨x, hx, y, hy, rfl⟩
  · rintro ⟨x, hx, y, hy, rfl⟩; exact ⟨x, hx, y, hy, rfl⟩
theorem prd_permA {A A' B : List Drv} {t : Drv} (h : A.Perm A') : (prd A B t).Perm (prd A' B t) := List.Perm.flatMap_right _ h
theorem prd_permB {A B B' : List Drv} {t : Drv} (h : B.Perm B') : (prd A B t).Perm (prd A B' t) := by
  unfold prd
  induction A with
  | nil => exact List.Perm.refl _
  | cons a l ih => simp only [List.flatMap_cons]; exact List.Perm.append (h.map _) ih
theorem mnC_map {w : Int → Int → Int} {B : List Drv} {f : Drv → Drv} {c : Int} (hc : 0 ≤ c) (hB : ∀ y ∈ B, cO w y ≤ 100000) (hc2 : c ≤ 1000000) (hf : ∀ y, cO w (f y) = cO w y + c) : mnC w (B.map f) = min UU (mnC w B + c) := by
  induction B with
  | nil => simp only [List.map_nil, mnC]; omega
  | cons a l ih =>
    have h1 := ih (fun y hy => hB y (List.mem_cons_of_mem _ hy))
    have h2 := hB a List.mem_cons_self
    have h3 := mnC_le w l
    simp only [List.map_cons, mnC, hf, h1]
    omega
theorem mnC_prd {w : Int → Int → Int} {t : Drv} (ht : 0 ≤ cO w t ∧ cO w t ≤ 100000) : ∀ {A B : List Drv}, (∀ x ∈ A, 0 ≤ cO w x ∧ cO w x ≤ 100000) → (∀ x ∈ B, 0 ≤ cO w x ∧ cO w x ≤ 100000) → B ≠ [] → mnC w (prd A B t) = min UU (mnC w A + mnC w B + cO w t) := by
  intro A B hA hB hne
  have hb1 : mnC w B ≤ 100000 := by
    cases B with
    | nil => exact absurd rfl hne
    | cons b l => have := mnC_ub (w := w) (A := b :: l) (x := b) List.mem_cons_self; have := (hB b List.mem_cons_self).2; omega
  have hb0 : 0 ≤ mnC w B := mnC_lb (by decide) (fun x hx => (hB x hx).1)
  induction A with
  | nil => simp only [prd, List.flatMap_nil, mnC]; omega
  | cons a l ih =>
    have h1 := ih (fun x hx => hA x (List.mem_cons_of_mem _ hx))
    have ha := hA a List.mem_cons_self
    have h2 : mnC w (B.map (fun y => a ++ y ++ t)) = min UU (mnC w B + (cO w a + cO w t)) :=
      mnC_map (by omega) (fun y hy => (hB y hy).2) (by omega) (fun y => by rw [cO_app, cO_app]; omega)
    have h3 := mnC_le w l
    unfold prd at h1 ⊢
    simp only [List.flatMap_cons, mnC_app, h1, h2, mnC]
    omega
theorem prd_ne {A B : List Drv} {t : Drv} (hA : A ≠ []) (hB : B ≠ []) : prd A B t ≠ [] := by
  cases A with
  | nil => exact absurd rfl hA
  | cons a l =>
    cases B with
    | nil => exact absurd rfl hB
    | cons b m => simp [prd]
/-- two lists put together: the best, and what comes next -/
theorem Gd_prd {w : Int → Int → Int} {A B : List Drv} {t : Drv} {la sa ea ta lb sb eb tb : Int} (hA : Gd w la sa ea ta A) (hB : Gd w lb sb eb tb B) (pA : Pw w A) (pB : Pw w B) (ht : 0 ≤ cO w t ∧ cO w t ≤ 100000) :
    Gd w (la + lb + cO w t) (min UU (min (la + sb) (sa + lb) + cO w t)) (ea + eb + hiA t) (ta + tb + loA t) (prd A B t) := by
  have hU : UU = 268435456 := rfl
  obtain ⟨x, R, hp, rfl, rfl, rfl, hx, rfl⟩ := hA
  obtain ⟨y, Q, hq, rfl, rfl, rfl, hy, rfl⟩ := hB
  have hxA : x ∈ A := hp.symm.subset List.mem_cons_self
  have hyB : y ∈ B := hq.symm.subset List.mem_cons_self
  have hRA : ∀ z ∈ R, z ∈ A := fun z hz => hp.symm.subset (List.mem_cons_of_mem _ hz)
  have hQB : ∀ z ∈ Q, z ∈ B := fun z hz => hq.symm.subset (List.mem_cons_of_mem _ hz)
  have hBne : B ≠ [] := by intro e; rw [e] at hyB; cases hyB
  refine ⟨x ++ y ++ t, Q.map (fun y => x ++ y ++ t) ++ prd R B t, ?_, ?_, ?_, ?_, ?_, ?_⟩
  · have h1 : (prd A B t).Perm (prd (x :: R) B t) := prd_permA hp
    refine h1.trans ?_
    have h2 : prd (x :: R) B t = B.map (fun y => x ++ y ++ t) ++ prd R B t := by simp [prd]
    rw [h2]
    have h3 : (B.map (fun y => x ++ y ++ t)).Perm ((y :: Q).map (fun y => x ++ y ++ t)) := hq.map _
    have h4 := List.Perm.append_right (prd R B t) h3
    simpa using h4
  · rw [cO_app, cO_app]
  · rw [hiA_app, hiA_app]
  · rw [loA_app, loA_app]
  · intro z hz
    obtain ⟨x', hx', y', hy', rfl⟩ := prd_mem.mp hz
    have k1 := hx x' hx'
    have k2 := hy y' hy'
    unfold noL lexLt at *
    simp only [cO_app, hiA_app, loA_app]
    omega
  · have hxb := (pA x hxA).1
    have hyb := (pB y hyB).1
    have e1 : mnC w (Q.map (fun y => x ++ y ++ t)) = min UU (mnC w Q + (cO w x + cO w t)) :=
      mnC_map (by omega) (fun z hz => (pB z (hQB z hz)).1.2) (by omega) (fun z => by rw [cO_app, cO_app]; omega)
    have e2 : mnC w (prd R B t) = min UU (mnC w R + mnC w B + cO w t) := mnC_prd ht (fun z hz => (pA z (hRA z hz)).1) (fun z hz => (pB z hz).1) hBne
    have e3 : mnC w B = min (cO w y) (mnC w Q) := by rw [mnC_perm hq]; rfl
    have e4 : cO w y ≤ mnC w Q := mnC_lb (by omega) (fun z hz => by
      have := hy z (hQB z hz)
      unfold noL lexLt at this
      omega)
    rw [mnC_app, e1, e2, e3]
    have h5 := mnC_le w R
    have h6 := mnC_le w Q
    omega
/-- a way more is offered to a cell -/
theorem Gs_more {w : Int → Int → Int} {L L' : List Drv} {l s e t l' s' e' t' : Int} (h : Gs w l s e t L) (h' : Gd w l' s' e' t' L') (pL : Pw w L) (pL' : Pw w L') :
    (lexLt l' e' t' l e t → Gd w l' (min l s') e' t' (L ++ L')) ∧ (¬ lexLt l' e' t' l e t → Gd w l (min s l') e t (L ++ L')) := by
  have hU : UU = 268435456 := rfl
  obtain ⟨x', R', hp', rfl, rfl, rfl, hx', rfl⟩ := h'
  have hxL' : x' ∈ L' := hp'.symm.subset List.mem_cons_self
  have hb' := (pL' x' hxL')
  have hR' : ∀ z ∈ R', z ∈ L' := fun z hz => hp'.symm.subset (List.mem_cons_of_mem _ hz)
  have hs' := mnC_le w R'
  have e5 : cO w x' ≤ mnC w R' := mnC_lb (by omega) (fun z hz => by
      have := hx' z (hR' z hz)
      unfold noL lexLt at this
      omega)
  rcases h with ⟨rfl, rfl, rfl, rfl, rfl⟩ | ⟨x, R, hp, rfl, rfl, rfl, hx, rfl⟩
  · constructor
    · intro _
      refine ⟨x', R', by simpa using hp', rfl, rfl, rfl, by simpa using hx', ?_⟩
      omega
    · intro hn
      exfalso
      apply hn
      left
      omega
  · have hxL : x ∈ L := hp.symm.subset List.mem_cons_self
    have hb := (pL x hxL)
    have hR : ∀ z ∈ R, z ∈ L := fun z hz => hp.symm.subset (List.mem_cons_of_mem _ hz)
    have e6 : cO w x ≤ mnC w R := mnC_lb (by omega) (fun z hz => by
      have := hx z (hR z hz)
      unfold noL lexLt at this
      omega)
    constructor
    · intro hlt
      refine ⟨x', L ++ R', ?_, rfl, rfl, rfl, ?_, ?_⟩
      · have h1 : (L ++ L').Perm (L ++ (x' :: R')) := List.Perm.append_left L hp'
        exact h1.trans List.perm_middle
      · intro y hy
        rcases List.mem_append.mp hy with hy | hy
        · have := hx y hy
          unfold noL lexLt at *
          omega
        · exact hx' y hy
      · rw [mnC_app, mnC_perm hp]
        simp only [mnC]
        omega
    · intro hn
      refine ⟨x, R ++ L', ?_, rfl, rfl, rfl, ?_, ?_⟩
      · exact (List.Perm.append_right L' hp)
      · intro y hy
        rcases List.mem_append.mp hy with hy | hy
        · exact hx y hy
        · have := hx' y hy
          unfold noL lexLt at *
          omega
      · rw [mnC_app, mnC_perm hp']
        simp only [mnC]
        omega
