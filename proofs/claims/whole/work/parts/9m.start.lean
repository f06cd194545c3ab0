/-! THE START: the memory that the law begins with -/
/-- the memory behind the two constructors -/
def wt0 (k : Int) : Int := if k = 0 then 2 else if k = 1 then 3 else if k = 2 then 10 else if k = 3 then 5 else 0
def M0 : Mm := fun a k => if a = 15 ∨ a = 76 then wt0 k else if a = 0 then (if k = 6 then 17 else if k = 7 then 24 else 0) else if a = 3 then (if k = 0 then 60 else if k = 1 then 16 else 0) else if a = 7 then (if k = 0 then 30 else if k = 1 then 16 else 0) else if a = 11 then (if k = 0 then 10 else if k = 1 then 6 else 0) else if a = 16 then (if k = 1 then -1 else 0) else if a = 50 then (if k = 4 then -1 else 0) else if a = 66 then (if k = 27 then -1 else 0) else 0
theorem wt_eq : wtF = (fun k : Nat => Int32.ofInt (wt0 (k : Int))) := by
  funext k
  unfold wtF upd wt0
  by_cases h3 : k = 3
  · subst h3; rfl
  · rw [if_neg h3]
    by_cases h2 : k = 2
    · subst h2; rfl
    · rw [if_neg h2]
      by_cases h1 : k = 1
      · subst h1; rfl
      · rw [if_neg h1]
        by_cases h0 : k = 0
        · subst h0; rfl
        · rw [if_neg h0, if_neg (by omega), if_neg (by omega), if_neg (by omega), if_neg (by omega)]; rfl
set_option maxRecDepth 100000 in
set_option maxHeartbeats 8000000 in
theorem L10_eq (E : Ev) : L10 E = (List.range 66).map (fun i => cE (aD E) (cY E) M0 i) := by
  unfold L10
  rw [wt_eq]
  rfl
set_option maxRecDepth 100000 in
set_option maxHeartbeats 8000000 in
theorem L11_eq (E : Ev) : L11 E 66 = (List.range 41).map (fun i => cE (aD E) (cY E) M0 (66 + i)) := by
  unfold L11
  rw [wt_eq]
  rfl
theorem zw_rg (E : Ev) (f : Nat → va_E) (n : Nat) : zw E ((List.range n).map f) = (List.range n).map (fun i => (aD E i, f i)) := by
  apply List.ext_getElem?
  intro j
  rw [zw_at]
  by_cases h : j < n
  · simp [List.getElem?_range h]
  · rw [List.getElem?_eq_none (by simp; omega), List.getElem?_eq_none (by simp; omega)]; rfl
theorem L_all (E : Ev) : zw E (L10 E ++ L11 E 66) = wl (aD E) (cY E) M0 := by
  have e : L10 E ++ L11 E 66 = (List.range 107).map (fun i => cE (aD E) (cY E) M0 i) := by
    rw [L10_eq, L11_eq]
    apply List.ext_getElem?
    intro j
    by_cases h : j < 66
    · rw [List.getElem?_append_left (by simpa using h)]
      simp [List.getElem?_range h, List.getElem?_range (show j < 107 by omega)]
    · rw [List.getElem?_append_right (by simp; omega)]
      by_cases h2 : j < 107
      · simp [List.getElem?_range h2, List.getElem?_range (show j - 66 < 41 by omega), show 66 + (j - 66) = j by omega]
      · rw [List.getElem?_eq_none (by simp; omega), List.getElem?_eq_none (by simp; omega)]
  rw [e, zw_rg]
  rfl
theorem Ok_0 (a : Nat) (k : Int) : Ok a k 0 := by
  unfold Ok
  repeat' split
  all_goals first | exact Or.inl rfl | omega
theorem Ok_v {a : Nat} {k z : Int} (h1 : kd a = 20 ∨ (kd a < 12 ∧ ft (kd a) k.toNat ≠ 1)) (h2 : -1 ≤ z ∧ z ≤ 100) : Ok a k z := by
  unfold Ok
  rcases h1 with h | ⟨h, h'⟩
  · rw [if_neg (by omega), if_neg (by omega), if_neg (by omega), if_neg (by omega)]; omega
  · rw [if_neg (by omega), if_neg (by omega), if_neg (by omega), if_neg (fun q => h' q.2)]; omega
theorem Rg_M0 : Rg M0 := by
  intro a k
  unfold M0
  split
  · next h =>
    have : -1 ≤ wt0 k ∧ wt0 k ≤ 100 := by unfold wt0; repeat' split
                                          all_goals omega
    rcases h with rfl | rfl
    · exact Ok_v (Or.inl rfl) this
    · exact Ok_v (Or.inl rfl) this
  · repeat' split
    all_goals first
      | exact Ok_0 _ _
      | (next h1 h2 => subst h1; subst h2; exact Ok_v (Or.inr ⟨by decide, by decide⟩) (by decide))
      | (next h1 h2 h3 => subst h1; subst h3; exact Ok_v (Or.inr ⟨by decide, by decide⟩) (by decide))
      | (subst_vars; exact Ok_v (Or.inr ⟨by decide, by decide⟩) (by decide))
theorem Wp_0 {E : Ev} {base : Nat} {H : Heap} (h : Bw E base (L10 E ++ L11 E 66) H) : Wp E M0 H := by
  refine ⟨?_, Rg_M0⟩
  rw [← L_all]
  exact h.2
theorem wt0_rg {i : Int} : 0 ≤ wt0 i ∧ wt0 i ≤ 50 := by
  unfold wt0
  repeat' split
  all_goals omega
theorem Cpl_0 : Cpl M0 17 24 := by
  have z1 : M0 1 1 = 0 := rfl
  have z35 : M0 3 5 = 0 := rfl
  have z75 : M0 7 5 = 0 := rfl
  have z115 : M0 11 5 = 0 := rfl
  have zn : M0 17 7 = 0 := rfl
  have zp : M0 55 2 = 0 := rfl
  have zo : M0 58 7 = 0 := rfl
  have y1 : M0 66 1 = 0 := rfl
  have y6 : M0 66 6 = 0 := rfl
  have y10 : M0 66 10 = 0 := rfl
  have y13 : M0 66 13 = 0 := rfl
  have y24 : M0 66 24 = 0 := rfl
  have y41 : M0 66 41 = 0 := rfl
  have y52 : M0 66 52 = 0 := rfl
  have w15 : M0 15 = wt0 := rfl
  have w76 : M0 76 = wt0 := rfl
  have z40 : M0 40 2 = 0 := rfl
  refine ⟨⟨Or.inl ⟨rfl, rfl⟩, ⟨rfl, rfl⟩, by omega, ⟨⟨rfl, rfl, by omega, fun i _ h => absurd h (by omega)⟩, ⟨rfl, rfl, by omega, fun i _ h => absurd h (by omega)⟩, ⟨rfl, rfl, by omega, fun i _ h => absurd h (by omega)⟩⟩, fun i _ h => absurd h (by omega), fun i _ _ => by rw [w15]; exact wt0_rg, ⟨⟨by omega, fun s _ h => absurd h (by omega)⟩, ⟨by omega, fun i _ h => absurd h (by omega), fun i j _ h => absurd h (by omega)⟩, ⟨by omega, fun p _ h => absurd h (by omega)⟩⟩, by omega, fun _ h => absurd h (by omega), fun _ _ h => absurd h (by omega)⟩, ⟨by omega, ⟨⟨by omega, fun i _ h => absurd h (by omega)⟩, ⟨by omega, fun i _ h => absurd h (by omega)⟩, ⟨by omega, fun i _ h => absurd h (by omega)⟩⟩, fun i _ h => absurd h (by omega), fun i _ _ => by rw [w76]; exact wt0_rg, ⟨by omega, fun s _ h => absurd h (by omega), fun i _ h => absurd h (by omega)⟩, ⟨by omega, fun p _ h => absurd h (by omega)⟩, by omega, fun _ h => absurd h (by omega)⟩, ⟨by omega, fun p _ h => absurd h (by omega)⟩, ⟨⟨by omega, fun i _ h => absurd h (by omega)⟩, ⟨by omega, fun i _ h => absurd h (by omega)⟩, ⟨by omega, fun i _ h => absurd h (by omega)⟩, fun i _ h => absurd h (by omega)⟩, fun i _ _ => by rw [w15, w76], ⟨by omega, fun s _ h => absurd h (by omega), fun i _ h => absurd h (by omega), fun h => absurd h (by omega)⟩, ⟨by omega, fun p _ h => absurd h (by omega)⟩, ⟨by omega, fun p _ h => absurd h (by omega)⟩, ⟨rfl, rfl⟩⟩
