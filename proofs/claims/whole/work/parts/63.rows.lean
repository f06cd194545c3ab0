/-! ROWS: two derivations of a side are two rows; rows in their order -/
def Dfr (a b : Int) (x y : Drv) : Prop := ∃ d, a ≤ d ∧ d ≤ b ∧ rowOf x d ≠ rowOf y d
theorem rgI_pw (a b : Int) : (rgI a b).Pairwise (fun p q => p < q) := by
  unfold rgI
  rw [List.pairwise_map]
  exact List.pairwise_lt_range.imp (fun h => by omega)
theorem prd_pw {R : Drv → Drv → Prop} {A B : List Drv} {t : Drv} (hB : ∀ x ∈ A, B.Pairwise (fun y y' => R (x ++ y ++ t) (x ++ y' ++ t))) (hA : A.Pairwise (fun x x' => ∀ y ∈ B, ∀ y' ∈ B, R (x ++ y ++ t) (x' ++ y' ++ t))) : (prd A B t).Pairwise R := by
  unfold prd
  rw [List.pairwise_flatMap]
  refine ⟨fun x hx => ?_, hA.imp ?_⟩
  · rw [List.pairwise_map]; exact hB x hx
  · intro x x' h u hu v hv
    obtain ⟨y, hy, rfl⟩ := List.mem_map.mp hu
    obtain ⟨y', hy', rfl⟩ := List.mem_map.mp hv
    exact h y hy y' hy'
theorem gD_Nd {i j : Int} (hij : i < j) (hw : j - i ≤ 23) {g : Drv} (hg : g ∈ gD i j) : Nd (i + 1) (j - 1) g := by
  obtain ⟨k, hk, hg2⟩ := List.mem_flatMap.mp hg
  have hk2 := mem_rgI.mp hk
  obtain ⟨x, hx, y, hy, rfl⟩ := prd_mem.mp hg2
  obtain ⟨n1, _⟩ := (sD_P (by omega) (by omega) hx).1 (by omega)
  obtain ⟨n2, _⟩ := (sD_P (by omega) (by omega) hy).2 (by omega)
  rw [List.append_nil]
  exact Nd_app n1 n2 (by omega) (by omega)
def SdU (h e : Int) : Prop := (h ≤ e → (sD h e).Pairwise (Dfr (h + 1) e)) ∧ (e ≤ h → (sD h e).Pairwise (Dfr e (h - 1)))
theorem gD_U {i j : Int} (hij : i < j) (hw : j - i ≤ 23) (h1 : ∀ k, i ≤ k → k < j → SdU i k) (h2 : ∀ k, i < k → k ≤ j → SdU j k) : (gD i j).Pairwise (Dfr (i + 1) (j - 1)) := by
  unfold gD dGf
  rw [List.pairwise_flatMap]
  refine ⟨fun k hk => ?_, (rgI_pw i (j - 1)).imp_of_mem ?_⟩
  · have hk2 := mem_rgI.mp hk
    refine prd_pw (fun x hx => ?_) ?_
    · refine ((h2 (k + 1) (by omega) (by omega)).2 (by omega)).imp_of_mem ?_
      rintro y y' hy hy' ⟨d, d1, d2, d3⟩
      have nx := ((sD_P (by omega) (by omega) hx).1 (by omega)).1
      refine ⟨d, by omega, by omega, ?_⟩
      rw [List.append_nil, List.append_nil, rowOf_R (fun c => by have := (nx.2 d).mp c; omega), rowOf_R (fun c => by have := (nx.2 d).mp c; omega)]
      exact d3
    · refine ((h1 k (by omega) (by omega)).1 (by omega)).imp_of_mem ?_
      rintro x x' hx hx' ⟨d, d1, d2, d3⟩ y hy y' hy'
      have nx := ((sD_P (by omega) (by omega) hx).1 (by omega)).1
      have nx' := ((sD_P (by omega) (by omega) hx').1 (by omega)).1
      refine ⟨d, by omega, by omega, ?_⟩
      rw [List.append_nil, List.append_nil, rowOf_L ((nx.2 d).mpr (by omega)), rowOf_L ((nx'.2 d).mpr (by omega))]
      exact d3
  · intro k1 k2 hk1 hk2 hlt g1 hg1 g2 hg2
    have a1 := mem_rgI.mp hk1
    have a2 := mem_rgI.mp hk2
    obtain ⟨x1, hx1, y1, hy1, rfl⟩ := prd_mem.mp hg1
    obtain ⟨x2, hx2, y2, hy2, rfl⟩ := prd_mem.mp hg2
    apply Classical.byContradiction
    intro hno
    have hag : ∀ d, i + 1 ≤ d → d ≤ j - 1 → rowOf (x1 ++ y1 ++ []) d = rowOf (x2 ++ y2 ++ []) d := by
      intro d d1 d2
      apply Classical.byContradiction
      intro hd
      exact hno ⟨d, d1, d2, hd⟩
    have px1 := ((sD_P (by omega) (by omega) hx1).1 (by omega)).1
    have py1 := (sD_P (by omega) (by omega) hy1).2 (by omega)
    have px2 := (sD_P (by omega) (by omega) hx2).1 (by omega)
    have t1 : Tr (rowOf (x1 ++ y1 ++ [])) (k1 + 1) j j := py1.2 _ (fun d d1 d2 => by
      rw [List.append_nil, rowOf_R (fun c => by have := (px1.2 d).mp c; omega)])
    have t2 : Tr (rowOf (x1 ++ y1 ++ [])) i k2 i := px2.2 _ (fun d d1 d2 => by
      rw [hag d (by omega) (by omega), List.append_nil, rowOf_L ((px2.1.2 d).mpr (by omega))])
    obtain ⟨k, _, e1, e2⟩ := t2.2.2.1 (k1 + 1) (by omega) (by omega)
    have st := t1.stay k (k1 + 1) (by omega) (by omega) (fun q hq => by
      have := t2.stay q (k1 + 1) (by omega) (by omega) (fun q2 h2 => e2 q2 (by omega))
      omega)
    omega
theorem sD_U : ∀ (m : Nat) (h e : Int), m ≤ 23 → h - e ≤ (m : Int) → e - h ≤ (m : Int) → SdU h e := by
  intro m
  induction m with
  | zero =>
    intro h e _ h1 h2
    have c : e = h := by omega
    subst c
    refine ⟨fun _ => ?_, fun _ => ?_⟩ <;> (rw [sD_self]; exact List.pairwise_singleton _ _)
  | succ m ih =>
    intro h e hm h1 h2
    by_cases c1 : h = e
    · subst c1
      refine ⟨fun _ => ?_, fun _ => ?_⟩ <;> (rw [sD_self]; exact List.pairwise_singleton _ _)
    by_cases c2 : h < e
    · refine ⟨fun _ => ?_, fun q => by omega⟩
      rw [sD_up c2 (by omega), List.pairwise_flatMap]
      refine ⟨fun d hd => ?_, (rgI_pw (h + 1) e).imp_of_mem ?_⟩
      · have d2 := mem_rgI.mp hd
        have ug : (gD h d).Pairwise (Dfr (h + 1) (d - 1)) := gD_U (by omega) (by omega) (fun k k1 k2 => ih h k (by omega) (by omega) (by omega)) (fun k k1 k2 => ih d k (by omega) (by omega) (by omega))
        refine prd_pw (fun g hg => ?_) (ug.imp_of_mem ?_)
        · have ng := gD_Nd (by omega) (by omega) hg
          refine ((ih d e (by omega) (by omega) (by omega)).1 (by omega)).imp_of_mem ?_
          rintro z z' hz hz' ⟨q, q1, q2, q3⟩
          have nz := ((sD_P (by omega) (by omega) hz).1 (by omega)).1
          have nz' := ((sD_P (by omega) (by omega) hz').1 (by omega)).1
          refine ⟨q, by omega, by omega, ?_⟩
          rw [List.append_assoc, List.append_assoc, rowOf_R (fun c => by have := (ng.2 q).mp c; omega), rowOf_L ((nz.2 q).mpr (by omega)), rowOf_R (fun c => by have := (ng.2 q).mp c; omega), rowOf_L ((nz'.2 q).mpr (by omega))]
          exact q3
        · rintro g g' hg hg' ⟨q, q1, q2, q3⟩ z hz z' hz'
          have ng := gD_Nd (by omega) (by omega) hg
          have ng' := gD_Nd (by omega) (by omega) hg'
          refine ⟨q, by omega, by omega, ?_⟩
          rw [List.append_assoc, List.append_assoc, rowOf_L ((ng.2 q).mpr (by omega)), rowOf_L ((ng'.2 q).mpr (by omega))]
          exact q3
      · intro d1 d2 hd1 hd2 hlt u hu v hv
        have a1 := mem_rgI.mp hd1
        have a2 := mem_rgI.mp hd2
        obtain ⟨g1, hg1, z1, hz1, rfl⟩ := prd_mem.mp hu
        obtain ⟨g2, hg2, z2, hz2, rfl⟩ := prd_mem.mp hv
        have ng1 := gD_Nd (by omega) (by omega) hg1
        have ng2 := gD_Nd (by omega) (by omega) hg2
        have pz1 := (sD_P (by omega) (by omega) hz1).1 (by omega)
        have nz2 := ((sD_P (by omega) (by omega) hz2).1 (by omega)).1
        have tz := pz1.2 (rowOf z1) (fun _ _ _ => rfl)
        have := tz.2.1 d2 (by omega) (by omega) (by omega)
        refine ⟨d2, by omega, by omega, ?_⟩
        rw [List.append_assoc, List.append_assoc, rowOf_R (fun c => by have := (ng1.2 d2).mp c; omega), rowOf_L ((pz1.1.2 d2).mpr (by omega)), rowOf_R (fun c => by have := (ng2.2 d2).mp c; omega), rowOf_R (fun c => by have := (nz2.2 d2).mp c; omega), rowOf, if_pos rfl]
        show rowOf z1 d2 ≠ h
        omega
    · refine ⟨fun q => by omega, fun _ => ?_⟩
      rw [sD_dn (by omega) (by omega), List.pairwise_flatMap]
      refine ⟨fun d hd => ?_, (rgI_pw e (h - 1)).imp_of_mem ?_⟩
      · have d2 := mem_rgI.mp hd
        have ug : (gD d h).Pairwise (Dfr (d + 1) (h - 1)) := gD_U (by omega) (by omega) (fun k k1 k2 => ih d k (by omega) (by omega) (by omega)) (fun k k1 k2 => ih h k (by omega) (by omega) (by omega))
        refine prd_pw (fun z hz => ?_) ?_
        · have nz := ((sD_P (by omega) (by omega) hz).2 (by omega)).1
          refine ug.imp_of_mem ?_
          rintro g g' hg hg' ⟨q, q1, q2, q3⟩
          have ng := gD_Nd (by omega) (by omega) hg
          have ng' := gD_Nd (by omega) (by omega) hg'
          refine ⟨q, by omega, by omega, ?_⟩
          rw [List.append_assoc, List.append_assoc, rowOf_R (fun c => by have := (nz.2 q).mp c; omega), rowOf_L ((ng.2 q).mpr (by omega)), rowOf_R (fun c => by have := (nz.2 q).mp c; omega), rowOf_L ((ng'.2 q).mpr (by omega))]
          exact q3
        · refine ((ih d e (by omega) (by omega) (by omega)).2 (by omega)).imp_of_mem ?_
          rintro z z' hz hz' ⟨q, q1, q2, q3⟩ g hg g' hg'
          have nz := ((sD_P (by omega) (by omega) hz).2 (by omega)).1
          have nz' := ((sD_P (by omega) (by omega) hz').2 (by omega)).1
          refine ⟨q, by omega, by omega, ?_⟩
          rw [List.append_assoc, List.append_assoc, rowOf_L ((nz.2 q).mpr (by omega)), rowOf_L ((nz'.2 q).mpr (by omega))]
          exact q3
      · intro d1 d2 hd1 hd2 hlt u hu v hv
        have a1 := mem_rgI.mp hd1
        have a2 := mem_rgI.mp hd2
        obtain ⟨z1, hz1, g1, hg1, rfl⟩ := prd_mem.mp hu
        obtain ⟨z2, hz2, g2, hg2, rfl⟩ := prd_mem.mp hv
        have ng1 := gD_Nd (by omega) (by omega) hg1
        have nz1 := ((sD_P (by omega) (by omega) hz1).2 (by omega)).1
        have pz2 := (sD_P (by omega) (by omega) hz2).2 (by omega)
        have tz := pz2.2 (rowOf z2) (fun _ _ _ => rfl)
        have := tz.2.1 d1 (by omega) (by omega) (by omega)
        refine ⟨d1, by omega, by omega, ?_⟩
        rw [List.append_assoc, List.append_assoc, rowOf_R (fun c => by have := (nz1.2 d1).mp c; omega), rowOf_R (fun c => by have := (ng1.2 d1).mp c; omega), rowOf, if_pos rfl, rowOf_L ((pz2.1.2 d1).mpr (by omega))]
        show h ≠ rowOf z2 d1
        omega
theorem wD_U {n : Int} (hn : 1 ≤ n ∧ n ≤ 24) : (wD n).Pairwise (Dfr 0 (n - 1)) := by
  unfold wD
  rw [List.pairwise_flatMap]
  refine ⟨fun r hr => ?_, (rgI_pw 0 (n - 1)).imp_of_mem ?_⟩
  · have r2 := mem_rgI.mp hr
    refine prd_pw (fun z hz => ?_) ?_
    · have nz := ((sD_P (by omega) (by omega) hz).2 (by omega)).1
      refine ((sD_U 23 r (n - 1) (by omega) (by omega) (by omega)).1 (by omega)).imp_of_mem ?_
      rintro g g' hg hg' ⟨q, q1, q2, q3⟩
      have ng := ((sD_P (by omega) (by omega) hg).1 (by omega)).1
      have ng' := ((sD_P (by omega) (by omega) hg').1 (by omega)).1
      refine ⟨q, by omega, by omega, ?_⟩
      rw [List.append_assoc, List.append_assoc, rowOf_R (fun c => by have := (nz.2 q).mp c; omega), rowOf_L ((ng.2 q).mpr (by omega)), rowOf_R (fun c => by have := (nz.2 q).mp c; omega), rowOf_L ((ng'.2 q).mpr (by omega))]
      exact q3
    · refine ((sD_U 23 r 0 (by omega) (by omega) (by omega)).2 (by omega)).imp_of_mem ?_
      rintro z z' hz hz' ⟨q, q1, q2, q3⟩ g hg g' hg'
      have nz := ((sD_P (by omega) (by omega) hz).2 (by omega)).1
      have nz' := ((sD_P (by omega) (by omega) hz').2 (by omega)).1
      refine ⟨q, by omega, by omega, ?_⟩
      rw [List.append_assoc, List.append_assoc, rowOf_L ((nz.2 q).mpr (by omega)), rowOf_L ((nz'.2 q).mpr (by omega))]
      exact q3
  · intro d1 d2 hd1 hd2 hlt u hu v hv
    have a1 := mem_rgI.mp hd1
    have a2 := mem_rgI.mp hd2
    obtain ⟨z1, hz1, g1, hg1, rfl⟩ := prd_mem.mp hu
    obtain ⟨z2, hz2, g2, hg2, rfl⟩ := prd_mem.mp hv
    have nz1 := ((sD_P (by omega) (by omega) hz1).2 (by omega)).1
    have ng1 := ((sD_P (by omega) (by omega) hg1).1 (by omega)).1
    have pz2 := (sD_P (by omega) (by omega) hz2).2 (by omega)
    have tz := pz2.2 (rowOf z2) (fun _ _ _ => rfl)
    have := tz.2.1 d1 (by omega) (by omega) (by omega)
    refine ⟨d1, by omega, by omega, ?_⟩
    rw [List.append_assoc, List.append_assoc, rowOf_R (fun c => by have := (nz1.2 d1).mp c; omega), rowOf_R (fun c => by have := (ng1.2 d1).mp c; omega), rowOf, if_pos rfl, rowOf_L ((pz2.1.2 d1).mpr (by omega))]
    show (-1 : Int) ≠ rowOf z2 d1
    omega
/-- a number of m digits, the first one highest -/
def Vn (f : Int → Int) (s : Int) : Nat → Int
  | 0 => 0
  | m + 1 => 32 * Vn f s m + (f (s + (m : Int)) + 1)
theorem sumI_0 : ∀ n : Nat, sumI (fun _ => 0) n = 0 := by
  intro n
  induction n with
  | zero => rfl
  | succ n ih => rw [sumI, ih]; rfl
theorem sumI_upd (F : Int → Int → Int) (g : Int → Int) (a b : Int) : ∀ n : Nat, sumI (fun d => F d (if a = d then b else g d)) n = sumI (fun d => F d (g d)) n + (if 0 ≤ a ∧ a < (n : Int) then F a b - F a (g a) else 0) := by
  intro n
  induction n with
  | zero => rw [if_neg (by omega)]; rfl
  | succ n ih =>
    rw [sumI, sumI, ih]
    by_cases c : a = (n : Int)
    · subst c
      rw [if_neg (by omega), if_pos rfl, if_pos (by omega)]
      omega
    · rw [if_neg c]
      by_cases c2 : 0 ≤ a ∧ a < (n : Int)
      · rw [if_pos c2, if_pos (by omega)]; omega
      · rw [if_neg c2, if_neg (by omega)]; omega
theorem hiD_m1 (d : Int) : hiD d (-1) = 0 := by unfold hiD; split <;> simp
theorem loD_m1 (d : Int) : loD d (-1) = 0 := by unfold loD; split <;> simp
theorem sumA {F : Int → Int → Int} {G : Drv → Int} (g0 : G [] = 0) (g1 : ∀ a l, G (a :: l) = F a.1 a.2 + G l) (f1 : ∀ d, F d (-1) = 0) : ∀ x : Drv, (kys x).Nodup → (∀ d ∈ kys x, 0 ≤ d ∧ d < 24) → G x = sumI (fun d => F d (rowOf x d)) 24 := by
  intro x
  induction x with
  | nil =>
    intro _ _
    rw [g0]
    simp only [rowOf, f1]
    exact (sumI_0 24).symm
  | cons a l ih =>
    intro h1 h2
    have h3 := List.nodup_cons.mp (show (a.1 :: kys l).Nodup from h1)
    have h4 := h2 a.1 (by simp [kys])
    rw [g1, ih h3.2 (fun d hd => h2 d (by simp only [kys, List.map_cons, List.mem_cons] at hd ⊢; exact Or.inr hd))]
    simp only [rowOf]
    rw [sumI_upd F (rowOf l) a.1 a.2 24, if_pos (by omega), rowOf_no h3.1, f1]
    omega
theorem p32v : p32 0 = 1 ∧ p32 1 = 32 ∧ p32 2 = 1024 ∧ p32 3 = 32768 ∧ p32 4 = 1048576 ∧ p32 5 = 33554432 ∧ p32 6 = 1073741824 ∧ p32 7 = 34359738368 ∧ p32 8 = 1099511627776 ∧ p32 9 = 35184372088832 ∧ p32 10 = 1125899906842624 ∧ p32 11 = 36028797018963968 := by decide
