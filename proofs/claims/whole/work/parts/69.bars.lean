/-! BARS: least costs with arcs that are barred, and what they tell of the first row -/
theorem row_mem {d : Int} : ∀ {y : Drv}, d ∈ kys y → (d, rowOf y d) ∈ y := by
  intro y
  induction y with
  | nil => intro h; simp [kys] at h
  | cons a l ih =>
    intro h
    simp only [kys, List.map_cons, List.mem_cons] at h
    by_cases c : a.1 = d
    · rw [rowOf, if_pos c, ← c]; exact List.mem_cons_self
    · rw [rowOf, if_neg c]; exact List.mem_cons_of_mem _ (ih (h.resolve_left (fun q => c q.symm)))
theorem mem_row {a b : Int} : ∀ {y : Drv}, (kys y).Nodup → (a, b) ∈ y → rowOf y a = b := by
  intro y
  induction y with
  | nil => intro _ h; cases h
  | cons p l ih =>
    intro h1 h2
    have h3 := List.nodup_cons.mp (show (p.1 :: kys l).Nodup from h1)
    rcases List.mem_cons.mp h2 with q | q
    · rw [← q, rowOf, if_pos rfl]
    · have hk : a ∈ kys l := List.mem_map.mpr ⟨(a, b), q, rfl⟩
      rw [rowOf, if_neg (fun e => h3.1 (by rw [e]; exact hk))]
      exact ih h3.2 q
theorem cO_cg {w w' : Int → Int → Int} : ∀ {y : Drv}, (∀ a b, (a, b) ∈ y → w a b = w' a b) → cO w y = cO w' y := by
  intro y
  induction y with
  | nil => intro _; rfl
  | cons p l ih =>
    intro h
    simp only [cO]
    rw [h p.1 p.2 List.mem_cons_self, ih (fun a b q => h a b (List.mem_cons_of_mem _ q))]
theorem cO_le {w w' : Int → Int → Int} : ∀ {y : Drv}, (∀ a b, (a, b) ∈ y → w a b ≤ w' a b) → cO w y ≤ cO w' y := by
  intro y
  induction y with
  | nil => intro _; exact Int.le_refl _
  | cons p l ih =>
    intro h
    simp only [cO]
    have h1 := h p.1 p.2 List.mem_cons_self
    have h2 := ih (fun a b q => h a b (List.mem_cons_of_mem _ q))
    omega
theorem cO_one {w : Int → Int → Int} (hw : wnn w) {a b : Int} : ∀ {y : Drv}, (a, b) ∈ y → w a b ≤ cO w y := by
  intro y
  induction y with
  | nil => intro h; cases h
  | cons p l ih =>
    intro h
    have n1 := cO_nn hw l
    have n2 := hw p.1 p.2
    simp only [cO]
    rcases List.mem_cons.mp h with q | q
    · have e1 : w a b = w p.1 p.2 := by rw [← q]
      omega
    · have := ih q; omega
/-- arcs of a tree: each of a node, on another one or on none -/
theorem WdP.arc {n : Int} {y : Drv} (h : WdP n y) {a b : Int} (hm : (a, b) ∈ y) : (0 ≤ a ∧ a < n) ∧ (-1 ≤ b ∧ b < n) ∧ a ≠ b := by
  obtain ⟨h1, r, hr, hr2, ht⟩ := h
  have ha : a ∈ kys y := List.mem_map.mpr ⟨(a, b), hm, rfl⟩
  have ha2 := (h1.2 a).mp ha
  have hb := mem_row h1.1 hm
  have T := ht (rowOf y) (fun _ _ _ => rfl)
  by_cases c : a = r
  · subst c; omega
  · have q := T.2.1 a ha2.1 ha2.2 c
    refine ⟨by omega, by omega, fun e => ?_⟩
    obtain ⟨k, _, k1, k2⟩ := T.2.2.1 a ha2.1 ha2.2
    have hst : ∀ k : Nat, itf (rowOf y) k a = a := by
      intro k
      induction k with
      | zero => rfl
      | succ k ih => rw [itf, hb, ← e]; exact ih
    rw [hst k] at k1
    exact c k1
theorem sD_ne : ∀ (m : Nat) (h e : Int), m ≤ 23 → h - e ≤ (m : Int) → e - h ≤ (m : Int) → sD h e ≠ [] := by
  intro m
  induction m with
  | zero =>
    intro h e _ h1 h2
    have c : e = h := by omega
    subst c
    rw [sD_self]; simp
  | succ m ih =>
    intro h e hm h1 h2
    by_cases c1 : h = e
    · subst c1; rw [sD_self]; simp
    by_cases c2 : h < e
    · have q := ih (h + 1) e (by omega) (by omega) (by omega)
      obtain ⟨z, hz⟩ := List.exists_mem_of_ne_nil _ q
      exact List.ne_nil_of_mem (mem_up (h := h) (e := e) (d := h + 1) (k := h) (x := []) (y := []) (z := z) (by omega) (by omega) (by omega) (by omega) (by rw [sD_self]; simp) (by rw [sD_self]; simp) hz)
    · have q := ih (h - 1) e (by omega) (by omega) (by omega)
      obtain ⟨z, hz⟩ := List.exists_mem_of_ne_nil _ q
      exact List.ne_nil_of_mem (mem_dn (h := h) (e := e) (d := h - 1) (k := h - 1) (x := []) (y := []) (z := z) (by omega) (by omega) (by omega) (by omega) hz (by rw [sD_self]; simp) (by rw [show h - 1 + 1 = h by omega, sD_self]; simp))
theorem wD_ne {n : Int} (hn : 1 ≤ n ∧ n ≤ 24) : ∃ y, y ∈ wD n := by
  obtain ⟨z, hz⟩ := List.exists_mem_of_ne_nil _ (sD_ne 23 0 (n - 1) (by omega) (by omega) (by omega))
  exact ⟨[] ++ z ++ [(0, -1)], List.mem_flatMap.mpr ⟨0, mem_rgI.mpr (by omega), prd_mem.mpr ⟨[], by rw [sD_self]; simp, z, hz, rfl⟩⟩⟩
/-- costs without bars -/
def w0 (N : Mm) (d h : Int) : Int := if 0 ≤ d ∧ d < N 66 24 ∧ -1 ≤ h ∧ h < N 66 24 then (if h = -1 then N 91 d else N 90 (24 * h + d)) else 0
/-- the same, 0 where one would hang on itself -/
def w1 (N : Mm) (d h : Int) : Int := if d = h then 0 else w0 N d h
def prSm (M : Mm) : Prop := (∀ d, 0 ≤ d → d < M 66 24 → 0 ≤ M 91 d ∧ M 91 d ≤ 2000) ∧ ∀ h d, 0 ≤ h → h < M 66 24 → 0 ≤ d → d < M 66 24 → (h ≠ d → 0 ≤ M 90 (24 * h + d) ∧ M 90 (24 * h + d) ≤ 2000) ∧ (h = d → M 90 (24 * h + d) = 1000000)
theorem prSm.ok {M : Mm} (h : prSm M) : prOkR M := by
  refine ⟨fun d a b => by have := h.1 d a b; omega, fun x d a b c e => ?_⟩
  by_cases q : x = d
  · have := (h.2 x d a b c e).2 q; omega
  · have := (h.2 x d a b c e).1 q; omega
theorem w1_ok {N : Mm} (h : prSm N) : wOk (w1 N) := by
  intro d x d0 d1 x0 x1
  unfold w1 w0
  split
  · omega
  · next c =>
    split
    · next c2 =>
      split
      · exact h.1 d c2.1 c2.2.1
      · exact (h.2 x d (by omega) c2.2.2.2 c2.1 c2.2.1).1 (fun q => c q.symm)
    · omega
theorem w0_nn {N : Mm} (h : prSm N) : wnn (w0 N) := by
  intro d x
  unfold w0
  split
  · next c2 =>
    split
    · exact (h.1 d c2.1 c2.2.1).1
    · exact (h.ok.2 x d (by omega) c2.2.2.2 c2.1 c2.2.1).1
  · omega
theorem w01 {N : Mm} {n : Int} {y : Drv} (h : WdP n y) : cO (w0 N) y = cO (w1 N) y := cO_cg (fun a b hm => by
  unfold w1
  rw [if_neg (h.arc hm).2.2])
theorem cO_small {N : Mm} (h : prSm N) {n : Int} (hn : 1 ≤ n ∧ n ≤ 24) {y : Drv} (hy : y ∈ wD n) : 0 ≤ cO (w0 N) y ∧ cO (w0 N) y ≤ 48000 := by
  rw [w01 (wD_P hn hy)]
  have := (wD_Bd (w1_ok h) hn y hy).1
  omega
theorem wR_w0 {M : Mm} {d h : Int} (hd : 0 ≤ d ∧ d < M 66 24) (hh : -1 ≤ h ∧ h < M 66 24) : wR M d h = if M 92 (25 * d + h + 1) = 0 then w0 M d h else 1000000 := by
  unfold wR w0
  rw [if_pos (show 0 ≤ d ∧ d < M 66 24 ∧ -1 ≤ h ∧ h < M 66 24 by omega), if_pos (show 0 ≤ d ∧ d < M 66 24 ∧ -1 ≤ h ∧ h < M 66 24 by omega)]
/-- none of the arcs of y is barred -/
def free (M : Mm) (n : Int) (y : Drv) : Prop := ∀ d, 0 ≤ d → d < n → M 92 (25 * d + rowOf y d + 1) = 0
theorem bar_eq {M : Mm} {y : Drv} (h : WdP (M 66 24) y) (hf : free M (M 66 24) y) : cO (wR M) y = cO (w0 M) y := cO_cg (fun a b hm => by
  have q := h.arc hm
  rw [wR_w0 q.1 q.2.1, ← mem_row h.1.1 hm, if_pos (hf a q.1.1 q.1.2)])
theorem bar_ge {M : Mm} (hp : prSm M) {y : Drv} (h : WdP (M 66 24) y) : cO (w0 M) y ≤ cO (wR M) y := cO_le (fun a b hm => by
  have q := h.arc hm
  rw [wR_w0 q.1 q.2.1]
  split
  · exact Int.le_refl _
  · have := w1_ok hp
    unfold w0
    rw [if_pos (by omega)]
    split
    · have := hp.1 a q.1.1 q.1.2; omega
    · exact (hp.ok.2 b a (by omega) q.2.1.2 q.1.1 q.1.2).2)
theorem bar_far {M : Mm} (hp : prSm M) {y : Drv} (h : WdP (M 66 24) y) (hf : ¬ free M (M 66 24) y) : 1000000 ≤ cO (wR M) y := by
  apply Classical.byContradiction
  intro hc
  apply hf
  intro d d0 d1
  apply Classical.byContradiction
  intro hd
  have hm := row_mem ((h.1.2 d).mpr ⟨d0, by omega⟩)
  have q := h.arc hm
  have e := wR_w0 (M := M) q.1 q.2.1
  rw [if_neg hd] at e
  have := cO_one (wR_nn hp.ok) hm
  omega
/-- what least() tells -/
theorem Lv_free {M : Mm} (hp : prSm M) (hn : 1 ≤ M 66 24 ∧ M 66 24 ≤ 24) {z : Int} (h : Lv (wR M) (wD (M 66 24)) z) : z ≤ 1000000 ∧ 0 ≤ z ∧ (∀ y ∈ wD (M 66 24), free M (M 66 24) y → z ≤ cO (w0 M) y) ∧ (z = 1000000 ∨ ∃ y ∈ wD (M 66 24), free M (M 66 24) y ∧ z = cO (w0 M) y) := by
  refine ⟨h.1, (h.nn (wR_nn hp.ok)).1, fun y hy hf => ?_, ?_⟩
  · have := h.2.1 y hy
    rw [bar_eq (wD_P hn hy) hf] at this
    exact this
  · rcases h.2.2 with q | ⟨y, hy, q⟩
    · exact Or.inl q
    · by_cases hf : free M (M 66 24) y
      · exact Or.inr ⟨y, hy, hf, by rw [q, bar_eq (wD_P hn hy) hf]⟩
      · left
        have := bar_far hp (wD_P hn hy) hf
        have := h.1
        omega
/-- heads 0 .. d - 1 are those of the first row that costs c -/
def HD (w : Int → Int → Int) (n c : Int) (f : Int → Int) (d : Int) : Prop := (∃ y ∈ wD n, cO w y = c ∧ ∀ k, 0 ≤ k → k < d → rowOf y k = f k) ∧ ∀ y ∈ wD n, cO w y = c → ∀ d', 0 ≤ d' → d' < d → (∀ k, 0 ≤ k → k < d' → rowOf y k = f k) → f d' ≤ rowOf y d'
def isMin (w : Int → Int → Int) (n c : Int) : Prop := (∀ y ∈ wD n, c ≤ cO w y) ∧ ∃ y ∈ wD n, cO w y = c
theorem HD.best {w : Int → Int → Int} {n c : Int} {f : Int → Int} (hm : isMin w n c) (h : HD w n c f n) : ∃ x, isBest w n x ∧ c = cO w x ∧ ∀ d, 0 ≤ d → d < n → f d = rowOf x d := by
  obtain ⟨⟨y, hy, h1, h2⟩, h3⟩ := h
  refine ⟨y, ⟨hy, fun y' hy' => by rw [h1]; exact hm.1 y' hy', fun y' hy' hc d d0 d1 hk => ?_⟩, h1.symm, fun d d0 d1 => (h2 d d0 d1).symm⟩
  rw [h2 d d0 d1]
  exact h3 y' hy' (hc.trans h1) d d0 d1 (fun k k0 k1 => by rw [hk k k0 k1]; exact h2 k k0 (by omega))
/-- the least cost of those that differ from f at one of 0 .. d - 1 -/
def Nx (w : Int → Int → Int) (n : Int) (f : Int → Int) (d c : Int) : Prop := c ≤ 1000000 ∧ (∀ y ∈ wD n, (∃ k, 0 ≤ k ∧ k < d ∧ rowOf y k ≠ f k) → c ≤ cO w y) ∧ (c = 1000000 ∨ ∃ y ∈ wD n, (∃ k, 0 ≤ k ∧ k < d ∧ rowOf y k ≠ f k) ∧ cO w y = c)
theorem Nx.next {w : Int → Int → Int} {n c : Int} {f : Int → Int} {x : Drv} (hf : ∀ d, 0 ≤ d → d < n → f d = rowOf x d) (h : Nx w n f n c) : isNext w n x 1000000 c := by
  refine ⟨h.1, fun y hy ⟨d, d0, d1, d2⟩ => h.2.1 y hy ⟨d, d0, by omega, by rw [hf d d0 (by omega)]; exact d2⟩, h.2.2.elim Or.inl (fun ⟨y, hy, ⟨k, k0, k1, k2⟩, q⟩ => Or.inr ⟨y, hy, ⟨k, k0, by omega, by rw [← hf k k0 k1]; exact k2⟩, q⟩)⟩
def B1z (w : Int → Int → Int) (n : Int) (f : Int → Int) (d z : Int) : Prop := z ≤ 1000000 ∧ (∀ y ∈ wD n, rowOf y d ≠ f d → z ≤ cO w y) ∧ (z = 1000000 ∨ ∃ y ∈ wD n, rowOf y d ≠ f d ∧ z = cO w y)
theorem Nx.more {w : Int → Int → Int} {n c z d : Int} {f : Int → Int} (hd : 0 ≤ d) (h : Nx w n f d c) (hz : B1z w n f d z) : Nx w n f (d + 1) (if z < c then z else c) := by
  obtain ⟨h1, h2, h3⟩ := h
  obtain ⟨z1, z2, z3⟩ := hz
  refine ⟨by split <;> assumption, fun y hy ⟨k, k0, k1, k2⟩ => ?_, ?_⟩
  · by_cases ck : k = d
    · subst ck
      have := z2 y hy k2
      clear h3 z3
      split <;> omega
    · have := h2 y hy ⟨k, k0, Int.lt_iff_le_and_ne.mpr ⟨Int.lt_add_one_iff.mp k1, ck⟩, k2⟩
      clear h3 z3
      split <;> omega
  · split
    · rcases z3 with q | ⟨y, hy, q1, q2⟩
      · exact Or.inl q
      · exact Or.inr ⟨y, hy, ⟨d, hd, Int.lt_add_one_iff.mpr (Int.le_refl _), q1⟩, q2.symm⟩
    · rcases h3 with q | ⟨y, hy, ⟨k, k0, k1, k2⟩, q⟩
      · exact Or.inl q
      · exact Or.inr ⟨y, hy, ⟨k, k0, Int.lt_trans k1 (Int.lt_add_one_iff.mpr (Int.le_refl _)), k2⟩, q⟩
