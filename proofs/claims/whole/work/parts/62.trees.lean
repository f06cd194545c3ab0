/-! TREES: what the derivations of part 18 are as rows of heads -/
def rowOf : Drv → Int → Int
  | [], _ => -1
  | a :: l, d => if a.1 = d then a.2 else rowOf l d
def kys (x : Drv) : List Int := x.map (fun a => a.1)
theorem kys_app (x y : Drv) : kys (x ++ y) = kys x ++ kys y := by simp [kys]
theorem rowOf_no {d : Int} : ∀ {x : Drv}, d ∉ kys x → rowOf x d = -1 := by
  intro x
  induction x with
  | nil => intro _; rfl
  | cons a l ih =>
    intro h
    simp only [kys, List.map_cons, List.mem_cons, not_or] at h
    rw [rowOf, if_neg (fun q => h.1 q.symm)]
    exact ih h.2
theorem rowOf_L {d : Int} {y : Drv} : ∀ {x : Drv}, d ∈ kys x → rowOf (x ++ y) d = rowOf x d := by
  intro x
  induction x with
  | nil => intro h; simp [kys] at h
  | cons a l ih =>
    intro h
    simp only [kys, List.map_cons, List.mem_cons] at h
    simp only [List.cons_append, rowOf]
    by_cases c : a.1 = d
    · rw [if_pos c, if_pos c]
    · rw [if_neg c, if_neg c]
      exact ih (h.resolve_left (fun q => c q.symm))
theorem rowOf_R {d : Int} {y : Drv} : ∀ {x : Drv}, d ∉ kys x → rowOf (x ++ y) d = rowOf y d := by
  intro x
  induction x with
  | nil => intro _; rfl
  | cons a l ih =>
    intro h
    simp only [kys, List.map_cons, List.mem_cons, not_or] at h
    simp only [List.cons_append, rowOf]
    rw [if_neg (fun q => h.1 q.symm)]
    exact ih h.2
/-- x has just the nodes a .. b, each once -/
def Nd (a b : Int) (x : Drv) : Prop := (kys x).Nodup ∧ ∀ d, d ∈ kys x ↔ a ≤ d ∧ d ≤ b
theorem Nd_nil {a b : Int} (h : b < a) : Nd a b [] := ⟨List.nodup_nil, fun d => ⟨fun q => by simp [kys] at q, fun q => by omega⟩⟩
theorem Nd_one (d h : Int) : Nd d d [(d, h)] := ⟨by simp [kys], fun k => by simp only [kys, List.map_cons, List.map_nil, List.mem_singleton]; omega⟩
theorem Nd_app {a m b : Int} {x y : Drv} (hx : Nd a m x) (hy : Nd (m + 1) b y) (h1 : a ≤ m + 1) (h2 : m ≤ b) : Nd a b (x ++ y) := by
  refine ⟨?_, fun d => ?_⟩
  · rw [kys_app]
    refine List.nodup_append.mpr ⟨hx.1, hy.1, fun p hp q hq e => ?_⟩
    have := (hx.2 p).mp hp
    have := (hy.2 q).mp hq
    omega
  · rw [kys_app, List.mem_append, hx.2, hy.2]
    omega
theorem Nd_app' {a m b : Int} {x y : Drv} (hx : Nd (m + 1) b x) (hy : Nd a m y) (h1 : a ≤ m + 1) (h2 : m ≤ b) : Nd a b (x ++ y) := by
  refine ⟨?_, fun d => ?_⟩
  · rw [kys_app]
    refine List.nodup_append.mpr ⟨hx.1, hy.1, fun p hp q hq e => ?_⟩
    have := (hx.2 p).mp hp
    have := (hy.2 q).mp hq
    omega
  · rw [kys_app, List.mem_append, hx.2, hy.2]
    omega
def itf (f : Int → Int) : Nat → Int → Int
  | 0, d => d
  | k + 1, d => itf f k (f d)
theorem itf_add (f : Int → Int) (a : Nat) : ∀ (b : Nat) (d : Int), itf f (b + a) d = itf f a (itf f b d) := by
  intro b
  induction b with
  | zero => intro d; rw [Nat.zero_add]; rfl
  | succ b ih => intro d; rw [show b + 1 + a = (b + a) + 1 by omega]; exact ih (f d)
/-- i stands on the way from d up to r -/
def Onw (f : Int → Int) (r i d : Int) : Prop := ∃ k : Nat, itf f k d = i ∧ ∀ j, j < k → itf f j d ≠ r
theorem Onw.self (f : Int → Int) (r i : Int) : Onw f r i i := ⟨0, rfl, fun j hj => absurd hj (Nat.not_lt_zero _)⟩
theorem Onw.step {f : Int → Int} {r i d : Int} (h : Onw f r i (f d)) (hd : d ≠ r) : Onw f r i d := by
  obtain ⟨k, h1, h2⟩ := h
  refine ⟨k + 1, h1, fun j hj => ?_⟩
  cases j with
  | zero => exact hd
  | succ j => exact h2 j (by omega)
theorem Onw.cs {f : Int → Int} {r i d : Int} (h : Onw f r i d) : d = i ∨ (d ≠ r ∧ Onw f r i (f d)) := by
  obtain ⟨k, h1, h2⟩ := h
  cases k with
  | zero => exact Or.inl h1
  | succ k => exact Or.inr ⟨h2 0 (by omega), k, h1, fun j hj => h2 (j + 1) (by omega)⟩
/-- f is, on a .. b, a tree of root r whose parts stand side by side -/
def Tr (f : Int → Int) (a b r : Int) : Prop := (a ≤ r ∧ r ≤ b) ∧ (∀ d, a ≤ d → d ≤ b → d ≠ r → a ≤ f d ∧ f d ≤ b) ∧
  (∀ d, a ≤ d → d ≤ b → ∃ k : Nat, (k : Int) ≤ b - a ∧ itf f k d = r ∧ ∀ j, j < k → itf f j d ≠ r) ∧
  ∀ i, a ≤ i → i ≤ b → ∃ l u, (a ≤ l ∧ l ≤ i ∧ i ≤ u ∧ u ≤ b) ∧ ∀ d, a ≤ d → d ≤ b → (Onw f r i d ↔ l ≤ d ∧ d ≤ u)
theorem Tr.stay {f : Int → Int} {a b r : Int} (h : Tr f a b r) : ∀ (k : Nat) (d : Int), a ≤ d → d ≤ b → (∀ j, j < k → itf f j d ≠ r) → a ≤ itf f k d ∧ itf f k d ≤ b := by
  intro k
  induction k with
  | zero => intro d h1 h2 _; exact ⟨h1, h2⟩
  | succ k ih =>
    intro d h1 h2 h3
    have q := h.2.1 d h1 h2 (h3 0 (by omega))
    exact ih (f d) q.1 q.2 (fun j hj => h3 (j + 1) (by omega))
theorem Tr.inn {f : Int → Int} {a b r i d : Int} (h : Tr f a b r) (h1 : a ≤ d) (h2 : d ≤ b) (ho : Onw f r i d) : a ≤ i ∧ i ≤ b := by
  obtain ⟨k, q1, q2⟩ := ho
  have := h.stay k d h1 h2 q2
  rw [q1] at this
  exact this
theorem Tr.up {f : Int → Int} {a b r d : Int} (h : Tr f a b r) (h1 : a ≤ d) (h2 : d ≤ b) : Onw f r r d := by
  obtain ⟨k, _, q1, q2⟩ := h.2.2.1 d h1 h2
  exact ⟨k, q1, q2⟩
theorem Onw.root {f : Int → Int} {r i : Int} (h : Onw f r i r) : i = r := by
  rcases h.cs with q | ⟨q, _⟩
  · exact q.symm
  · exact absurd rfl q
theorem Tr_one (f : Int → Int) (d : Int) : Tr f d d d := by
  refine ⟨⟨Int.le_refl _, Int.le_refl _⟩, fun x h1 h2 h3 => by omega, fun x h1 h2 => ⟨0, by omega, by rw [itf]; omega, fun j hj => absurd hj (Nat.not_lt_zero _)⟩, fun i h1 h2 => ⟨d, d, by omega, fun x g1 g2 => ?_⟩⟩
  have e1 : x = d := by omega
  have e2 : i = d := by omega
  subst e1; subst e2
  exact ⟨fun _ => by omega, fun _ => Onw.self f _ _⟩
/-- two sides of one root -/
theorem Tr_both {f : Int → Int} {a d b : Int} (h1 : Tr f a d d) (h2 : Tr f d b d) : Tr f a b d := by
  have ad := h1.1.1
  have db := h2.1.2
  refine ⟨⟨ad, db⟩, fun x g1 g2 g3 => ?_, fun x g1 g2 => ?_, fun i g1 g2 => ?_⟩
  · by_cases c : x ≤ d
    · have := h1.2.1 x g1 c g3; omega
    · have := h2.2.1 x (by omega) g2 g3; omega
  · by_cases c : x ≤ d
    · obtain ⟨k, q1, q2⟩ := h1.2.2.1 x g1 c; exact ⟨k, by omega, q2⟩
    · obtain ⟨k, q1, q2⟩ := h2.2.2.1 x (by omega) g2; exact ⟨k, by omega, q2⟩
  · by_cases ci : i = d
    · subst ci
      refine ⟨a, b, by omega, fun x x1 x2 => ⟨fun _ => by omega, fun _ => ?_⟩⟩
      by_cases c : x ≤ i
      · exact h1.up x1 c
      · exact h2.up (by omega) x2
    · by_cases c0 : i ≤ d
      · obtain ⟨l, u, q1, q2⟩ := h1.2.2.2 i g1 c0
        have hu : u < d := by
          by_cases c9 : u < d
          · exact c9
          · exact absurd ((q2 d ad (Int.le_refl _)).mpr (by omega)).root ci
        refine ⟨l, u, by omega, fun x x1 x2 => ?_⟩
        by_cases c : x ≤ d
        · exact q2 x x1 c
        · refine ⟨fun ho => ?_, fun q => by omega⟩
          have := h2.inn (by omega) x2 ho
          omega
      · obtain ⟨l, u, q1, q2⟩ := h2.2.2.2 i (by omega) g2
        have hl : d < l := by
          by_cases c9 : d < l
          · exact c9
          · exact absurd ((q2 d (Int.le_refl _) db).mpr (by omega)).root ci
        refine ⟨l, u, by omega, fun x x1 x2 => ?_⟩
        by_cases c : d ≤ x
        · exact q2 x c x2
        · refine ⟨fun ho => ?_, fun q => by omega⟩
          have := h1.inn x1 (by omega) ho
          omega
/-- the way through a part that hangs on r from outside -/
theorem Onw.more {f : Int → Int} {a b s r : Int} (h : Tr f a b s) (hr : r < a ∨ b < r) {i : Int} : ∀ {d : Int}, a ≤ d → d ≤ b → a ≤ i → i ≤ b → f s = r → (Onw f r i d ↔ Onw f s i d) := by
  intro d d1 d2 i1 i2 hs
  constructor
  · rintro ⟨k, q1, q2⟩
    obtain ⟨m, m0, m1, m2⟩ := h.2.2.1 d d1 d2
    by_cases c : k ≤ m
    · exact ⟨k, q1, fun j hj => m2 j (by omega)⟩
    · exfalso
      have e1 : itf f (m + 1) d = r := by rw [itf_add, m1]; exact hs
      by_cases c2 : m + 1 < k
      · exact q2 (m + 1) c2 e1
      · rw [show k = m + 1 by omega, e1] at q1
        omega
  · rintro ⟨k, q1, q2⟩
    refine ⟨k, q1, fun j hj => ?_⟩
    have := h.stay j d d1 d2 (fun j2 h2 => q2 j2 (by omega))
    omega
theorem Onw.outr {f : Int → Int} {a b s r : Int} (h : Tr f a b s) (hr : r < a ∨ b < r) {d : Int} (d1 : a ≤ d) (d2 : d ≤ b) (hs : f s = r) : Onw f r r d ∧ ∀ i, (i < a ∨ b < i) → Onw f r i d → i = r := by
  obtain ⟨m, m0, m1, m2⟩ := h.2.2.1 d d1 d2
  have e1 : itf f (m + 1) d = r := by rw [itf_add, m1]; exact hs
  have ei : ∀ j, j ≤ m → a ≤ itf f j d ∧ itf f j d ≤ b := fun j hj => h.stay j d d1 d2 (fun j2 h2 => m2 j2 (by omega))
  refine ⟨⟨m + 1, e1, fun j hj => by have := ei j (by omega); omega⟩, fun i hi ⟨k, q1, q2⟩ => ?_⟩
  by_cases c : k ≤ m
  · have := ei k c; omega
  · by_cases c2 : m + 1 < k
    · exact absurd e1 (q2 (m + 1) c2)
    · rw [show k = m + 1 by omega, e1] at q1; exact q1.symm
/-- a part hung behind -/
theorem Tr_hangR {f : Int → Int} {a m b r s : Int} (h1 : Tr f a m r) (h2 : Tr f (m + 1) b s) (hs : f s = r) : Tr f a b r := by
  have q1 := h1.1
  have q2 := h2.1
  refine ⟨by omega, fun x g1 g2 g3 => ?_, fun x g1 g2 => ?_, fun i g1 g2 => ?_⟩
  · by_cases c : x ≤ m
    · have := h1.2.1 x g1 c g3; omega
    · by_cases cs : x = s
      · subst cs; omega
      · have := h2.2.1 x (by omega) g2 cs; omega
  · by_cases c : x ≤ m
    · obtain ⟨k, k1, k2⟩ := h1.2.2.1 x g1 c; exact ⟨k, by omega, k2⟩
    · obtain ⟨k, k0, k1, k2⟩ := h2.2.2.1 x (by omega) g2
      refine ⟨k + 1, by omega, by rw [itf_add, k1]; exact hs, fun j hj => ?_⟩
      have := h2.stay j x (by omega) g2 (fun j2 h2 => k2 j2 (by omega))
      omega
  · by_cases c0 : i ≤ m
    · by_cases ci : i = r
      · subst ci
        refine ⟨a, b, by omega, fun x x1 x2 => ⟨fun _ => by omega, fun _ => ?_⟩⟩
        by_cases c : x ≤ m
        · exact h1.up x1 c
        · exact (Onw.outr h2 (by omega) (by omega) x2 hs).1
      · obtain ⟨l, u, w1, w2⟩ := h1.2.2.2 i g1 c0
        refine ⟨l, u, by omega, fun x x1 x2 => ?_⟩
        by_cases c : x ≤ m
        · exact w2 x x1 c
        · refine ⟨fun ho => ?_, fun q => by omega⟩
          exact absurd ((Onw.outr h2 (by omega) (by omega) x2 hs).2 i (by omega) ho) ci
    · obtain ⟨l, u, w1, w2⟩ := h2.2.2.2 i (by omega) g2
      refine ⟨l, u, by omega, fun x x1 x2 => ?_⟩
      by_cases c : x ≤ m
      · refine ⟨fun ho => ?_, fun q => by omega⟩
        have := h1.inn x1 c ho
        omega
      · rw [Onw.more h2 (by omega) (by omega) x2 (by omega) g2 hs]
        exact w2 x (by omega) x2
/-- a part hung ahead -/
theorem Tr_hangL {f : Int → Int} {a m b r s : Int} (h1 : Tr f a m s) (h2 : Tr f (m + 1) b r) (hs : f s = r) : Tr f a b r := by
  have q1 := h1.1
  have q2 := h2.1
  refine ⟨by omega, fun x g1 g2 g3 => ?_, fun x g1 g2 => ?_, fun i g1 g2 => ?_⟩
  · by_cases c : x ≤ m
    · by_cases cs : x = s
      · subst cs; omega
      · have := h1.2.1 x g1 c cs; omega
    · have := h2.2.1 x (by omega) g2 g3; omega
  · by_cases c : x ≤ m
    · obtain ⟨k, k0, k1, k2⟩ := h1.2.2.1 x g1 c
      refine ⟨k + 1, by omega, by rw [itf_add, k1]; exact hs, fun j hj => ?_⟩
      have := h1.stay j x g1 c (fun j2 h2 => k2 j2 (by omega))
      omega
    · obtain ⟨k, k1, k2⟩ := h2.2.2.1 x (by omega) g2; exact ⟨k, by omega, k2⟩
  · by_cases c0 : i ≤ m
    · obtain ⟨l, u, w1, w2⟩ := h1.2.2.2 i g1 c0
      refine ⟨l, u, by omega, fun x x1 x2 => ?_⟩
      by_cases c : x ≤ m
      · rw [Onw.more h1 (by omega) x1 c g1 c0 hs]
        exact w2 x x1 c
      · refine ⟨fun ho => ?_, fun q => by omega⟩
        have := h2.inn (by omega) x2 ho
        omega
    · by_cases ci : i = r
      · subst ci
        refine ⟨a, b, by omega, fun x x1 x2 => ⟨fun _ => by omega, fun _ => ?_⟩⟩
        by_cases c : x ≤ m
        · exact (Onw.outr h1 (by omega) x1 c hs).1
        · exact h2.up (by omega) x2
      · obtain ⟨l, u, w1, w2⟩ := h2.2.2.2 i (by omega) g2
        refine ⟨l, u, by omega, fun x x1 x2 => ?_⟩
        by_cases c : x ≤ m
        · refine ⟨fun ho => ?_, fun q => by omega⟩
          exact absurd ((Onw.outr h1 (by omega) x1 c hs).2 i (by omega) ho) ci
        · exact w2 x (by omega) x2
/-- how the derivations of a side are made -/
theorem sD_ind (P : Int → Int → Drv → Prop) (base : ∀ h, P h h [])
    (up : ∀ h e d k x y z, h ≤ k → k < d → d ≤ e → x ∈ sD h k → y ∈ sD d (k + 1) → z ∈ sD d e → P h k x → P d (k + 1) y → P d e z → P h e (x ++ y ++ [] ++ z ++ [(d, h)]))
    (dn : ∀ h e d k x y z, e ≤ d → d ≤ k → k < h → z ∈ sD d e → x ∈ sD d k → y ∈ sD h (k + 1) → P d e z → P d k x → P h (k + 1) y → P h e (z ++ (x ++ y ++ []) ++ [(d, h)])) :
    ∀ (m : Nat) (h e : Int), m ≤ 23 → h - e ≤ (m : Int) → e - h ≤ (m : Int) → ∀ x ∈ sD h e, P h e x := by
  intro m
  induction m with
  | zero =>
    intro h e _ h1 h2 x hx
    have e1 : e = h := by omega
    subst e1
    rw [sD_self, List.mem_singleton] at hx
    subst hx
    exact base e
  | succ m ih =>
    intro h e hm h1 h2 x hx
    by_cases c1 : h = e
    · subst c1
      rw [sD_self, List.mem_singleton] at hx
      subst hx
      exact base h
    by_cases c2 : h < e
    · rw [sD_up c2 (by omega)] at hx
      obtain ⟨d, hd, hx2⟩ := List.mem_flatMap.mp hx
      have hd2 := mem_rgI.mp hd
      obtain ⟨g, hg, z, hz, rfl⟩ := prd_mem.mp hx2
      obtain ⟨k, hk, hg2⟩ := List.mem_flatMap.mp hg
      have hk2 := mem_rgI.mp hk
      obtain ⟨x, hxx, y, hy, rfl⟩ := prd_mem.mp hg2
      exact up h e d k x y z (by omega) (by omega) (by omega) hxx hy hz (ih h k (by omega) (by omega) (by omega) x hxx) (ih d (k + 1) (by omega) (by omega) (by omega) y hy) (ih d e (by omega) (by omega) (by omega) z hz)
    · rw [sD_dn (by omega) (by omega)] at hx
      obtain ⟨d, hd, hx2⟩ := List.mem_flatMap.mp hx
      have hd2 := mem_rgI.mp hd
      obtain ⟨z, hz, g, hg, rfl⟩ := prd_mem.mp hx2
      obtain ⟨k, hk, hg2⟩ := List.mem_flatMap.mp hg
      have hk2 := mem_rgI.mp hk
      obtain ⟨x, hxx, y, hy, rfl⟩ := prd_mem.mp hg2
      exact dn h e d k x y z (by omega) (by omega) (by omega) hz hxx hy (ih d e (by omega) (by omega) (by omega) z hz) (ih d k (by omega) (by omega) (by omega) x hxx) (ih h (k + 1) (by omega) (by omega) (by omega) y hy)
def SdP (h e : Int) (x : Drv) : Prop := (h ≤ e → Nd (h + 1) e x ∧ ∀ f : Int → Int, (∀ d, h < d → d ≤ e → f d = rowOf x d) → Tr f h e h) ∧ (e ≤ h → Nd e (h - 1) x ∧ ∀ f : Int → Int, (∀ d, e ≤ d → d < h → f d = rowOf x d) → Tr f e h h)
theorem sD_P {h e : Int} (h1 : h - e ≤ 23) (h2 : e - h ≤ 23) {x : Drv} (hx : x ∈ sD h e) : SdP h e x := by
  refine sD_ind SdP ?_ ?_ ?_ 23 h e (by omega) (by omega) (by omega) x hx
  · intro h
    exact ⟨fun _ => ⟨Nd_nil (by omega), fun f _ => Tr_one f h⟩, fun _ => ⟨Nd_nil (by omega), fun f _ => Tr_one f h⟩⟩
  · intro h e d k x y z hk hd he _ _ _ px py pz
    refine ⟨fun _ => ?_, fun q => by omega⟩
    obtain ⟨n1, t1⟩ := px.1 hk
    obtain ⟨n2, t2⟩ := py.2 (by omega)
    obtain ⟨n3, t3⟩ := pz.1 he
    have nxy : Nd (h + 1) (d - 1) (x ++ y ++ []) := by
      rw [List.append_nil]
      exact Nd_app n1 n2 (by omega) (by omega)
    have n4 : Nd (h + 1) e (x ++ y ++ [] ++ z ++ [(d, h)]) := by
      rw [List.append_assoc]
      refine Nd_app nxy (b := e) ?_ (by omega) (by omega)
      rw [show d - 1 + 1 = d by omega]
      exact Nd_app' n3 (Nd_one d h) (by omega) (by omega)
    refine ⟨n4, fun f hf => ?_⟩
    have kx : ∀ q, q ∈ kys x ↔ h + 1 ≤ q ∧ q ≤ k := n1.2
    have ky : ∀ q, q ∈ kys y ↔ k + 1 ≤ q ∧ q ≤ d - 1 := n2.2
    have kz : ∀ q, q ∈ kys z ↔ d + 1 ≤ q ∧ q ≤ e := n3.2
    have kxy : ∀ q, q ∈ kys (x ++ y ++ []) ↔ h + 1 ≤ q ∧ q ≤ d - 1 := nxy.2
    have a1 : Tr f h k h := t1 f (fun q q1 q2 => by
      rw [hf q q1 (by omega), List.append_assoc, rowOf_L ((kxy q).mpr (by omega)), List.append_nil, rowOf_L ((kx q).mpr (by omega))])
    have a2 : Tr f (k + 1) d d := t2 f (fun q q1 q2 => by
      rw [hf q (by omega) (by omega), List.append_assoc, rowOf_L ((kxy q).mpr (by omega)), List.append_nil, rowOf_R (fun c => by have := (kx q).mp c; omega)])
    have a3 : Tr f d e d := t3 f (fun q q1 q2 => by
      rw [hf q (by omega) (by omega), List.append_assoc, rowOf_R (fun c => by have := (kxy q).mp c; omega), rowOf_L ((kz q).mpr (by omega))])
    have a4 : f d = h := by
      rw [hf d (by omega) (by omega), List.append_assoc, rowOf_R (fun c => by have := (kxy d).mp c; omega), rowOf_R (fun c => by have := (kz d).mp c; omega), rowOf, if_pos rfl]
    exact Tr_hangR a1 (Tr_both a2 a3) a4
  · intro h e d k x y z he hd hk _ _ _ pz px py
    refine ⟨fun q => by omega, fun _ => ?_⟩
    obtain ⟨n1, t1⟩ := px.1 hd
    obtain ⟨n2, t2⟩ := py.2 (by omega)
    obtain ⟨n3, t3⟩ := pz.2 he
    have nxy : Nd (d + 1) (h - 1) (x ++ y ++ []) := by
      rw [List.append_nil]
      exact Nd_app n1 n2 (by omega) (by omega)
    have nw : Nd d (h - 1) (x ++ y ++ [] ++ [(d, h)]) := Nd_app' nxy (Nd_one d h) (by omega) (by omega)
    have n4 : Nd e (h - 1) (z ++ (x ++ y ++ []) ++ [(d, h)]) := by
      rw [List.append_assoc]
      refine Nd_app n3 ?_ (by omega) (by omega)
      rw [show d - 1 + 1 = d by omega]
      exact nw
    refine ⟨n4, fun f hf => ?_⟩
    have kx : ∀ q, q ∈ kys x ↔ d + 1 ≤ q ∧ q ≤ k := n1.2
    have ky : ∀ q, q ∈ kys y ↔ k + 1 ≤ q ∧ q ≤ h - 1 := n2.2
    have kz : ∀ q, q ∈ kys z ↔ e ≤ q ∧ q ≤ d - 1 := n3.2
    have kxy : ∀ q, q ∈ kys (x ++ y ++ []) ↔ d + 1 ≤ q ∧ q ≤ h - 1 := nxy.2
    have a1 : Tr f d k d := t1 f (fun q q1 q2 => by
      rw [hf q (by omega) (by omega), List.append_assoc, rowOf_R (fun c => by have := (kz q).mp c; omega), rowOf_L ((kxy q).mpr (by omega)), List.append_nil, rowOf_L ((kx q).mpr (by omega))])
    have a2 : Tr f (k + 1) h h := t2 f (fun q q1 q2 => by
      rw [hf q (by omega) (by omega), List.append_assoc, rowOf_R (fun c => by have := (kz q).mp c; omega), rowOf_L ((kxy q).mpr (by omega)), List.append_nil, rowOf_R (fun c => by have := (kx q).mp c; omega)])
    have a3 : Tr f e d d := t3 f (fun q q1 q2 => by
      rw [hf q (by omega) (by omega), List.append_assoc, rowOf_L ((kz q).mpr (by omega))])
    have a4 : f d = h := by
      rw [hf d (by omega) (by omega), List.append_assoc, rowOf_R (fun c => by have := (kz d).mp c; omega), rowOf_R (fun c => by have := (kxy d).mp c; omega), rowOf, if_pos rfl]
    exact Tr_hangL (Tr_both a3 a1) a2 a4
/-- what a whole tree is -/
def WdP (n : Int) (x : Drv) : Prop := Nd 0 (n - 1) x ∧ ∃ r, (0 ≤ r ∧ r < n) ∧ rowOf x r = -1 ∧ ∀ f : Int → Int, (∀ d, 0 ≤ d → d < n → f d = rowOf x d) → Tr f 0 (n - 1) r
theorem wD_P {n : Int} (hn : 1 ≤ n ∧ n ≤ 24) {x : Drv} (hx : x ∈ wD n) : WdP n x := by
  obtain ⟨r, hr, hx2⟩ := List.mem_flatMap.mp hx
  have hr2 := mem_rgI.mp hr
  obtain ⟨a, ha, b, hb, rfl⟩ := prd_mem.mp hx2
  obtain ⟨n1, t1⟩ := (sD_P (by omega) (by omega) ha).2 (by omega)
  obtain ⟨n2, t2⟩ := (sD_P (by omega) (by omega) hb).1 (by omega)
  have ka := n1.2
  have kb' := n2.2
  refine ⟨?_, r, by omega, ?_, fun f hf => ?_⟩
  · rw [List.append_assoc]
    refine Nd_app n1 ?_ (by omega) (by omega)
    rw [show r - 1 + 1 = r by omega]
    exact Nd_app' n2 (Nd_one r (-1)) (by omega) (by omega)
  · rw [List.append_assoc, rowOf_R (fun c => by have := (ka r).mp c; omega), rowOf_R (fun c => by have := (kb' r).mp c; omega), rowOf, if_pos rfl]
  · refine Tr_both (t1 f (fun q q1 q2 => ?_)) (t2 f (fun q q1 q2 => ?_))
    · rw [hf q q1 (by omega), List.append_assoc, rowOf_L ((ka q).mpr (by omega))]
    · rw [hf q (by omega) (by omega), List.append_assoc, rowOf_R (fun c => by have := (ka q).mp c; omega), rowOf_L ((kb' q).mpr (by omega))]
