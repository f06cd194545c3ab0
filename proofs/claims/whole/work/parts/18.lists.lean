/-! the lists of derivations that the forest's cells stand for -/
def rgI (a b : Int) : List Int := (List.range (b + 1 - a).toNat).map (fun k : Nat => a + (k : Int))
theorem mem_rgI {a b d : Int} : d ∈ rgI a b ↔ a ≤ d ∧ d ≤ b := by
  simp only [rgI, List.mem_map, List.mem_range]
  constructor
  · rintro ⟨k, h1, rfl⟩; omega
  · intro h; exact ⟨(d - a).toNat, by omega, by omega⟩
theorem rgI_nil {a b : Int} (h : b < a) : rgI a b = [] := by
  simp [rgI, show (b + 1 - a).toNat = 0 by omega]
theorem rgI_succ {a b : Int} (h : a ≤ b + 1) : rgI a (b + 1) = rgI a b ++ [b + 1] := by
  simp only [rgI]
  rw [show (b + 1 + 1 - a).toNat = (b + 1 - a).toNat + 1 by omega, List.range_succ, List.map_append]
  simp only [List.map_cons, List.map_nil]
  rw [show a + ((b + 1 - a).toNat : Int) = b + 1 by omega]
def dGf (S : Int → Int → List Drv) (i j : Int) : List Drv := (rgI i (j - 1)).flatMap (fun k => prd (S i k) (S j (k + 1)) [])
def dS : Nat → Int → Int → List Drv
  | 0, h, e => if h = e then [[]] else []
  | f + 1, h, e => if h = e then [[]] else if h < e then (rgI (h + 1) e).flatMap (fun d => prd (dGf (dS f) h d) (dS f d e) [(d, h)]) else (rgI e (h - 1)).flatMap (fun d => prd (dS f d e) (dGf (dS f) d h) [(d, h)])
theorem fm_congr {α β : Type} {l : List α} {f g : α → List β} (h : ∀ a ∈ l, f a = g a) : l.flatMap f = l.flatMap g := by
  induction l with
  | nil => rfl
  | cons a l ih => simp only [List.flatMap_cons, h a List.mem_cons_self, ih (fun b hb => h b (List.mem_cons_of_mem _ hb))]
theorem dGf_congr {S S' : Int → Int → List Drv} {i j : Int} (h1 : ∀ k, i ≤ k → k < j → S i k = S' i k) (h2 : ∀ k, i < k → k ≤ j → S j k = S' j k) : dGf S i j = dGf S' i j := by
  unfold dGf
  apply fm_congr
  intro k hk
  obtain ⟨g1, g2⟩ := mem_rgI.mp hk
  rw [h1 k g1 (by omega), h2 (k + 1) (by omega) (by omega)]
theorem dS_stab : ∀ (f : Nat) (h e : Int), h - e ≤ (f : Int) → e - h ≤ (f : Int) → dS (f + 1) h e = dS f h e := by
  intro f
  induction f with
  | zero =>
    intro h e h1 h2
    have : h = e := by omega
    subst this
    simp [dS]
  | succ f ih =>
    intro h e h1 h2
    rw [dS, dS]
    by_cases c : h = e
    · rw [if_pos c, if_pos c]
    · rw [if_neg c, if_neg c]
      by_cases c2 : h < e
      · rw [if_pos c2, if_pos c2]
        apply fm_congr
        intro d hd
        obtain ⟨g1, g2⟩ := mem_rgI.mp hd
        rw [dGf_congr (S := dS (f + 1)) (S' := dS f) (fun k k1 k2 => ih h k (by omega) (by omega)) (fun k k1 k2 => ih d k (by omega) (by omega)), ih d e (by omega) (by omega)]
      · rw [if_neg c2, if_neg c2]
        apply fm_congr
        intro d hd
        obtain ⟨g1, g2⟩ := mem_rgI.mp hd
        rw [dGf_congr (S := dS (f + 1)) (S' := dS f) (fun k k1 k2 => ih d k (by omega) (by omega)) (fun k k1 k2 => ih h k (by omega) (by omega)), ih d e (by omega) (by omega)]
def sD (h e : Int) : List Drv := dS 24 h e
def gD (i j : Int) : List Drv := dGf sD i j
theorem sD_self (h : Int) : sD h h = [[]] := by unfold sD; rw [dS, if_pos rfl]
theorem s24 {h e : Int} (h1 : h - e ≤ 23) (h2 : e - h ≤ 23) : dS 23 h e = sD h e := (dS_stab 23 h e (by omega) (by omega)).symm
theorem sD_up {h e : Int} (hlt : h < e) (hw : e - h ≤ 24) : sD h e = (rgI (h + 1) e).flatMap (fun d => prd (gD h d) (sD d e) [(d, h)]) := by
  show dS 24 h e = _
  rw [dS, if_neg (by omega), if_pos hlt]
  apply fm_congr
  intro d hd
  obtain ⟨g1, g2⟩ := mem_rgI.mp hd
  rw [dGf_congr (S := dS 23) (S' := sD) (fun k k1 k2 => s24 (by omega) (by omega)) (fun k k1 k2 => s24 (by omega) (by omega)), s24 (by omega) (by omega)]
  rfl
theorem sD_dn {h e : Int} (hlt : e < h) (hw : h - e ≤ 24) : sD h e = (rgI e (h - 1)).flatMap (fun d => prd (sD d e) (gD d h) [(d, h)]) := by
  show dS 24 h e = _
  rw [dS, if_neg (by omega), if_neg (by omega)]
  apply fm_congr
  intro d hd
  obtain ⟨g1, g2⟩ := mem_rgI.mp hd
  rw [dGf_congr (S := dS 23) (S' := sD) (fun k k1 k2 => s24 (by omega) (by omega)) (fun k k1 k2 => s24 (by omega) (by omega)), s24 (by omega) (by omega)]
  rfl
def wD (n : Int) : List Drv := (rgI 0 (n - 1)).flatMap (fun r => prd (sD r 0) (sD r (n - 1)) [(r, -1)])
-- bounds
def HBn : Nat → Int
  | 0 => 0
  | k + 1 => HBn k + (if k < 12 then 24 * p32 (11 - k) else 0)
def LBn : Nat → Int
  | 0 => 0
  | k + 1 => LBn k + (if k < 12 then 0 else 24 * p32 (23 - k))
def HB (z : Int) : Int := HBn z.toNat
def LB (z : Int) : Int := LBn z.toNat
theorem HBn_mono : ∀ a b : Nat, HBn a ≤ HBn (a + b) := by
  intro a b
  induction b with
  | zero => exact Int.le_refl _
  | succ b ih =>
    show _ ≤ HBn (a + b + 1)
    rw [HBn]
    have := p32_pos (11 - (a + b))
    split <;> omega
theorem LBn_mono : ∀ a b : Nat, LBn a ≤ LBn (a + b) := by
  intro a b
  induction b with
  | zero => exact Int.le_refl _
  | succ b ih =>
    show _ ≤ LBn (a + b + 1)
    rw [LBn]
    have := p32_pos (23 - (a + b))
    split <;> omega
theorem HB_mono {a b : Int} (h : a ≤ b) : HB a ≤ HB b := by
  unfold HB
  have := HBn_mono a.toNat (b.toNat - a.toNat)
  rwa [show a.toNat + (b.toNat - a.toNat) = b.toNat by omega] at this
theorem LB_mono {a b : Int} (h : a ≤ b) : LB a ≤ LB b := by
  unfold LB
  have := LBn_mono a.toNat (b.toNat - a.toNat)
  rwa [show a.toNat + (b.toNat - a.toNat) = b.toNat by omega] at this
theorem HB_24 : HB 24 < B60 := by decide
theorem LB_24 : LB 24 < B60 := by decide
theorem HB_0 : HB 0 = 0 := rfl
theorem LB_0 : LB 0 = 0 := rfl
theorem hiD_le {d h : Int} (hd : 0 ≤ d ∧ d < 24) (hh : -1 ≤ h ∧ h < 24) : 0 ≤ hiD d h ∧ hiD d h ≤ HB (d + 1) - HB d := by
  have e : HB (d + 1) = HB d + (if d.toNat < 12 then 24 * p32 (11 - d.toNat) else 0) := by
    unfold HB
    rw [show (d + 1).toNat = d.toNat + 1 by omega, HBn]
  unfold hiD
  by_cases c : d < 12
  · rw [if_pos c, e, if_pos (by omega), show (11 - d).toNat = 11 - d.toNat by omega]
    have hp := p32_pos (11 - d.toNat)
    have h1 : 0 ≤ (h + 1) * p32 (11 - d.toNat) := Int.mul_nonneg (by omega) (by omega)
    have h2 : (h + 1) * p32 (11 - d.toNat) ≤ 24 * p32 (11 - d.toNat) := Int.mul_le_mul_of_nonneg_right (by omega) (by omega)
    omega
  · rw [if_neg c, e, if_neg (by omega)]; omega
theorem loD_le {d h : Int} (hd : 0 ≤ d ∧ d < 24) (hh : -1 ≤ h ∧ h < 24) : 0 ≤ loD d h ∧ loD d h ≤ LB (d + 1) - LB d := by
  have e : LB (d + 1) = LB d + (if d.toNat < 12 then 0 else 24 * p32 (23 - d.toNat)) := by
    unfold LB
    rw [show (d + 1).toNat = d.toNat + 1 by omega, LBn]
  unfold loD
  by_cases c : d < 12
  · rw [if_pos c, e, if_pos (by omega)]; omega
  · rw [if_neg c, e, if_neg (by omega), show (23 - d).toNat = 23 - d.toNat by omega]
    have hp := p32_pos (23 - d.toNat)
    have h1 : 0 ≤ (h + 1) * p32 (23 - d.toNat) := Int.mul_nonneg (by omega) (by omega)
    have h2 : (h + 1) * p32 (23 - d.toNat) ≤ 24 * p32 (23 - d.toNat) := Int.mul_le_mul_of_nonneg_right (by omega) (by omega)
    omega
/-- weights that a table of costs may hold -/
def wOk (w : Int → Int → Int) : Prop := ∀ d h, 0 ≤ d → d < 24 → -1 ≤ h → h < 24 → 0 ≤ w d h ∧ w d h ≤ 2000
/-- arcs of x lie within the places a .. b - 1 -/
def Bd (w : Int → Int → Int) (a b : Int) (x : Drv) : Prop := (0 ≤ cO w x ∧ cO w x ≤ 2000 * (b - a)) ∧ (0 ≤ hiA x ∧ hiA x ≤ HB b - HB a) ∧ (0 ≤ loA x ∧ loA x ≤ LB b - LB a)
theorem Bd_nil (w : Int → Int → Int) (a : Int) : Bd w a a [] := by
  simp [Bd, cO, hiA, loA]
theorem Bd_app {w : Int → Int → Int} {a b c : Int} {x y : Drv} (hx : Bd w a b x) (hy : Bd w b c y) : Bd w a c (x ++ y) := by
  unfold Bd at *
  simp only [cO_app, hiA_app, loA_app]
  omega
theorem Bd_app' {w : Int → Int → Int} {a b c : Int} {x y : Drv} (hx : Bd w b c x) (hy : Bd w a b y) : Bd w a c (x ++ y) := by
  unfold Bd at *
  simp only [cO_app, hiA_app, loA_app]
  omega
theorem Bd_one {w : Int → Int → Int} (hw : wOk w) {d h : Int} (hd : 0 ≤ d ∧ d < 24) (hh : -1 ≤ h ∧ h < 24) : Bd w d (d + 1) [(d, h)] := by
  have h1 := hiD_le hd hh
  have h2 := loD_le hd hh
  have h3 := hw d h hd.1 hd.2 hh.1 hh.2
  unfold Bd
  simp only [cO, hiA, loA]
  omega
theorem dS_Bd {w : Int → Int → Int} (hw : wOk w) : ∀ (f : Nat) (h e : Int), 0 ≤ h → h < 24 → 0 ≤ e → e < 24 → (h ≤ e → ∀ x ∈ dS f h e, Bd w (h + 1) (e + 1) x) ∧ (e ≤ h → ∀ x ∈ dS f h e, Bd w e h x) := by
  intro f
  induction f with
  | zero =>
    intro h e _ _ _ _
    rw [dS]
    by_cases c : h = e
    · subst c
      rw [if_pos rfl]
      constructor
      · intro _ x hx; rw [List.mem_singleton.mp hx]; exact Bd_nil w _
      · intro _ x hx; rw [List.mem_singleton.mp hx]; exact Bd_nil w _
    · rw [if_neg c]
      exact ⟨fun _ x hx => absurd hx List.not_mem_nil, fun _ x hx => absurd hx List.not_mem_nil⟩
  | succ f ih =>
    intro h e h0 h1 e0 e1
    have gap : ∀ i j : Int, 0 ≤ i → i < j → j < 24 → ∀ x ∈ dGf (dS f) i j, Bd w (i + 1) j x := by
      intro i j i0 ij j1 x hx
      obtain ⟨k, hk, hx⟩ := List.mem_flatMap.mp hx
      obtain ⟨k1, k2⟩ := mem_rgI.mp hk
      obtain ⟨y, hy, z, hz, rfl⟩ := prd_mem.mp hx
      have b1 := (ih i k i0 (by omega) (by omega) (by omega)).1 k1 y hy
      have b2 := (ih j (k + 1) (by omega) j1 (by omega) (by omega)).2 (by omega) z hz
      rw [List.append_nil]
      exact Bd_app b1 b2
    rw [dS]
    by_cases c : h = e
    · subst c
      rw [if_pos rfl]
      constructor
      · intro _ x hx; rw [List.mem_singleton.mp hx]; exact Bd_nil w _
      · intro _ x hx; rw [List.mem_singleton.mp hx]; exact Bd_nil w _
    · rw [if_neg c]
      by_cases c2 : h < e
      · rw [if_pos c2]
        refine ⟨fun _ x hx => ?_, fun q => by omega⟩
        obtain ⟨d, hd, hx⟩ := List.mem_flatMap.mp hx
        obtain ⟨d1, d2⟩ := mem_rgI.mp hd
        obtain ⟨y, hy, z, hz, rfl⟩ := prd_mem.mp hx
        have b1 := gap h d h0 (by omega) (by omega) y hy
        have b2 := (ih d e (by omega) (by omega) e0 e1).1 d2 z hz
        have b3 := Bd_one hw (d := d) (h := h) (by omega) (by omega)
        rw [List.append_assoc]
        exact Bd_app b1 (Bd_app' b2 b3)
      · rw [if_neg c2]
        refine ⟨fun q => by omega, fun _ x hx => ?_⟩
        obtain ⟨d, hd, hx⟩ := List.mem_flatMap.mp hx
        obtain ⟨d1, d2⟩ := mem_rgI.mp hd
        obtain ⟨y, hy, z, hz, rfl⟩ := prd_mem.mp hx
        have b1 := (ih d e (by omega) (by omega) e0 e1).2 d1 y hy
        have b2 := gap d h (by omega) (by omega) h1 z hz
        have b3 := Bd_one hw (d := d) (h := h) (by omega) (by omega)
        rw [List.append_assoc]
        exact Bd_app b1 (Bd_app' b2 b3)
theorem Bd_Pw {w : Int → Int → Int} {a b : Int} (ha : 0 ≤ a) (hab : a ≤ b) (hb : b ≤ 24) {x : Drv} (h : Bd w a b x) : (0 ≤ cO w x ∧ cO w x ≤ 100000) ∧ (0 ≤ hiA x ∧ hiA x < B60) ∧ (0 ≤ loA x ∧ loA x < B60) := by
  have h1 := HB_mono ha
  have h2 := HB_mono hb
  have h3 := LB_mono ha
  have h4 := LB_mono hb
  have h5 := HB_24
  have h6 := LB_24
  rw [HB_0] at h1
  rw [LB_0] at h3
  unfold Bd at h
  omega
theorem sD_Bd {w : Int → Int → Int} (hw : wOk w) {h e : Int} (h0 : 0 ≤ h) (h1 : h < 24) (e0 : 0 ≤ e) (e1 : e < 24) : (h ≤ e → ∀ x ∈ sD h e, Bd w (h + 1) (e + 1) x) ∧ (e ≤ h → ∀ x ∈ sD h e, Bd w e h x) := dS_Bd hw 24 h e h0 h1 e0 e1
theorem gD_Bd {w : Int → Int → Int} (hw : wOk w) {i j : Int} (i0 : 0 ≤ i) (ij : i < j) (j1 : j < 24) : ∀ x ∈ gD i j, Bd w (i + 1) j x := by
  intro x hx
  obtain ⟨k, hk, hx⟩ := List.mem_flatMap.mp hx
  obtain ⟨k1, k2⟩ := mem_rgI.mp hk
  obtain ⟨y, hy, z, hz, rfl⟩ := prd_mem.mp hx
  have b1 := (sD_Bd hw (h := i) (e := k) i0 (by omega) (by omega) (by omega)).1 k1 y hy
  have b2 := (sD_Bd hw (h := j) (e := k + 1) (by omega) j1 (by omega) (by omega)).2 (by omega) z hz
  rw [List.append_nil]
  exact Bd_app b1 b2
theorem sD_Pw {w : Int → Int → Int} (hw : wOk w) {h e : Int} (h0 : 0 ≤ h) (h1 : h < 24) (e0 : 0 ≤ e) (e1 : e < 24) : Pw w (sD h e) := by
  intro x hx
  rcases Int.lt_or_le h e with c | c
  · exact Bd_Pw (by omega) (by omega) (by omega) ((sD_Bd hw h0 h1 e0 e1).1 (by omega) x hx)
  · exact Bd_Pw (by omega) (by omega) (by omega) ((sD_Bd hw h0 h1 e0 e1).2 c x hx)
theorem gD_Pw {w : Int → Int → Int} (hw : wOk w) {i j : Int} (i0 : 0 ≤ i) (ij : i < j) (j1 : j < 24) : Pw w (gD i j) := fun x hx => Bd_Pw (by omega) (by omega) (by omega) (gD_Bd hw i0 ij j1 x hx)
theorem Pw_app {w : Int → Int → Int} {A B : List Drv} (hA : Pw w A) (hB : Pw w B) : Pw w (A ++ B) := fun x hx => (List.mem_append.mp hx).elim (hA x) (hB x)
