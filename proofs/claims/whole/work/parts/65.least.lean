/-! LEAST: what the reference's spans hold, arcs that are barred cost 1000000 -/
def Lv (w : Int → Int → Int) (L : List Drv) (c : Int) : Prop := c ≤ 1000000 ∧ (∀ x ∈ L, c ≤ cO w x) ∧ (c = 1000000 ∨ ∃ x ∈ L, c = cO w x)
def wnn (w : Int → Int → Int) : Prop := ∀ d h, 0 ≤ w d h
theorem cO_nn {w : Int → Int → Int} (hw : wnn w) : ∀ x : Drv, 0 ≤ cO w x := by
  intro x
  induction x with
  | nil => exact Int.le_refl _
  | cons a l ih => have := hw a.1 a.2; simp only [cO]; omega
theorem Lv.nn {w : Int → Int → Int} {L : List Drv} {c : Int} (hw : wnn w) (h : Lv w L c) : 0 ≤ c ∧ c ≤ 1000000 := by
  refine ⟨?_, h.1⟩
  rcases h.2.2 with h | ⟨x, _, h⟩
  · omega
  · have := cO_nn hw x; omega
theorem Lv_self (w : Int → Int → Int) (h : Int) : Lv w (sD h h) 0 := by
  rw [sD_self]
  refine ⟨by omega, fun x hx => ?_, Or.inr ⟨[], List.mem_singleton.mpr rfl, rfl⟩⟩
  rw [List.mem_singleton.mp hx]
  exact Int.le_refl _
/-- best is the least of what F says of those that Q tells -/
def Bq (F : Int → Int → Int) (Q : Int → Int → Prop) (best : Int) : Prop := best ≤ 1000000 ∧ (∀ a b, Q a b → best ≤ F a b) ∧ (best = 1000000 ∨ ∃ a b, Q a b ∧ best = F a b)
theorem Bq.first (F : Int → Int → Int) {Q : Int → Int → Prop} (h : ∀ a b, ¬ Q a b) : Bq F Q 1000000 := ⟨Int.le_refl _, fun a b q => absurd q (h a b), Or.inl rfl⟩
theorem Bq.more {F : Int → Int → Int} {Q Q' : Int → Int → Prop} {best best' a b : Int} (h : Bq F Q best) (hn : best' = if F a b < best then F a b else best) (hq : ∀ x y, Q' x y ↔ Q x y ∨ (x = a ∧ y = b)) : Bq F Q' best' := by
  obtain ⟨h1, h2, h3⟩ := h
  by_cases c : F a b < best
  · rw [if_pos c] at hn
    refine ⟨by omega, fun x y q => ?_, Or.inr ⟨a, b, (hq a b).mpr (Or.inr ⟨rfl, rfl⟩), hn⟩⟩
    rcases (hq x y).mp q with q | ⟨rfl, rfl⟩
    · have := h2 x y q; omega
    · omega
  · rw [if_neg c] at hn
    refine ⟨by omega, fun x y q => ?_, ?_⟩
    · rcases (hq x y).mp q with q | ⟨rfl, rfl⟩
      · have := h2 x y q; omega
      · omega
    · rcases h3 with h3 | ⟨x, y, q1, q2⟩
      · left; omega
      · exact Or.inr ⟨x, y, (hq x y).mpr (Or.inl q1), by omega⟩
theorem Bq.cg {F : Int → Int → Int} {Q Q' : Int → Int → Prop} {best : Int} (h : Bq F Q best) (hq : ∀ x y, Q' x y ↔ Q x y) : Bq F Q' best :=
  ⟨h.1, fun a b q => h.2.1 a b ((hq a b).mp q), h.2.2.elim Or.inl (fun ⟨a, b, q1, q2⟩ => Or.inr ⟨a, b, (hq a b).mpr q1, q2⟩)⟩
theorem cO_5 (w : Int → Int → Int) (x y z : Drv) (d h : Int) : cO w (x ++ y ++ [] ++ z ++ [(d, h)]) = cO w x + cO w y + cO w z + w d h := by
  simp only [cO_app, cO]; omega
theorem cO_6 (w : Int → Int → Int) (x y z : Drv) (d h : Int) : cO w (z ++ (x ++ y ++ []) ++ [(d, h)]) = cO w x + cO w y + cO w z + w d h := by
  simp only [cO_app, cO]; omega
theorem mem_up {h e d k : Int} {x y z : Drv} (hw : e - h ≤ 24) (h1 : h ≤ k) (h2 : k < d) (h3 : d ≤ e) (hx : x ∈ sD h k) (hy : y ∈ sD d (k + 1)) (hz : z ∈ sD d e) : x ++ y ++ [] ++ z ++ [(d, h)] ∈ sD h e := by
  rw [sD_up (by omega) hw]
  refine List.mem_flatMap.mpr ⟨d, mem_rgI.mpr (by omega), prd_mem.mpr ⟨_, ?_, z, hz, rfl⟩⟩
  exact List.mem_flatMap.mpr ⟨k, mem_rgI.mpr (by omega), prd_mem.mpr ⟨x, hx, y, hy, rfl⟩⟩
theorem mem_dn {h e d k : Int} {x y z : Drv} (hw : h - e ≤ 24) (h1 : e ≤ d) (h2 : d ≤ k) (h3 : k < h) (hz : z ∈ sD d e) (hx : x ∈ sD d k) (hy : y ∈ sD h (k + 1)) : z ++ (x ++ y ++ []) ++ [(d, h)] ∈ sD h e := by
  rw [sD_dn (by omega) hw]
  refine List.mem_flatMap.mpr ⟨d, mem_rgI.mpr (by omega), prd_mem.mpr ⟨z, hz, _, ?_, rfl⟩⟩
  exact List.mem_flatMap.mpr ⟨k, mem_rgI.mpr (by omega), prd_mem.mpr ⟨x, hx, y, hy, rfl⟩⟩
theorem cs_up {h e : Int} {u : Drv} (hlt : h < e) (hw : e - h ≤ 24) (hu : u ∈ sD h e) : ∃ d k x y z, h ≤ k ∧ k < d ∧ d ≤ e ∧ x ∈ sD h k ∧ y ∈ sD d (k + 1) ∧ z ∈ sD d e ∧ u = x ++ y ++ [] ++ z ++ [(d, h)] := by
  rw [sD_up hlt hw] at hu
  obtain ⟨d, hd, hx2⟩ := List.mem_flatMap.mp hu
  have hd2 := mem_rgI.mp hd
  obtain ⟨g, hg, z, hz, rfl⟩ := prd_mem.mp hx2
  obtain ⟨k, hk, hg2⟩ := List.mem_flatMap.mp hg
  have hk2 := mem_rgI.mp hk
  obtain ⟨x, hx, y, hy, rfl⟩ := prd_mem.mp hg2
  exact ⟨d, k, x, y, z, by omega, by omega, by omega, hx, hy, hz, rfl⟩
theorem cs_dn {h e : Int} {u : Drv} (hlt : e < h) (hw : h - e ≤ 24) (hu : u ∈ sD h e) : ∃ d k x y z, e ≤ d ∧ d ≤ k ∧ k < h ∧ z ∈ sD d e ∧ x ∈ sD d k ∧ y ∈ sD h (k + 1) ∧ u = z ++ (x ++ y ++ []) ++ [(d, h)] := by
  rw [sD_dn hlt hw] at hu
  obtain ⟨d, hd, hx2⟩ := List.mem_flatMap.mp hu
  have hd2 := mem_rgI.mp hd
  obtain ⟨z, hz, g, hg, rfl⟩ := prd_mem.mp hx2
  obtain ⟨k, hk, hg2⟩ := List.mem_flatMap.mp hg
  have hk2 := mem_rgI.mp hk
  obtain ⟨x, hx, y, hy, rfl⟩ := prd_mem.mp hg2
  exact ⟨d, k, x, y, z, by omega, by omega, by omega, hz, hx, hy, rfl⟩
theorem Lv_3 {w : Int → Int → Int} (hw : wnn w) {A B C : List Drv} {a b c p : Int} (ha : Lv w A a) (hb : Lv w B b) (hc : Lv w C c) (hp : 0 ≤ p) : 1000000 ≤ a + p + b + c ∨ ∃ x ∈ A, ∃ y ∈ B, ∃ z ∈ C, a + p + b + c = cO w x + cO w y + cO w z + p := by
  have a0 := ha.nn hw
  have b0 := hb.nn hw
  have c0 := hc.nn hw
  rcases ha.2.2 with q1 | ⟨x, x1, x2⟩
  · left; omega
  rcases hb.2.2 with q2 | ⟨y, y1, y2⟩
  · left; omega
  rcases hc.2.2 with q3 | ⟨z, z1, z2⟩
  · left; omega
  exact Or.inr ⟨x, x1, y, y1, z, z1, by omega⟩
theorem Lv_up {w : Int → Int → Int} (hw : wnn w) {h r best : Int} {vr vl : Int → Int → Int} (hlt : h < r) (hwd : r - h ≤ 24) (h1 : ∀ k, h ≤ k → k < r → Lv w (sD h k) (vr h k)) (h2 : ∀ d k, h < k → k ≤ d → d ≤ r → Lv w (sD d k) (vl d k)) (h3 : ∀ d, h < d → d ≤ r → Lv w (sD d r) (vr d r))
    (hB : Bq (fun b d => vr h (b - 1) + w d h + vl d b + vr d r) (fun b d => h < b ∧ b ≤ d ∧ d ≤ r) best) : Lv w (sD h r) best := by
  refine ⟨hB.1, fun u hu => ?_, ?_⟩
  · obtain ⟨d, k, x, y, z, g1, g2, g3, hx, hy, hz, rfl⟩ := cs_up hlt hwd hu
    have q := hB.2.1 (k + 1) d ⟨by omega, by omega, by omega⟩
    have q1 := (h1 k g1 (by omega)).2.1 x hx
    have q2 := (h2 d (k + 1) (by omega) (by omega) g3).2.1 y hy
    have q3 := (h3 d (by omega) g3).2.1 z hz
    rw [cO_5]
    simp only [show k + 1 - 1 = k by omega] at q
    omega
  · rcases hB.2.2 with q | ⟨b, d, ⟨g1, g2, g3⟩, q⟩
    · exact Or.inl q
    · have hb := hB.1
      replace q : best = vr h (b - 1) + w d h + vl d b + vr d r := q
      rcases Lv_3 hw (h1 (b - 1) (by omega) (by omega)) (h2 d b g1 g2 g3) (h3 d (by omega) g3) (hw d h) with q2 | ⟨x, hx, y, hy, z, hz, e⟩
      · left; omega
      · right
        refine ⟨x ++ y ++ [] ++ z ++ [(d, h)], mem_up hwd (k := b - 1) (by omega) (by omega) g3 hx (by rw [show b - 1 + 1 = b by omega]; exact hy) hz, ?_⟩
        rw [cO_5]; omega
theorem Lv_dn {w : Int → Int → Int} (hw : wnn w) {h l best : Int} {vr vl : Int → Int → Int} (hlt : l < h) (hwd : h - l ≤ 24) (h1 : ∀ k, l < k → k ≤ h → Lv w (sD h k) (vl h k)) (h2 : ∀ d, l ≤ d → d < h → Lv w (sD d l) (vl d l)) (h3 : ∀ d k, l ≤ d → d ≤ k → k < h → Lv w (sD d k) (vr d k))
    (hB : Bq (fun e d => vl h (e + 1) + w d h + vl d l + vr d e) (fun e d => l ≤ d ∧ d ≤ e ∧ e < h) best) : Lv w (sD h l) best := by
  refine ⟨hB.1, fun u hu => ?_, ?_⟩
  · obtain ⟨d, k, x, y, z, g1, g2, g3, hz, hx, hy, rfl⟩ := cs_dn hlt hwd hu
    have q := hB.2.1 k d ⟨g1, g2, g3⟩
    have q1 := (h1 (k + 1) (by omega) (by omega)).2.1 y hy
    have q2 := (h2 d g1 (by omega)).2.1 z hz
    have q3 := (h3 d k g1 g2 g3).2.1 x hx
    rw [cO_6]
    simp only at q
    omega
  · rcases hB.2.2 with q | ⟨e, d, ⟨g1, g2, g3⟩, q⟩
    · exact Or.inl q
    · have hb := hB.1
      replace q : best = vl h (e + 1) + w d h + vl d l + vr d e := q
      rcases Lv_3 hw (h1 (e + 1) (by omega) (by omega)) (h2 d g1 (by omega)) (h3 d e g1 g2 g3) (hw d h) with q2 | ⟨y, hy, z, hz, x, hx, e2⟩
      · left; omega
      · right
        refine ⟨z ++ (x ++ y ++ []) ++ [(d, h)], mem_dn hwd g1 g2 g3 hz hx hy, ?_⟩
        rw [cO_6]; omega
/-- the whole: F h the cost with root h, or 1000000 at least if that is barred -/
theorem Lv_wh {w : Int → Int → Int} (hw : wnn w) {n best : Int} {vr vl : Int → Int → Int} {F : Int → Int → Int} (h1 : ∀ h, 0 ≤ h → h < n → Lv w (sD h 0) (vl h 0) ∧ Lv w (sD h (n - 1)) (vr h (n - 1))) (hF : ∀ h, 0 ≤ h → h < n → (F h 0 = w h (-1) + vl h 0 + vr h (n - 1)) ∨ (F h 0 = 1000000 ∧ 1000000 ≤ w h (-1)))
    (hB : Bq F (fun h z => 0 ≤ h ∧ h < n ∧ z = 0) best) : Lv w (wD n) best := by
  refine ⟨hB.1, fun u hu => ?_, ?_⟩
  · obtain ⟨r, hr, hx2⟩ := List.mem_flatMap.mp hu
    have hr2 := mem_rgI.mp hr
    obtain ⟨a, ha, b, hb, rfl⟩ := prd_mem.mp hx2
    have q := hB.2.1 r 0 ⟨by omega, by omega, rfl⟩
    have q1 := (h1 r (by omega) (by omega)).1.2.1 a ha
    have q2 := (h1 r (by omega) (by omega)).2.2.1 b hb
    have n1 := cO_nn hw a
    have n2 := cO_nn hw b
    simp only [cO_app, cO]
    rcases hF r (by omega) (by omega) with e | ⟨e, e2⟩ <;> omega
  · rcases hB.2.2 with q | ⟨h, z, ⟨g1, g2, rfl⟩, q⟩
    · exact Or.inl q
    · have hb := hB.1
      rcases hF h g1 g2 with e | ⟨e, e2⟩
      · have a0 := (h1 h g1 g2).1.nn hw
        have b0 := (h1 h g1 g2).2.nn hw
        have p0 := hw h (-1)
        rcases (h1 h g1 g2).1.2.2 with q1 | ⟨a, ha, ea⟩
        · left; omega
        rcases (h1 h g1 g2).2.2.2 with q2 | ⟨b, hb2, eb⟩
        · left; omega
        right
        refine ⟨a ++ b ++ [(h, -1)], List.mem_flatMap.mpr ⟨h, mem_rgI.mpr (by omega), prd_mem.mpr ⟨a, ha, b, hb2, rfl⟩⟩, ?_⟩
        simp only [cO_app, cO]
        omega
      · left; omega
/-- costs as the reference has them: those that are barred -/
def wR (M : Mm) (d h : Int) : Int := if 0 ≤ d ∧ d < M 66 24 ∧ -1 ≤ h ∧ h < M 66 24 then (if M 92 (25 * d + h + 1) = 0 then (if h = -1 then M 91 d else M 90 (24 * h + d)) else 1000000) else 0
def prOkR (M : Mm) : Prop := (∀ d, 0 ≤ d → d < M 66 24 → 0 ≤ M 91 d ∧ M 91 d ≤ 1000000) ∧ ∀ h d, 0 ≤ h → h < M 66 24 → 0 ≤ d → d < M 66 24 → 0 ≤ M 90 (24 * h + d) ∧ M 90 (24 * h + d) ≤ 1000000
theorem wR_nn {M : Mm} (hp : prOkR M) : wnn (wR M) := by
  intro d h
  unfold wR
  split
  · next c =>
    split
    · split
      · exact (hp.1 d c.1 c.2.1).1
      · exact (hp.2 h d (by omega) c.2.2.2 c.1 c.2.1).1
    · omega
  · omega
theorem wR_sm {M A : Mm} (h : Sm M A [93, 94]) : wR A = wR M := by
  funext d h2
  unfold wR
  rw [h 66 (by decide), h 92 (by decide), h 91 (by decide), h 90 (by decide)]
def Rr (w : Int → Int → Int) (A : Mm) (n s : Int) : Prop := ∀ h r, 0 ≤ h → h ≤ r → r < n → r - h < s → Lv w (sD h r) (A 94 (24 * h + r))
def Rl (w : Int → Int → Int) (A : Mm) (n s : Int) : Prop := ∀ h l, 0 ≤ l → l ≤ h → h < n → h - l < s → Lv w (sD h l) (A 93 (24 * h + l))
