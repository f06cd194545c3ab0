/-- text and tables are the same -/
def SmT (M A : Mm) : Prop := (∀ a, a ∈ [69, 70, 71, 72, 73, 74, 75, 77, 78, 79, 85] → A a = M a) ∧ ∀ k : Int, k ∈ [(6 : Int), 10, 13, 24] → A 66 k = M 66 k
def KR (T A : Mm) (i : Int) : Prop := ∃ z k0, MkK T (T 85 i) z k0 (A 89 i) ∧ KyI T A i k0 (T 79 (T 85 i))
theorem KR_T {M A : Mm} (h : SmT M A) (B : Mm) (i : Int) : KR A B i = KR M B i := by
  unfold KR MkK FdR KyI isStopR foldR eLR eFitR sK lk
  rw [h.1 69 (by decide), h.1 70 (by decide), h.1 71 (by decide), h.1 72 (by decide), h.1 73 (by decide), h.1 74 (by decide), h.1 75 (by decide), h.1 77 (by decide), h.1 78 (by decide), h.1 79 (by decide), h.1 85 (by decide), h.2 6 (by decide), h.2 10 (by decide), h.2 13 (by decide)]
theorem KR_A {T A B : Mm} (h : ∀ a, a ∈ [86, 87, 88, 89] → B a = A a) (i : Int) : KR T B i = KR T A i := by
  unfold KR KyI
  rw [h 86 (by decide), h 87 (by decide), h 88 (by decide), h 89 (by decide)]
/-- keys of another place stay -/
theorem KR.keep {T A B : Mm} {i j : Int} (h : KR T A j) (hf : MkF A B i) (hj : j ≠ i) (h0 : 0 ≤ j ∧ 0 ≤ i) (h40 : A 88 j ≤ 40) : KR T B j := by
  obtain ⟨z, k0, h1, g1, g2, g3, g4⟩ := h
  obtain ⟨_, f2, f3⟩ := hf
  have e8 := (f3 j hj).1
  have e9 := (f3 j hj).2
  have e6 : ∀ q, 0 ≤ q → q < A 88 j → B 86 (40 * j + q) = A 86 (40 * j + q) ∧ B 87 (40 * j + q) = A 87 (40 * j + q) := fun q a b => f2 _ (by omega)
  refine ⟨z, k0, by rw [e9]; exact h1, by rw [e8]; exact g1, fun q a b => ?_, fun q q' a b c => ?_, fun k a b c => ?_⟩
  · rw [e8] at b
    rw [(e6 q a b).1, (e6 q a b).2]
    exact g2 q a b
  · rw [e8] at c
    rw [(e6 q a (by omega)).1, (e6 q a (by omega)).2, (e6 q' (by omega) c).1, (e6 q' (by omega) c).2]
    exact g3 q q' a b c
  · obtain ⟨n, q, x1, x2, x3, x4⟩ := g4 k a b c
    refine ⟨n, q, x1, x2, by rw [e8]; exact x3, ?_⟩
    rw [(e6 q x2 x3).1, (e6 q x2 x3).2]
    exact x4
theorem KR.B {T A : Mm} {i : Int} (h : KR T A i) (he : eR T) (hi : 0 ≤ i ∧ i < T 66 24) : KyB A i := by
  obtain ⟨z, k0, ⟨_, h1⟩, g1, g2, _⟩ := h
  have hs := he.2.2 i hi.1 hi.2
  have hw := (he.2.1 _ hs.1 hs.2).1
  have hn := he.1
  refine ⟨by rcases h1 with ⟨_, h1, _⟩ | ⟨_, h1, _⟩ <;> omega, fun q a b => ?_⟩
  obtain ⟨k', x1, x2, x3, _, _, x6⟩ := g2 q a b
  refine ⟨?_, x6⟩
  rcases h1 with ⟨_, h1, _⟩ | ⟨_, h1, _⟩ <;> omega
def Ph1 (M A : Mm) (i : Int) : Prop := Sm M A [66, 86, 87, 88, 89] ∧ (∀ k : Int, k ≠ 32 → A 66 k = M 66 k) ∧ A 66 32 = 1 ∧ ∀ j, 0 ≤ j → j < i → KR M A j
theorem Ph1.T {M A : Mm} {i : Int} (h : Ph1 M A i) : SmT M A := by
  refine ⟨fun a ha => h.1 a (fun q => ?_), fun k hk => h.2.1 k (fun q => ?_)⟩
  · simp only [List.mem_cons, List.not_mem_nil, or_false] at ha q; omega
  · subst q; exact absurd hk (by decide)
def rP (B : Mm) (h : Int) : Int := if 1 ≤ B 89 h ∧ B 89 h ≤ 3 then B 76 2 else 0
noncomputable def prc (B : Mm) (h d : Int) : Int := if h = d then 1000000 else pR B h d
def Ph2 (B A : Mm) (h : Int) : Prop := Sm B A [90, 91] ∧ ∀ h', 0 ≤ h' → h' < h → A 91 h' = rP B h' ∧ ∀ d, 0 ≤ d → d < B 66 24 → A 90 (24 * h' + d) = prc B h' d
def Ph2b (B A : Mm) (h d : Int) : Prop := Ph2 B A h ∧ A 91 h = rP B h ∧ ∀ d', 0 ≤ d' → d' < d → A 90 (24 * h + d') = prc B h d'
theorem Ph2b.next {B A : Mm} {h : Int} (g : Ph2b B A h (B 66 24)) : Ph2 B A (h + 1) := by
  refine ⟨g.1.1, fun h' a b => ?_⟩
  by_cases c : h' = h
  · subst c; exact ⟨g.2.1, g.2.2⟩
  · exact g.1.2 h' a (by omega)
theorem Ph2.put {B A : Mm} {h v : Int} (g : Ph2 B A h) (hv : v = rP B h) : Ph2b B (mput A 91 h v) h 0 := by
  refine ⟨⟨g.1.put (by decide), fun h' a b => ?_⟩, by rw [mput_eq]; exact hv, fun d a b => by omega⟩
  rw [mput_nk (by omega), mput_ne (by decide)]
  exact g.2 h' a b
theorem Ph2b.put {B A : Mm} {h d v : Int} (g : Ph2b B A h d) (hh : 0 ≤ h) (hn : B 66 24 ≤ 24) (hd : 0 ≤ d ∧ d < 24) (hv : v = prc B h d) : Ph2b B (mput A 90 (24 * h + d) v) h (d + 1) := by
  refine ⟨⟨g.1.1.put (by decide), fun h' a b => ?_⟩, by rw [mput_ne (by decide)]; exact g.2.1, fun d' a b => ?_⟩
  · rw [mput_ne (by decide)]
    refine ⟨(g.1.2 h' a b).1, fun d2 b0 b1 => ?_⟩
    rw [mput_nk (by omega)]
    exact (g.1.2 h' a b).2 d2 b0 b1
  · by_cases c2 : d' = d
    · subst c2; rw [mput_eq]; exact hv
    · rw [mput_nk (by omega)]; exact g.2.2 d' a (by omega)
theorem pR_sm {B A : Mm} (r1 : A 76 = B 76) (r2 : A 84 = B 84) (r3 : A 86 = B 86) (r4 : A 87 = B 87) (r5 : A 88 = B 88) (r6 : A 89 = B 89) (r7 : A 77 = B 77) (h d : Int) : pR A h d = pR B h d := by
  unfold pR shB HasK sK lk
  rw [r1, r2, r3, r4, r5, r6, r7]
theorem pR_rg {M : Mm} (hw : ∀ i, 0 ≤ i → i < 4 → 0 ≤ M 76 i ∧ M 76 i ≤ 50) {h d : Int} (hh : 0 ≤ h ∧ h < 24) (hd : 0 ≤ d ∧ d < 24) (hne : h ≠ d) : 0 ≤ pR M h d ∧ pR M h d ≤ 1450 := by
  unfold pR
  have w0 := hw 0 (by omega) (by omega)
  have w1 := hw 1 (by omega) (by omega)
  have w2 := hw 2 (by omega) (by omega)
  have w3 := hw 3 (by omega) (by omega)
  have hs := shB_le M h d (M 88 h).toNat
  have m1 := mul50 (B := 23) w0 (b := max (h - d) (-(h - d)) - 1) (by omega)
  have m2 := mul50 (B := 4) w1 (b := 4 - min 4 (shB M h d (M 88 h).toNat)) (by omega)
  split <;> split <;> omega
/-- keys and prices stand -/
def Ph12 (M C : Mm) : Prop := ∃ B, Ph1 M B (M 66 24) ∧ Ph2 B C (M 66 24)
def wgR (M : Mm) : Prop := ∀ i, 0 ≤ i → i < 4 → 0 ≤ M 76 i ∧ M 76 i ≤ 50
theorem Ph12.n {M C : Mm} (h : Ph12 M C) : C 66 24 = M 66 24 := by
  obtain ⟨B, b1, b2⟩ := h
  rw [b2.1 66 (by decide), b1.2.1 24 (by decide)]
theorem Ph12.sm {M C : Mm} (hn : M 66 24 ≤ 24) (hw : wgR M) (h : Ph12 M C) : prSm C := by
  have e := h.n
  obtain ⟨B, b1, b2⟩ := h
  have r76 : B 76 = M 76 := b1.1 76 (by decide)
  have n66 : B 66 24 = M 66 24 := b1.2.1 24 (by decide)
  have hwB : ∀ i, 0 ≤ i → i < 4 → 0 ≤ B 76 i ∧ B 76 i ≤ 50 := by rw [r76]; exact hw
  have w2 := hwB 2 (by omega) (by omega)
  unfold prSm
  rw [e]
  refine ⟨fun d a b => ?_, fun x d a b c g => ?_⟩
  · rw [(b2.2 d a b).1]; unfold rP; split <;> omega
  · rw [(b2.2 x a b).2 d c (by omega)]
    unfold prc
    refine ⟨fun q => ?_, fun q => by rw [if_pos q]⟩
    rw [if_neg q]
    have := pR_rg hwB (h := x) (d := d) (by omega) (by omega) q
    omega
theorem w0_sm {C A : Mm} (h1 : A 90 = C 90) (h2 : A 91 = C 91) (h3 : A 66 24 = C 66 24) : w0 A = w0 C := by
  funext d h
  unfold w0
  rw [h1, h2, h3]
theorem prSm_sm {C A : Mm} (h : prSm C) (h1 : A 90 = C 90) (h2 : A 91 = C 91) (h3 : A 66 24 = C 66 24) : prSm A := by
  unfold prSm
  rw [h1, h2, h3]
  exact h
/-- all are free -/
def Bar0 (A : Mm) (n : Int) : Prop := ∀ d k, 0 ≤ d → d < n → 0 ≤ k → k ≤ n → A 92 (25 * d + k) = 0
theorem Bar0.free {A : Mm} {n : Int} (h : Bar0 A n) {y : Drv} (hy : WdP n y) : free A n y := by
  intro d d0 d1
  have hm := row_mem ((hy.1.2 d).mpr ⟨d0, by omega⟩)
  have q := hy.arc hm
  have := h d (rowOf y d + 1) d0 d1 (by omega) (by omega)
  rw [show 25 * d + rowOf y d + 1 = 25 * d + (rowOf y d + 1) by omega]
  exact this
/-- rows 0 .. d - 1 are fixed to f, row d to h if it is fixed -/
def Bar (A : Mm) (n : Int) (f : Int → Int) (d : Int) : Prop := ∀ d' k, 0 ≤ d' → d' < n → 0 ≤ k → k ≤ n → A 92 (25 * d' + k) = if d' < d ∧ k ≠ f d' + 1 then 1 else 0
def BarH (A : Mm) (n : Int) (f : Int → Int) (d h : Int) : Prop := ∀ d' k, 0 ≤ d' → d' < n → 0 ≤ k → k ≤ n → A 92 (25 * d' + k) = if (d' < d ∧ k ≠ f d' + 1) ∨ (d' = d ∧ k ≠ h + 1) then 1 else 0
theorem BarH.free {A : Mm} {n d h : Int} {f : Int → Int} (hb : BarH A n f d h) (hd : 0 ≤ d ∧ d < n) {y : Drv} (hy : WdP n y) : free A n y ↔ (∀ k, 0 ≤ k → k < d → rowOf y k = f k) ∧ rowOf y d = h := by
  have hr : ∀ e, 0 ≤ e → e < n → -1 ≤ rowOf y e ∧ rowOf y e < n := fun e e0 e1 => (hy.arc (row_mem ((hy.1.2 e).mpr ⟨e0, by omega⟩))).2.1
  constructor
  · intro hf
    refine ⟨fun k k0 k1 => ?_, ?_⟩
    · have q := hf k k0 (by omega)
      have r := hr k k0 (by omega)
      rw [show 25 * k + rowOf y k + 1 = 25 * k + (rowOf y k + 1) by omega, hb k _ k0 (by omega) (by omega) (by omega)] at q
      by_cases c : rowOf y k = f k
      · exact c
      · rw [if_pos (Or.inl ⟨k1, by omega⟩)] at q; omega
    · have q := hf d hd.1 hd.2
      have r := hr d hd.1 hd.2
      rw [show 25 * d + rowOf y d + 1 = 25 * d + (rowOf y d + 1) by omega, hb d _ hd.1 hd.2 (by omega) (by omega)] at q
      by_cases c : rowOf y d = h
      · exact c
      · rw [if_pos (Or.inr ⟨rfl, by omega⟩)] at q; omega
  · rintro ⟨h1, h2⟩ e e0 e1
    have r := hr e e0 e1
    rw [show 25 * e + rowOf y e + 1 = 25 * e + (rowOf y e + 1) by omega, hb e _ e0 e1 (by omega) (by omega)]
    by_cases c : e < d
    · rw [if_neg (by rw [h1 e e0 c]; omega)]
    · by_cases c2 : e = d
      · subst c2; rw [if_neg (by rw [h2]; omega)]
      · rw [if_neg (by omega)]
theorem BarH.fix {A : Mm} {n d h : Int} {f : Int → Int} (hb : Bar A n f d) (hn : n ≤ 24) (hd : 0 ≤ d ∧ d < n) : BarH (fxM A d h (n + 1)) n f d h := by
  intro d' k a b c e
  rw [fxM_92]
  by_cases q : d' = d
  · subst q
    rw [if_pos (by omega)]
    by_cases r : k = h + 1
    · rw [if_pos (by omega), if_neg (by omega)]
    · rw [if_neg (by omega), if_pos (Or.inr ⟨rfl, r⟩)]
  · rw [if_neg (by omega), hb d' k a b c e]
    by_cases r : d' < d ∧ k ≠ f d' + 1
    · rw [if_pos r, if_pos (Or.inl r)]
    · rw [if_neg r, if_neg (by omega)]
theorem BarH.refix {A : Mm} {n d h h2 : Int} {f : Int → Int} (hb : BarH A n f d h) (hn : n ≤ 24) (hd : 0 ≤ d ∧ d < n) : BarH (fxM A d h2 (n + 1)) n f d h2 := by
  intro d' k a b c e
  rw [fxM_92]
  by_cases q : d' = d
  · subst q
    rw [if_pos (by omega)]
    by_cases r : k = h2 + 1
    · rw [if_pos (by omega), if_neg (by omega)]
    · rw [if_neg (by omega), if_pos (Or.inr ⟨rfl, r⟩)]
  · rw [if_neg (by omega), hb d' k a b c e]
    by_cases r : d' < d ∧ k ≠ f d' + 1
    · rw [if_pos (Or.inl r), if_pos (Or.inl r)]
    · rw [if_neg (by omega), if_neg (by omega)]
theorem HD.step {w : Int → Int → Int} {n c d h : Int} {f g : Int → Int} (hd : 0 ≤ d) (H : HD w n c f d) (hy : ∃ y ∈ wD n, cO w y = c ∧ (∀ k, 0 ≤ k → k < d → rowOf y k = f k) ∧ rowOf y d = h) (hno : ∀ y ∈ wD n, cO w y = c → (∀ k, 0 ≤ k → k < d → rowOf y k = f k) → h ≤ rowOf y d) (hg : ∀ k, g k = if k = d then h else f k) : HD w n c g (d + 1) := by
  have gk : ∀ k, k < d → g k = f k := fun k hk => by rw [hg, if_neg (by omega)]
  have gd : g d = h := by rw [hg, if_pos rfl]
  refine ⟨?_, fun y hy2 hc d' a b hk => ?_⟩
  · obtain ⟨y, y1, y2, y3, y4⟩ := hy
    refine ⟨y, y1, y2, fun k k0 k1 => ?_⟩
    by_cases ck : k = d
    · subst ck; rw [gd]; exact y4
    · rw [gk k (by omega)]; exact y3 k k0 (by omega)
  · by_cases cd : d' = d
    · subst cd
      rw [gd]
      exact hno y hy2 hc (fun k k0 k1 => by rw [hk k k0 k1]; exact gk k k1)
    · rw [gk d' (by omega)]
      exact H.2 y hy2 hc d' a (by omega) (fun k k0 k1 => by rw [hk k k0 k1]; exact gk k (by omega))
/-- what stands while the heads are found: C has keys and prices -/
def Ph3 (M C A : Mm) (c : Int) : Prop := Ph12 M C ∧ Sm C A [66, 92, 93, 94, 95] ∧ (∀ k : Int, k ≠ 39 → k ≠ 40 → A 66 k = C 66 k) ∧ A 66 39 = c ∧ isMin (w0 C) (M 66 24) c
def hdR (A : Mm) (n d : Int) : Prop := ∀ k, 0 ≤ k → k < d → -1 ≤ A 95 k ∧ A 95 k < n
theorem Ph3.w {M C A : Mm} {c : Int} (h : Ph3 M C A c) : A 90 = C 90 ∧ A 91 = C 91 ∧ A 66 24 = C 66 24 ∧ C 66 24 = M 66 24 := ⟨h.2.1 90 (by decide), h.2.1 91 (by decide), h.2.2.1 24 (by decide) (by decide), h.1.n⟩
/-- least() over A, where the prices are C's -/
theorem least_tells {M C A : Mm} {c z : Int} (hn : 1 ≤ M 66 24 ∧ M 66 24 ≤ 24) (hw : wgR M) (h : Ph3 M C A c) (hL : Lv (wR A) (wD (A 66 24)) z) : z ≤ 1000000 ∧ 0 ≤ z ∧ (∀ y ∈ wD (M 66 24), free A (M 66 24) y → z ≤ cO (w0 C) y) ∧ (z = 1000000 ∨ ∃ y ∈ wD (M 66 24), free A (M 66 24) y ∧ z = cO (w0 C) y) := by
  obtain ⟨e1, e2, e3, e4⟩ := h.w
  have hp : prSm A := prSm_sm (h.1.sm hn.2 hw) e1 e2 e3
  have e5 : A 66 24 = M 66 24 := e3.trans e4
  have := Lv_free hp (by rw [e5]; exact hn) hL
  rw [e5, w0_sm e1 e2 e3] at this
  exact this
theorem min_of {M C A : Mm} {z : Int} (hn : 1 ≤ M 66 24 ∧ M 66 24 ≤ 24) (hw : wgR M) (hC : Ph12 M C) (hS : Sm C A [92]) (h0 : Bar0 A (M 66 24)) (hL : Lv (wR A) (wD (A 66 24)) z) : isMin (w0 C) (M 66 24) z := by
  have e1 : A 90 = C 90 := hS 90 (by decide)
  have e2 : A 91 = C 91 := hS 91 (by decide)
  have e3 : A 66 = C 66 := hS 66 (by decide)
  have e5 : A 66 24 = M 66 24 := by rw [e3]; exact hC.n
  have hp : prSm A := prSm_sm (hC.sm hn.2 hw) e1 e2 (by rw [e3])
  obtain ⟨q1, q0, q2, q3⟩ := Lv_free hp (by rw [e5]; exact hn) hL
  rw [e5, w0_sm e1 e2 (by rw [e3])] at q2 q3
  refine ⟨fun y hy => q2 y hy (h0.free (wD_P hn hy)), ?_⟩
  rcases q3 with q | ⟨y, hy, _, q⟩
  · obtain ⟨y, hy⟩ := wD_ne hn
    have := q2 y hy (h0.free (wD_P hn hy))
    have s := (cO_small (hC.sm hn.2 hw) hn hy).2
    omega
  · exact ⟨y, hy, q.symm⟩
theorem isMin.sm {M C : Mm} {c : Int} (hn : 1 ≤ M 66 24 ∧ M 66 24 ≤ 24) (hw : wgR M) (hC : Ph12 M C) (h : isMin (w0 C) (M 66 24) c) : 0 ≤ c ∧ c ≤ 48000 := by
  obtain ⟨y, hy, q⟩ := h.2
  have := cO_small (hC.sm hn.2 hw) hn hy
  omega
/-- the head of d is found, or it is a later one -/
def FdC (w : Int → Int → Int) (n c : Int) (f : Int → Int) (d h z : Int) : Prop := (z = c → ∃ y ∈ wD n, cO w y = c ∧ (∀ k, 0 ≤ k → k < d → rowOf y k = f k) ∧ rowOf y d = h) ∧ (z ≠ c → ∀ y ∈ wD n, cO w y = c → (∀ k, 0 ≤ k → k < d → rowOf y k = f k) → rowOf y d ≠ h)
theorem found {M C B : Mm} {c z d h : Int} {f : Int → Int} (hn : 1 ≤ M 66 24 ∧ M 66 24 ≤ 24) (hw : wgR M) (h3 : Ph3 M C B c) (hb : BarH B (M 66 24) f d h) (hd : 0 ≤ d ∧ d < M 66 24) (hL : Lv (wR B) (wD (B 66 24)) z) : FdC (w0 C) (M 66 24) c f d h z := by
  obtain ⟨q1, q0, q2, q3⟩ := least_tells hn hw h3 hL
  have hm := h3.2.2.2.2
  have hc := hm.sm hn hw h3.1
  refine ⟨fun e => ?_, fun e y hy e1 e2 e3 => ?_⟩
  · rcases q3 with q | ⟨y, hy, hf, q⟩
    · omega
    · have := (hb.free hd (wD_P hn hy)).mp hf
      exact ⟨y, hy, by omega, this.1, this.2⟩
  · have := q2 y hy ((hb.free hd (wD_P hn hy)).mpr ⟨e2, e3⟩)
    rcases q3 with q | ⟨y2, hy2, hf, q⟩
    · omega
    · have := hm.1 y2 hy2
      omega
/-- only the arc of d to f d is barred -/
theorem barred1 {M C B A : Mm} {c z d : Int} (hn : 1 ≤ M 66 24 ∧ M 66 24 ≤ 24) (hw : wgR M) (h3 : Ph3 M C B c) (h0 : Bar0 A (M 66 24)) (hd : 0 ≤ d ∧ d < M 66 24) (hr : -1 ≤ A 95 d ∧ A 95 d < M 66 24) (hB : B 92 = (mput A 92 (25 * d + A 95 d + 1) 1) 92) (hL : Lv (wR B) (wD (B 66 24)) z) :
    B1z (w0 C) (M 66 24) (A 95) d z := by
  obtain ⟨q1, q0, q2, q3⟩ := least_tells hn hw h3 hL
  have key : ∀ y ∈ wD (M 66 24), free B (M 66 24) y ↔ rowOf y d ≠ A 95 d := by
    intro y hy
    have P := wD_P hn hy
    have hr2 : ∀ e, 0 ≤ e → e < M 66 24 → -1 ≤ rowOf y e ∧ rowOf y e < M 66 24 := fun e e0 e1 => (P.arc (row_mem ((P.1.2 e).mpr ⟨e0, by omega⟩))).2.1
    constructor
    · intro hf e
      have := hf d hd.1 hd.2
      rw [hB, e, mput_eq] at this
      omega
    · intro he e e0 e1
      have r := hr2 e e0 e1
      rw [hB, mput_nk (by
        intro q
        by_cases c : e = d
        · subst c; omega
        · omega)]
      rw [show 25 * e + rowOf y e + 1 = 25 * e + (rowOf y e + 1) by omega]
      exact h0 e _ e0 e1 (by omega) (by omega)
  refine ⟨q1, fun y hy e => q2 y hy ((key y hy).mpr e), q3.elim Or.inl (fun ⟨y, hy, hf, q⟩ => Or.inr ⟨y, hy, (key y hy).mp hf, q⟩)⟩
/-- the tree stands -/
def TFr (N : Mm) : Prop := (∀ i, 0 ≤ i → i < N 66 24 → KR N N i) ∧ (∀ h, 0 ≤ h → h < N 66 24 → N 91 h = rP N h ∧ ∀ d, 0 ≤ d → d < N 66 24 → N 90 (24 * h + d) = prc N h d) ∧ ∃ x, isBest (w0 N) (N 66 24) x ∧ N 66 39 = cO (w0 N) x ∧ (∀ d, 0 ≤ d → d < N 66 24 → N 95 d = rowOf x d) ∧ isNext (w0 N) (N 66 24) x 1000000 (N 66 40)
def TFm (M M' : Mm) : Prop := Sm M M' [66, 86, 87, 88, 89, 90, 91, 92, 93, 94, 95] ∧ (∀ k : Int, k ≠ 32 → k ≠ 39 → k ≠ 40 → M' 66 k = M 66 k) ∧ M' 66 32 = 1 ∧ TFr M'
theorem TF_end {M C A : Mm} {c nx : Int} (h3 : Ph3 M C A c) (h40 : A 66 40 = nx) (hH : HD (w0 C) (M 66 24) c (A 95) (M 66 24)) (hN : Nx (w0 C) (M 66 24) (A 95) (M 66 24) nx) : TFm M A := by
  obtain ⟨e1, e2, e3, e4⟩ := h3.w
  obtain ⟨⟨B, b1, b2⟩, s1, s2, s3, s4⟩ := h3
  have n5 : A 66 24 = M 66 24 := e3.trans e4
  have nB : B 66 24 = M 66 24 := b1.2.1 24 (by decide)
  have hs : Sm M A [66, 86, 87, 88, 89, 90, 91, 92, 93, 94, 95] := by
    intro a ha
    simp only [List.mem_cons, List.not_mem_nil, or_false, not_or] at ha
    rw [s1 a (by simp only [List.mem_cons, List.not_mem_nil, or_false]; omega), b2.1 a (by simp only [List.mem_cons, List.not_mem_nil, or_false]; omega), b1.1 a (by simp only [List.mem_cons, List.not_mem_nil, or_false]; omega)]
  have h66 : ∀ k : Int, k ≠ 32 → k ≠ 39 → k ≠ 40 → A 66 k = M 66 k := fun k q1 q2 q3 => by
    rw [s2 k q2 q3, b2.1 66 (by decide), b1.2.1 k q1]
  have hT : SmT M A := by
    refine ⟨fun a ha => hs a (fun q => ?_), fun k hk => h66 k (fun q => ?_) (fun q => ?_) (fun q => ?_)⟩
    · simp only [List.mem_cons, List.not_mem_nil, or_false] at ha q; omega
    all_goals (subst q; exact absurd hk (by decide))
  have hAB : ∀ a, a ∉ [66, 90, 91, 92, 93, 94, 95] → A a = B a := fun a ha => by
    simp only [List.mem_cons, List.not_mem_nil, or_false, not_or] at ha
    rw [s1 a (by simp only [List.mem_cons, List.not_mem_nil, or_false]; omega), b2.1 a (by simp only [List.mem_cons, List.not_mem_nil, or_false]; omega)]
  have hwA : w0 A = w0 C := w0_sm e1 e2 e3
  refine ⟨hs, h66, ?_, ?_, ?_, ?_⟩
  · rw [s2 32 (by decide) (by decide), b2.1 66 (by decide)]; exact b1.2.2.1
  · intro i a b
    rw [n5] at b
    rw [KR_T hT, KR_A (A := B) (fun a ha => hAB a (fun q => by simp only [List.mem_cons, List.not_mem_nil, or_false] at ha q; omega))]
    exact b1.2.2.2 i a b
  · intro h a b
    rw [n5] at b ⊢
    rw [e2, e1]
    have q := b2.2 h a b
    rw [nB] at q
    refine ⟨q.1.trans ?_, fun d d0 d1 => (q.2 d d0 d1).trans ?_⟩
    · unfold rP; rw [hAB 89 (by decide), hAB 76 (by decide)]
    · unfold prc
      rw [pR_sm (hAB 76 (by decide)) (hAB 84 (by decide)) (hAB 86 (by decide)) (hAB 87 (by decide)) (hAB 88 (by decide)) (hAB 89 (by decide)) (hAB 77 (by decide))]
  · obtain ⟨x, x1, x2, x3⟩ := hH.best s4
    rw [n5, hwA]
    exact ⟨x, x1, s3.trans x2, x3, by rw [h40]; exact hN.next x3⟩

theorem eR_sm {M A : Mm} {i : Int} (he : eR M) (h : Ph1 M A i) : eR A := by
  unfold eR at *
  rw [h.2.1 24 (by decide), h.1 79 (by decide), h.1 78 (by decide), h.1 85 (by decide)]
  exact he
theorem Ph1_next {M A B : Mm} {i : Int} (he : eR M) (h0 : 0 ≤ i) (h1 : i < M 66 24) (hP : Ph1 M A i) (q : ∃ z k0, MkK A (A 85 i) z k0 (B 89 i) ∧ MkI A B i k0 (A 79 (A 85 i))) : Ph1 M B (i + 1) := by
  obtain ⟨z, k0, q1, q2, q3⟩ := q
  have hT := hP.T
  have sB := q2.1
  refine ⟨fun a ha => ?_, fun k hk => ?_, ?_, fun j a b => ?_⟩
  · rw [sB a (fun q => ha (List.mem_cons_of_mem _ q))]; exact hP.1 a ha
  · rw [sB 66 (by decide)]; exact hP.2.1 k hk
  · rw [sB 66 (by decide)]; exact hP.2.2.1
  · by_cases cj : j = i
    · subst cj
      rw [← KR_T hT]
      exact ⟨z, k0, q1, q3⟩
    · have g := hP.2.2.2 j a (by omega)
      exact g.keep q2 cj ⟨a, h0⟩ ((g.B he ⟨a, by omega⟩).1.2)
theorem tree_next {M C2 A N : Mm} {c nx nx2 d : Int} {G : Prop} (hn : 1 ≤ M 66 24 ∧ M 66 24 ≤ 24) (h3 : Ph3 M C2 A c) (h40 : A 66 40 = nx) (hH : HD (w0 C2) (M 66 24) c (A 95) (M 66 24)) (hR : hdR A (M 66 24) (M 66 24)) (h0 : Bar0 A (M 66 24)) (hd : 0 ≤ d) (hdl : d < M 66 24) (hr : -1 ≤ A 95 d ∧ A 95 d < M 66 24) (hs : Sm (mput A 92 (25 * d + A 95 d + 1) 1) N [93, 94]) (hN : Nx (w0 C2) (M 66 24) (A 95) (d + 1) nx2) (hx : 0 ≤ nx2 ∧ nx2 ≤ 1000000)
    (k : Ph3 M C2 (mput (mput N 66 40 nx2) 92 (25 * d + A 95 d + 1) 0) c → mput (mput N 66 40 nx2) 92 (25 * d + A 95 d + 1) 0 66 40 = nx2 → (0 ≤ nx2 ∧ nx2 ≤ 1000000) → HD (w0 C2) (M 66 24) c (mput (mput N 66 40 nx2) 92 (25 * d + A 95 d + 1) 0 95) (M 66 24) → hdR (mput (mput N 66 40 nx2) 92 (25 * d + A 95 d + 1) 0) (M 66 24) (M 66 24) → Bar0 (mput (mput N 66 40 nx2) 92 (25 * d + A 95 d + 1) 0) (M 66 24) → Nx (w0 C2) (M 66 24) (mput (mput N 66 40 nx2) 92 (25 * d + A 95 d + 1) 0 95) (d + 1) nx2 → G) : G := by
  have e66 : N 66 = A 66 := by rw [hs 66 (by decide), mput_ne (by decide)]
  have e95 : mput (mput N 66 40 nx2) 92 (25 * d + A 95 d + 1) 0 95 = A 95 := by rw [mput_ne (by decide), mput_ne (by decide), hs 95 (by decide), mput_ne (by decide)]
  refine k ⟨h3.1, ?_, fun q q1 q2 => ?_, ?_, h3.2.2.2.2⟩ ?_ hx (by rw [e95]; exact hH) ?_ ?_ (by rw [e95]; exact hN)
  · intro a ha
    have a1 : a ≠ 66 := fun q => ha (by rw [q]; decide)
    have a2 : a ≠ 92 := fun q => ha (by rw [q]; decide)
    rw [mput_ne a2, mput_ne a1, hs a (fun q => by simp only [List.mem_cons, List.not_mem_nil, or_false] at q ha; omega), mput_ne a2]
    exact h3.2.1 a ha
  · rw [mput_ne (by decide), mput_nk q2, e66]; exact h3.2.2.1 q q1 q2
  · rw [mput_ne (by decide), mput_nk (by decide), e66]; exact h3.2.2.2.1
  · rw [mput_ne (by decide), mput_eq]
  · unfold hdR; rw [e95]; exact hR
  · intro d' q a b c2 e
    rw [mput_at]
    by_cases cq : 25 * d' + q = 25 * d + A 95 d + 1
    · rw [if_pos cq]
    · rw [if_neg cq, mput_ne (by decide), hs 92 (by decide), mput_nk cq]
      exact h0 d' q a b c2 e

set_option maxRecDepth 20000 in
set_option maxHeartbeats 4000000 in
theorem ct_X11_makeTree (E : Ev) (M : Mm) (he : eR M) (hn : 1 ≤ M 66 24 ∧ M 66 24 ≤ 24) (hwg : wgR M) (hT : tR M 6 70 60) (hS0 : tR M 10 72 30) (hN0 : tR M 13 75 10) : Ct E yX11_makeTree cX11_makeTree 3 none 5 [zr E 66] M (pV (fun M' => (M 66 32 ≠ 0 ∧ M' = M) ∨ TFm M M')) := by
  refine Ct.of (own := RX11) (lv0 := [some (zr E 66), none, none]) (by decide) rfl (Nat.le_of_ble_eq_true rfl) rfl (fun κ C => ?_)
  have L201 : ∀ (n9 : Nat) (d nx c : Int) (A C2 : Mm) (u2 : Option Value) (hd : 0 ≤ d ∧ d ≤ M 66 24) (h3 : Ph3 M C2 A c) (h40 : A 66 40 = nx) (hnx : 0 ≤ nx ∧ nx ≤ 1000000) (hH : HD (w0 C2) (M 66 24) c (A 95) (M 66 24)) (hR : hdR A (M 66 24) (M 66 24)) (h0 : Bar0 A (M 66 24)) (hN : Nx (w0 C2) (M 66 24) (A 95) d nx) (hm : (M 66 24 - d).toNat < n9), Gm E κ (pV (fun M' => (M 66 32 ≠ 0 ∧ M' = M) ∨ TFm M M')) 3 201 [some (zr E 66), some (zi d), u2] [] A := by
    intro n9
    induction n9 with
    | zero => intro d nx c A C2 u2 hd h3 h40 hnx hH hR h0 hN hm; exact absurd hm (Nat.not_lt_zero _)
    | succ n9 ih201 =>
      intro d nx c A C2 u2 hd h3 h40 hnx hH hR h0 hN hm
      have n1 : A 66 24 = M 66 24 := h3.w.2.2.1.trans h3.w.2.2.2
      refine s_iload_n C dX11_makeTree_201 rfl ?_
      refine s_aload_n C dX11_makeTree_202 rfl ?_
      refine s_geti (k := 24) (j := 24) (z := M 66 24) C dX11_makeTree_203 fl_X11_196 (by decide) rfl (by decide) rfl (n1) (fun r203 => ?_)
      refine s_icmp_ge (tgt := 278) C dX11_makeTree_206 (by decide) (by omega) (by omega) (fun c206 => ?_) (fun c206 => ?_)
      · skip
        exact s_return C dX11_makeTree_278 (⟨rfl, by have c0 : d = M 66 24 := (by omega); subst c0; exact Or.inr (TF_end h3 h40 hH hN)⟩)
      · skip
        have hr := hR d hd.1 (by omega)
        refine s_aload_n C dX11_makeTree_209 rfl ?_
        refine s_getr (k := 35) (b := 92) C dX11_makeTree_210 fl_X11_90 (by decide) rfl (by decide) rfl ?_
        refine s_bipush C dX11_makeTree_213 (by decide) ?_
        refine s_iload_n C dX11_makeTree_215 rfl ?_
        refine s_imul C dX11_makeTree_216 ?_
        refine s_aload_n C dX11_makeTree_217 rfl ?_
        refine s_getr (k := 38) (b := 95) C dX11_makeTree_218 fl_X11_100 (by decide) rfl (by decide) rfl ?_
        refine s_iload_n C dX11_makeTree_221 rfl ?_
        refine s_iaload (n := 24) (z := A 95 d) C dX11_makeTree_222 (by decide) rfl rfl (by omega) (by omega) (by omega) (rfl) (fun r222 => ?_)
        refine s_iadd C dX11_makeTree_223 ?_
        refine s_iconst C dX11_makeTree_224 ?_
        refine s_iadd C dX11_makeTree_225 ?_
        refine s_iconst C dX11_makeTree_226 ?_
        refine s_zastore (n := 600) C dX11_makeTree_227 (by decide) rfl rfl (by omega) (by omega) (by omega) (by decide) ?_
        refine s_aload_n C dX11_makeTree_228 rfl ?_
        have h3A : Ph3 M C2 (mput A 92 (25 * d + A 95 d + 1) 1) c := ⟨h3.1, h3.2.1.put (by decide), by rw [mput_ne (by decide)]; exact h3.2.2.1, by rw [mput_ne (by decide)]; exact h3.2.2.2.1, h3.2.2.2.2⟩
        have hpA : prOkR (mput A 92 (25 * d + A 95 d + 1) 1) := (prSm_sm (h3A.1.sm hn.2 hwg) h3A.w.1 h3A.w.2.1 h3A.w.2.2.1).ok
        refine s_callV0 C dX11_makeTree_229 cy_X11_least cv_X11_least lk_X11_232 (ct_X11_least E (mput A 92 (25 * d + A 95 d + 1) 1) (by rw [mput_ne (by decide), n1]; exact hn) hpA) (by decide) (by decide) (by first | decide | (decide)) rfl (Nat.le_of_ble_eq_true rfl) (k_I (fun z229 M229 q229 => ?_))
        have hb1 := barred1 hn hwg h3A h0 ⟨hd.1, by omega⟩ hr rfl q229.2
        have hz0 := (least_tells hn hwg h3A q229.2).1
        have hz00 := (least_tells hn hwg h3A q229.2).2.1
        have e66 : M229 66 = A 66 := by rw [q229.1 66 (by decide), mput_ne (by decide)]
        have e95 : M229 95 = A 95 := by rw [q229.1 95 (by decide), mput_ne (by decide)]
        refine s_istore_n (lv' := [_, _, _]) C dX11_makeTree_232 (by decide) rfl rfl ?_
        refine s_aload_n C dX11_makeTree_233 rfl ?_
        refine s_iload_n C dX11_makeTree_234 rfl ?_
        refine s_aload_n C dX11_makeTree_235 rfl ?_
        refine s_geti (k := 40) (j := 40) (z := nx) C dX11_makeTree_236 fl_X11_243 (by decide) rfl (by decide) rfl (by rw [e66]; exact h40) (fun r236 => ?_)
        refine s_icmp_ge (tgt := 246) C dX11_makeTree_239 (by decide) (by omega) (by omega) (fun c239 => ?_) (fun c239 => ?_)
        · skip
          refine s_aload_n C dX11_makeTree_246 rfl ?_
          refine s_geti (k := 40) (j := 40) (z := nx) C dX11_makeTree_247 fl_X11_243 (by decide) rfl (by decide) rfl (by rw [e66]; exact h40) (fun r247 => ?_)
          refine s_puti (k := 40) (j := 40) C dX11_makeTree_250 fp_X11_243 (by decide) rfl rfl rfl (by omega) ?_
          refine s_aload_n C dX11_makeTree_253 rfl ?_
          refine s_getr (k := 35) (b := 92) C dX11_makeTree_254 fl_X11_90 (by decide) rfl (by decide) rfl ?_
          refine s_bipush C dX11_makeTree_257 (by decide) ?_
          refine s_iload_n C dX11_makeTree_259 rfl ?_
          refine s_imul C dX11_makeTree_260 ?_
          refine s_aload_n C dX11_makeTree_261 rfl ?_
          refine s_getr (k := 38) (b := 95) C dX11_makeTree_262 fl_X11_100 (by decide) rfl (by decide) rfl ?_
          refine s_iload_n C dX11_makeTree_265 rfl ?_
          refine s_iaload (n := 24) (z := A 95 d) C dX11_makeTree_266 (by decide) rfl rfl (by omega) (by omega) (by omega) (by rw [mput_ne (by decide), e95]) (fun r266 => ?_)
          refine s_iadd C dX11_makeTree_267 ?_
          refine s_iconst C dX11_makeTree_268 ?_
          refine s_iadd C dX11_makeTree_269 ?_
          refine s_iconst C dX11_makeTree_270 ?_
          refine s_zastore (n := 600) C dX11_makeTree_271 (by decide) rfl rfl (by omega) (by omega) (by omega) (by decide) ?_
          refine s_iinc (lv' := [_, _, _]) C dX11_makeTree_272 rfl (by decide) rfl rfl rfl ?_
          refine s_goto (tgt := 201) C dX11_makeTree_275 (by decide) ?_
          first
            | (have hN2 := hN.more hd.1 hb1
               rw [if_pos c239] at hN2
               exact tree_next hn h3 h40 hH hR h0 hd.1 (by omega) hr q229.1 hN2 (by omega) (fun g1 g2 g3 g4 g5 g6 g7 => ih201 (d + 1) _ c _ C2 _ (by omega) g1 g2 g3 g4 g5 g6 g7 (by omega)))
            | (have hN2 := hN.more hd.1 hb1
               rw [if_neg (by omega)] at hN2
               exact tree_next hn h3 h40 hH hR h0 hd.1 (by omega) hr q229.1 hN2 (by omega) (fun g1 g2 g3 g4 g5 g6 g7 => ih201 (d + 1) _ c _ C2 _ (by omega) g1 g2 g3 g4 g5 g6 g7 (by omega)))
        · skip
          refine s_iload_n C dX11_makeTree_242 rfl ?_
          refine s_goto (tgt := 250) C dX11_makeTree_243 (by decide) ?_
          refine s_puti (k := 40) (j := 40) C dX11_makeTree_250 fp_X11_243 (by decide) rfl rfl rfl (by omega) ?_
          refine s_aload_n C dX11_makeTree_253 rfl ?_
          refine s_getr (k := 35) (b := 92) C dX11_makeTree_254 fl_X11_90 (by decide) rfl (by decide) rfl ?_
          refine s_bipush C dX11_makeTree_257 (by decide) ?_
          refine s_iload_n C dX11_makeTree_259 rfl ?_
          refine s_imul C dX11_makeTree_260 ?_
          refine s_aload_n C dX11_makeTree_261 rfl ?_
          refine s_getr (k := 38) (b := 95) C dX11_makeTree_262 fl_X11_100 (by decide) rfl (by decide) rfl ?_
          refine s_iload_n C dX11_makeTree_265 rfl ?_
          refine s_iaload (n := 24) (z := A 95 d) C dX11_makeTree_266 (by decide) rfl rfl (by omega) (by omega) (by omega) (by rw [mput_ne (by decide), e95]) (fun r266 => ?_)
          refine s_iadd C dX11_makeTree_267 ?_
          refine s_iconst C dX11_makeTree_268 ?_
          refine s_iadd C dX11_makeTree_269 ?_
          refine s_iconst C dX11_makeTree_270 ?_
          refine s_zastore (n := 600) C dX11_makeTree_271 (by decide) rfl rfl (by omega) (by omega) (by omega) (by decide) ?_
          refine s_iinc (lv' := [_, _, _]) C dX11_makeTree_272 rfl (by decide) rfl rfl rfl ?_
          refine s_goto (tgt := 201) C dX11_makeTree_275 (by decide) ?_
          first
            | (have hN2 := hN.more hd.1 hb1
               rw [if_pos c239] at hN2
               exact tree_next hn h3 h40 hH hR h0 hd.1 (by omega) hr q229.1 hN2 (by omega) (fun g1 g2 g3 g4 g5 g6 g7 => ih201 (d + 1) _ c _ C2 _ (by omega) g1 g2 g3 g4 g5 g6 g7 (by omega)))
            | (have hN2 := hN.more hd.1 hb1
               rw [if_neg (by omega)] at hN2
               exact tree_next hn h3 h40 hH hR h0 hd.1 (by omega) hr q229.1 hN2 (by omega) (fun g1 g2 g3 g4 g5 g6 g7 => ih201 (d + 1) _ c _ C2 _ (by omega) g1 g2 g3 g4 g5 g6 g7 (by omega)))
  have L137 : ∀ (n9 : Nat) (d c : Int) (A C2 : Mm) (u2 : Option Value) (hd : 0 ≤ d ∧ d ≤ M 66 24) (h3 : Ph3 M C2 A c) (hH : HD (w0 C2) (M 66 24) c (A 95) d) (hR : hdR A (M 66 24) d) (hb : Bar A (M 66 24) (A 95) d) (hm : (M 66 24 - d).toNat < n9), Gm E κ (pV (fun M' => (M 66 32 ≠ 0 ∧ M' = M) ∨ TFm M M')) 3 137 [some (zr E 66), some (zi d), u2] [] A := by
    intro n9
    induction n9 with
    | zero => intro d c A C2 u2 hd h3 hH hR hb hm; exact absurd hm (Nat.not_lt_zero _)
    | succ n9 ih137 =>
      intro d c A C2 u2 hd h3 hH hR hb hm
      have n1 : A 66 24 = M 66 24 := h3.w.2.2.1.trans h3.w.2.2.2
      have hc := h3.2.2.2.2.sm hn hwg h3.1
      have L153 : ∀ (n9 : Nat) (h : Int) (B : Mm) (hh : -1 ≤ h ∧ h < M 66 24) (hdl : d < M 66 24) (hS : Sm A B [92, 93, 94]) (hB : BarH B (M 66 24) (A 95) d h) (hno : ∀ y ∈ wD (M 66 24), cO (w0 C2) y = c → (∀ k, 0 ≤ k → k < d → rowOf y k = A 95 k) → h ≤ rowOf y d) (hm : (M 66 24 - h).toNat < n9), Gm E κ (pV (fun M' => (M 66 32 ≠ 0 ∧ M' = M) ∨ TFm M M')) 3 153 [some (zr E 66), some (zi d), some (zi h)] [] B := by
        intro n9
        induction n9 with
        | zero => intro h B  hh hdl hS hB hno hm; exact absurd hm (Nat.not_lt_zero _)
        | succ n9 ih153 =>
          intro h B  hh hdl hS hB hno hm
          have s66 : B 66 = A 66 := hS 66 (by decide)
          have n2 : B 66 24 = M 66 24 := by rw [s66]; exact n1
          have h3B : Ph3 M C2 B c := ⟨h3.1, h3.2.1.tr hS (by decide) (by decide), by rw [s66]; exact h3.2.2.1, by rw [s66]; exact h3.2.2.2.1, h3.2.2.2.2⟩
          have hpB : prOkR B := (prSm_sm (h3B.1.sm hn.2 hwg) h3B.w.1 h3B.w.2.1 h3B.w.2.2.1).ok
          refine s_aload_n C dX11_makeTree_153 rfl ?_
          refine s_callV0 C dX11_makeTree_154 cy_X11_least cv_X11_least lk_X11_232 (ct_X11_least E B (by rw [n2]; exact hn) hpB) (by decide) (by decide) (by first | decide | (decide)) rfl (Nat.le_of_ble_eq_true rfl) (k_I (fun z154 M154 q154 => ?_))
          have hz154 := (least_tells hn hwg h3B q154.2)
          have hf154 := found hn hwg h3B hB ⟨hd.1, hdl⟩ q154.2
          have hz0 := hz154.1
          have hz00 := hz154.2.1
          clear hz154
          refine s_aload_n C dX11_makeTree_157 rfl ?_
          refine s_geti (k := 39) (j := 39) (z := c) C dX11_makeTree_158 fl_X11_236 (by decide) rfl (by decide) rfl (by rw [q154.1 66 (by decide)]; exact h3B.2.2.2.1) (fun r158 => ?_)
          refine s_icmp_eq (tgt := 176) C dX11_makeTree_161 (by decide) (by omega) (by omega) (fun c161 => ?_) (fun c161 => ?_)
          · skip
            refine s_aload_n C dX11_makeTree_176 rfl ?_
            refine s_getr (k := 38) (b := 95) C dX11_makeTree_177 fl_X11_100 (by decide) rfl (by decide) rfl ?_
            refine s_iload_n C dX11_makeTree_180 rfl ?_
            refine s_iload_n C dX11_makeTree_181 rfl ?_
            refine s_iastore (n := 24) C dX11_makeTree_182 (by decide) rfl rfl (by omega) (by omega) (by omega) (by omega) ?_
            refine s_iinc (lv' := [_, _, _]) C dX11_makeTree_183 rfl (by decide) rfl rfl rfl ?_
            refine s_goto (tgt := 137) C dX11_makeTree_186 (by decide) ?_
            have e95 : M154 95 = A 95 := by rw [q154.1 95 (by decide), hS 95 (by decide)]
            have e66 : M154 66 = A 66 := by rw [q154.1 66 (by decide), hS 66 (by decide)]
            have eg : ∀ k, mput M154 95 d h 95 k = if k = d then h else A 95 k := fun k => by rw [mput_at, e95]
            refine ih137 (d + 1) c _ C2 _ (by omega) ⟨h3.1, ?_, ?_, ?_, h3.2.2.2.2⟩ (hH.step hd.1 (hf154.1 c161) hno eg) (fun k a b => ?_) (fun d' k a b c2 e => ?_) (by omega)
            · exact (h3B.2.1.tr q154.1 (l := [66, 92, 93, 94, 95]) (by decide) (by decide)).put (by decide)
            · rw [mput_ne (by decide), e66]; exact h3.2.2.1
            · rw [mput_ne (by decide), e66]; exact h3.2.2.2.1
            · rw [eg]
              by_cases ck : k = d
              · rw [if_pos ck]; omega
              · rw [if_neg ck]; exact hR k a (by omega)
            · rw [mput_ne (by decide), q154.1 92 (by decide), hB d' k a b c2 e, eg]
              by_cases cd : d' = d
              · subst cd
                rw [if_pos rfl]
                by_cases cq : k = h + 1
                · rw [if_neg (by omega), if_neg (by omega)]
                · rw [if_pos (Or.inr ⟨rfl, cq⟩), if_pos (by omega)]
              · rw [if_neg cd]
                by_cases cq : d' < d ∧ k ≠ A 95 d' + 1
                · rw [if_pos (Or.inl cq), if_pos (by omega)]
                · rw [if_neg (by omega), if_neg (by omega)]
          · skip
            have hlt : h + 1 < M 66 24 := by
              obtain ⟨y, y1, y2, y3⟩ := hH.1
              have g1 := hno y y1 y2 y3
              have g2 := hf154.2 c161 y y1 y2 y3
              have P := wD_P hn y1
              have g3 := (P.arc (row_mem ((P.1.2 d).mpr ⟨hd.1, by omega⟩))).2.1
              omega
            refine s_iinc (lv' := [_, _, _]) C dX11_makeTree_164 rfl (by decide) rfl rfl rfl ?_
            refine s_aload_n C dX11_makeTree_167 rfl ?_
            refine s_iload_n C dX11_makeTree_168 rfl ?_
            refine s_iload_n C dX11_makeTree_169 rfl ?_
            refine s_callV2 C dX11_makeTree_170 cy_X11_fix cv_X11_fix lk_X11_239 (ct_X11_fix E M154 d (h + 1) (by omega) (by omega) (by rw [q154.1 66 (by decide)]; omega)) (by decide) (by decide) (by first | decide | (decide)) rfl (Nat.le_of_ble_eq_true rfl) (k_V (fun M170 q170 => ?_))
            rw [q154.1 66 (by decide), n2] at q170
            subst q170
            refine s_goto (tgt := 153) C dX11_makeTree_173 (by decide) ?_
            refine ih153 (h + 1) _ (by omega) hdl ?_ ?_ (fun y y1 y2 y3 => ?_) (by omega)
            · intro a ha
              rw [fxM_ne (fun q => ha (by rw [q]; decide)), q154.1 a (fun q => ha (List.mem_cons_of_mem _ q))]
              exact hS a ha
            · have hB4 : BarH M154 (M 66 24) (A 95) d h := by
                intro d' k a b c e
                rw [q154.1 92 (by decide)]
                exact hB d' k a b c e
              exact hB4.refix hn.2 ⟨hd.1, hdl⟩
            · have g1 := hno y y1 y2 y3
              have g2 := hf154.2 c161 y y1 y2 y3
              omega
      refine s_iload_n C dX11_makeTree_137 rfl ?_
      refine s_aload_n C dX11_makeTree_138 rfl ?_
      refine s_geti (k := 24) (j := 24) (z := M 66 24) C dX11_makeTree_139 fl_X11_196 (by decide) rfl (by decide) rfl (n1) (fun r139 => ?_)
      refine s_icmp_ge (tgt := 189) C dX11_makeTree_142 (by decide) (by omega) (by omega) (fun c142 => ?_) (fun c142 => ?_)
      · skip
        have c0 : d = M 66 24 := by omega
        subst c0
        refine s_aload_n C dX11_makeTree_189 rfl ?_
        refine s_ldc C dX11_makeTree_190 kc_X11_218 ?_
        refine s_puti (k := 40) (j := 40) C dX11_makeTree_192 fp_X11_243 (by decide) rfl rfl rfl (by omega) ?_
        refine s_aload_n C dX11_makeTree_195 rfl ?_
        refine s_callV0 C dX11_makeTree_196 cy_X11_allMay cv_X11_allMay lk_X11_229 (ct_X11_allMay E (mput A 66 40 1000000)) (by decide) (by decide) (by first | decide | (decide)) rfl (Nat.le_of_ble_eq_true rfl) (k_V (fun M196 q196 => ?_))
        subst q196
        refine s_iconst C dX11_makeTree_199 ?_
        refine s_istore_n (lv' := [_, _, _]) C dX11_makeTree_200 (by decide) rfl rfl ?_
        refine L201 _ 0 1000000 c _ C2 _ (by omega) ⟨h3.1, ?_, fun k k1 k2 => ?_, ?_, h3.2.2.2.2⟩ ?_ (by omega) ?_ ?_ (fun d k a b c e => ?_) ⟨Int.le_refl _, fun y _ ⟨k, a, b, _⟩ => by omega, Or.inl rfl⟩ (Nat.lt_succ_self _)
        · intro a ha
          rw [mfl_ne (fun q => ha (by rw [q]; decide)), mput_ne (fun q => ha (by rw [q]; decide))]
          exact h3.2.1 a ha
        · rw [mfl_ne (by decide), mput_nk k2]; exact h3.2.2.1 k k1 k2
        · rw [mfl_ne (by decide), mput_nk (by decide)]; exact h3.2.2.2.1
        · rw [mfl_ne (by decide), mput_eq]
        · rw [mfl_ne (by decide), mput_ne (by decide)]; exact hH
        · intro k a b; rw [mfl_ne (by decide), mput_ne (by decide)]; exact hR k a b
        · rw [mfl_at, if_pos (by omega)]
      · skip
        refine s_iconst C dX11_makeTree_145 ?_
        refine s_istore_n (lv' := [_, _, _]) C dX11_makeTree_146 (by decide) rfl rfl ?_
        refine s_aload_n C dX11_makeTree_147 rfl ?_
        refine s_iload_n C dX11_makeTree_148 rfl ?_
        refine s_iload_n C dX11_makeTree_149 rfl ?_
        refine s_callV2 C dX11_makeTree_150 cy_X11_fix cv_X11_fix lk_X11_239 (ct_X11_fix E A d (-1) (by omega) (by omega) (by omega)) (by decide) (by decide) (by first | decide | (decide)) rfl (Nat.le_of_ble_eq_true rfl) (k_V (fun M150 q150 => ?_))
        rw [n1] at q150
        subst q150
        refine L153 _ (-1) _ (by omega) (by omega) (fun a ha => fxM_ne (fun q => ha (by rw [q]; decide))) (BarH.fix hb hn.2 (by omega)) (fun y y1 y2 y3 => ?_) (Nat.lt_succ_self _)
        have P := wD_P hn y1
        exact (P.arc (row_mem ((P.1.2 d).mpr ⟨hd.1, by omega⟩))).2.1.1
  have L36 : ∀ (n9 : Nat) (h : Int) (A B : Mm) (u2 : Option Value) (hh : 0 ≤ h ∧ h ≤ M 66 24) (hP1 : Ph1 M B (M 66 24)) (hP2 : Ph2 B A h) (hm : (M 66 24 - h).toNat < n9), Gm E κ (pV (fun M' => (M 66 32 ≠ 0 ∧ M' = M) ∨ TFm M M')) 3 36 [some (zr E 66), some (zi h), u2] [] A := by
    intro n9
    induction n9 with
    | zero => intro h A B u2 hh hP1 hP2 hm; exact absurd hm (Nat.not_lt_zero _)
    | succ n9 ih36 =>
      intro h A B u2 hh hP1 hP2 hm
      have nB : B 66 24 = M 66 24 := hP1.2.1 24 (by decide)
      have n1 : A 66 24 = M 66 24 := by rw [hP2.1 66 (by decide)]; exact nB
      have s89 : A 89 = B 89 := hP2.1 89 (by decide)
      have s76 : A 76 = B 76 := hP2.1 76 (by decide)
      have L76 : ∀ (n9 : Nat) (d : Int) (A2 : Mm) (hd : 0 ≤ d ∧ d ≤ M 66 24) (hhl : h < M 66 24) (hP3 : Ph2b B A2 h d) (hm : (M 66 24 - d).toNat < n9), Gm E κ (pV (fun M' => (M 66 32 ≠ 0 ∧ M' = M) ∨ TFm M M')) 3 76 [some (zr E 66), some (zi h), some (zi d)] [] A2 := by
        intro n9
        induction n9 with
        | zero => intro d A2  hd hhl hP3 hm; exact absurd hm (Nat.not_lt_zero _)
        | succ n9 ih76 =>
          intro d A2  hd hhl hP3 hm
          have n2 : A2 66 24 = M 66 24 := by rw [hP3.1.1 66 (by decide)]; exact nB
          refine s_iload_n C dX11_makeTree_76 rfl ?_
          refine s_aload_n C dX11_makeTree_77 rfl ?_
          refine s_geti (k := 24) (j := 24) (z := M 66 24) C dX11_makeTree_78 fl_X11_196 (by decide) rfl (by decide) rfl (n2) (fun r78 => ?_)
          refine s_icmp_ge (tgt := 117) C dX11_makeTree_81 (by decide) (by omega) (by omega) (fun c81 => ?_) (fun c81 => ?_)
          · skip
            refine s_iinc (lv' := [_, _, _]) C dX11_makeTree_117 rfl (by decide) rfl rfl rfl ?_
            refine s_goto (tgt := 36) C dX11_makeTree_120 (by decide) ?_
            exact ih36 _ _ _ _ (by omega) hP1 (by have c0 : d = B 66 24 := (by omega); subst c0; exact hP3.next) (by omega)
          · skip
            refine s_aload_n C dX11_makeTree_84 rfl ?_
            refine s_getr (k := 33) (b := 90) C dX11_makeTree_85 fl_X11_84 (by decide) rfl (by decide) rfl ?_
            refine s_bipush C dX11_makeTree_88 (by decide) ?_
            refine s_iload_n C dX11_makeTree_90 rfl ?_
            refine s_imul C dX11_makeTree_91 ?_
            refine s_iload_n C dX11_makeTree_92 rfl ?_
            refine s_iadd C dX11_makeTree_93 ?_
            refine s_iload_n C dX11_makeTree_94 rfl ?_
            refine s_iload_n C dX11_makeTree_95 rfl ?_
            refine s_icmp_ne (tgt := 104) C dX11_makeTree_96 (by decide) (by omega) (by omega) (fun c96 => ?_) (fun c96 => ?_)
            · skip
              refine s_aload_n C dX11_makeTree_104 rfl ?_
              refine s_iload_n C dX11_makeTree_105 rfl ?_
              refine s_iload_n C dX11_makeTree_106 rfl ?_
              refine s_callV2 C dX11_makeTree_107 cy_X11_priceOf cv_X11_priceOf lk_X11_226 (ct_X11_priceOf E A2 h d (by omega) (by omega) (by have k9 : KyB B h := (hP1.2.2.2 h (by omega) (by omega)).B he (by omega); unfold KyB at *; rw [hP3.1.1 86 (by decide), hP3.1.1 87 (by decide), hP3.1.1 88 (by decide)]; exact k9) (by have k9 : KyB B d := (hP1.2.2.2 d (by omega) (by omega)).B he (by omega); unfold KyB at *; rw [hP3.1.1 86 (by decide), hP3.1.1 87 (by decide), hP3.1.1 88 (by decide)]; exact k9)) (by decide) (by decide) (by first | decide | (decide)) rfl (Nat.le_of_ble_eq_true rfl) (k_P (fun z107 q107 => ?_))
              rw [pR_sm (B := B) (hP3.1.1 76 (by decide)) (hP3.1.1 84 (by decide)) (hP3.1.1 86 (by decide)) (hP3.1.1 87 (by decide)) (hP3.1.1 88 (by decide)) (hP3.1.1 89 (by decide)) (hP3.1.1 77 (by decide))] at q107
              have hpr := pR_rg (M := B) (by rw [hP1.1 76 (by decide)]; exact hwg) (h := h) (d := d) (by omega) (by omega) c96
              refine s_iastore (n := 576) C dX11_makeTree_110 (by decide) rfl rfl (by omega) (by omega) (by omega) (by first | omega | decide) ?_
              refine s_iinc (lv' := [_, _, _]) C dX11_makeTree_111 rfl (by decide) rfl rfl rfl ?_
              refine s_goto (tgt := 76) C dX11_makeTree_114 (by decide) ?_
              first
                | exact ih76 _ _ (by omega) hhl (hP3.put (by omega) (by omega) (by omega) (by unfold prc; rw [if_neg c96]; exact q107)) (by omega)
                | exact ih76 _ _ (by omega) hhl (hP3.put (by omega) (by omega) (by omega) (by unfold prc; rw [if_pos c96])) (by omega)
            · skip
              refine s_ldc C dX11_makeTree_99 kc_X11_218 ?_
              refine s_goto (tgt := 110) C dX11_makeTree_101 (by decide) ?_
              refine s_iastore (n := 576) C dX11_makeTree_110 (by decide) rfl rfl (by omega) (by omega) (by omega) (by first | omega | decide) ?_
              refine s_iinc (lv' := [_, _, _]) C dX11_makeTree_111 rfl (by decide) rfl rfl rfl ?_
              refine s_goto (tgt := 76) C dX11_makeTree_114 (by decide) ?_
              first
                | exact ih76 _ _ (by omega) hhl (hP3.put (by omega) (by omega) (by omega) (by unfold prc; rw [if_neg c96]; exact q107)) (by omega)
                | exact ih76 _ _ (by omega) hhl (hP3.put (by omega) (by omega) (by omega) (by unfold prc; rw [if_pos c96])) (by omega)
      refine s_iload_n C dX11_makeTree_36 rfl ?_
      refine s_aload_n C dX11_makeTree_37 rfl ?_
      refine s_geti (k := 24) (j := 24) (z := M 66 24) C dX11_makeTree_38 fl_X11_196 (by decide) rfl (by decide) rfl (n1) (fun r38 => ?_)
      refine s_icmp_ge (tgt := 123) C dX11_makeTree_41 (by decide) (by omega) (by omega) (fun c41 => ?_) (fun c41 => ?_)
      · skip
        have c0 : h = M 66 24 := by omega
        subst c0
        have hC : Ph12 M A := ⟨B, hP1, hP2⟩
        refine s_aload_n C dX11_makeTree_123 rfl ?_
        refine s_callV0 C dX11_makeTree_124 cy_X11_allMay cv_X11_allMay lk_X11_229 (ct_X11_allMay E A) (by decide) (by decide) (by first | decide | (decide)) rfl (Nat.le_of_ble_eq_true rfl) (k_V (fun M124 q124 => ?_))
        have sD0 : Sm A M124 [92] := by
          rw [q124]; intro a ha; exact mfl_ne (fun q => ha (by rw [q]; decide))
        have nD : M124 66 24 = M 66 24 := by rw [sD0 66 (by decide)]; exact n1
        have bD : Bar0 M124 (M 66 24) := by
          rw [q124]; intro d k a b c e; rw [mfl_at, if_pos (by omega)]
        clear q124
        refine s_aload_n C dX11_makeTree_127 rfl ?_
        refine s_aload_n C dX11_makeTree_128 rfl ?_
        refine s_callV0 C dX11_makeTree_129 cy_X11_least cv_X11_least lk_X11_232 (ct_X11_least E M124 (by rw [nD]; exact hn) (prSm_sm (hC.sm hn.2 hwg) (sD0 90 (by decide)) (sD0 91 (by decide)) (by rw [sD0 66 (by decide)])).ok) (by decide) (by decide) (by first | decide | (decide)) rfl (Nat.le_of_ble_eq_true rfl) (k_I (fun z129 M129 q129 => ?_))
        have hmin := min_of hn hwg hC sD0 bD q129.2
        have hz129 := hmin.sm hn hwg hC
        refine s_puti (k := 39) (j := 39) C dX11_makeTree_132 fp_X11_236 (by decide) rfl rfl rfl (by omega) ?_
        refine s_iconst C dX11_makeTree_135 ?_
        refine s_istore_n (lv' := [_, _, _]) C dX11_makeTree_136 (by decide) rfl rfl ?_
        refine L137 _ 0 z129 _ A _ (by omega) ⟨hC, ?_, fun k k1 k2 => ?_, by rw [mput_eq], hmin⟩ ⟨?_, fun y _ _ d' a b => by omega⟩ (fun k a b => by omega) ?_ (Nat.lt_succ_self _)
        · exact (sD0.tr q129.1 (l := [66, 92, 93, 94, 95]) (by decide) (by decide)).put (by decide)
        · rw [mput_nk k1, q129.1 66 (by decide), sD0 66 (by decide)]
        · obtain ⟨y, y1, y2⟩ := hmin.2
          exact ⟨y, y1, y2, fun k a b => by omega⟩
        · intro d' k a b c e
          rw [mput_ne (by decide), q129.1 92 (by decide), if_neg (by omega)]
          exact bD d' k a b c e
      · skip
        refine s_aload_n C dX11_makeTree_44 rfl ?_
        refine s_getr (k := 34) (b := 91) C dX11_makeTree_45 fl_X11_87 (by decide) rfl (by decide) rfl ?_
        refine s_iload_n C dX11_makeTree_48 rfl ?_
        refine s_aload_n C dX11_makeTree_49 rfl ?_
        refine s_getr (k := 31) (b := 89) C dX11_makeTree_50 fl_X11_81 (by decide) rfl (by decide) rfl ?_
        refine s_iload_n C dX11_makeTree_53 rfl ?_
        refine s_iaload (n := 24) (z := B 89 h) C dX11_makeTree_54 (by decide) rfl rfl (by omega) (by omega) (by omega) (by rw [s89]) (fun r54 => ?_)
        refine s_iconst C dX11_makeTree_55 ?_
        refine s_iconst C dX11_makeTree_56 ?_
        refine s_callS3 C dX11_makeTree_57 cy_X11_in cs_X11_in lk_X11_139 (ct_X11_in E A (B 89 h) 1 3 r54 (by decide) (by decide)) (by decide) (Nat.le_of_ble_eq_true rfl) (k_P (fun z57 q57 => ?_))
        have k57 : (z57 = 1 ∧ 1 ≤ B 89 h ∧ B 89 h ≤ 3) ∨ (z57 = 0 ∧ ¬ (1 ≤ B 89 h ∧ B 89 h ≤ 3)) := q57
        clear q57
        refine s_if_eq (tgt := 72) C dX11_makeTree_60 (by decide) (by omega) (fun c60 => ?_) (fun c60 => ?_)
        · skip
          refine s_iconst C dX11_makeTree_72 ?_
          refine s_iastore (n := 24) C dX11_makeTree_73 (by decide) rfl rfl (by omega) (by omega) (by omega) (by omega) ?_
          refine s_iconst C dX11_makeTree_74 ?_
          refine s_istore_n (lv' := [_, _, _]) C dX11_makeTree_75 (by decide) rfl rfl ?_
          exact L76 _ 0 _ (by omega) (by omega) (hP2.put (by
            unfold rP
            first
              | (rw [if_pos (by omega)]; done)
              | (rw [if_neg (by omega)]; done))) (Nat.lt_succ_self _)
        · skip
          refine s_aload_n C dX11_makeTree_63 rfl ?_
          refine s_getr (k := 14) (b := 76) C dX11_makeTree_64 fl_X11_38 (by decide) rfl (by decide) rfl ?_
          refine s_iconst C dX11_makeTree_67 ?_
          refine s_iaload (n := 4) (z := B 76 2) C dX11_makeTree_68 (by decide) rfl rfl (by omega) (by omega) (by omega) (by rw [s76]) (fun r68 => ?_)
          refine s_goto (tgt := 73) C dX11_makeTree_69 (by decide) ?_
          refine s_iastore (n := 24) C dX11_makeTree_73 (by decide) rfl rfl (by omega) (by omega) (by omega) (by omega) ?_
          refine s_iconst C dX11_makeTree_74 ?_
          refine s_istore_n (lv' := [_, _, _]) C dX11_makeTree_75 (by decide) rfl rfl ?_
          exact L76 _ 0 _ (by omega) (by omega) (hP2.put (by
            unfold rP
            first
              | (rw [if_pos (by omega)]; done)
              | (rw [if_neg (by omega)]; done))) (Nat.lt_succ_self _)
  have L15 : ∀ (n9 : Nat) (i : Int) (A : Mm) (u2 : Option Value) (hi : 0 ≤ i ∧ i ≤ M 66 24) (hP : Ph1 M A i) (hm : (M 66 24 - i).toNat < n9), Gm E κ (pV (fun M' => (M 66 32 ≠ 0 ∧ M' = M) ∨ TFm M M')) 3 15 [some (zr E 66), some (zi i), u2] [] A := by
    intro n9
    induction n9 with
    | zero => intro i A u2 hi hP hm; exact absurd hm (Nat.not_lt_zero _)
    | succ n9 ih15 =>
      intro i A u2 hi hP hm
      have n1 : A 66 24 = M 66 24 := hP.2.1 24 (by decide)
      refine s_iload_n C dX11_makeTree_15 rfl ?_
      refine s_aload_n C dX11_makeTree_16 rfl ?_
      refine s_geti (k := 24) (j := 24) (z := M 66 24) C dX11_makeTree_17 fl_X11_196 (by decide) rfl (by decide) rfl (n1) (fun r17 => ?_)
      refine s_icmp_ge (tgt := 34) C dX11_makeTree_20 (by decide) (by omega) (by omega) (fun c20 => ?_) (fun c20 => ?_)
      · skip
        refine s_iconst C dX11_makeTree_34 ?_
        refine s_istore_n (lv' := [_, _, _]) C dX11_makeTree_35 (by decide) rfl rfl ?_
        have c0 : i = M 66 24 := by omega
        subst c0
        exact L36 _ 0 A A _ (by omega) hP ⟨Sm.rf A _, fun h a b => by omega⟩ (Nat.lt_succ_self _)
      · skip
        refine s_aload_n C dX11_makeTree_23 rfl ?_
        refine s_iload_n C dX11_makeTree_24 rfl ?_
        refine s_callV1 C dX11_makeTree_25 cy_X11_makeKeys cv_X11_makeKeys lk_X11_222 (ct_X11_makeKeys E A i (eR_sm he hP) (by rw [n1]; omega) (by unfold tR; rw [hP.2.1 6 (by decide), hP.1 70 (by decide)]; exact hT) (by unfold tR; rw [hP.2.1 10 (by decide), hP.1 72 (by decide)]; exact hS0) (by unfold tR; rw [hP.2.1 13 (by decide), hP.1 75 (by decide)]; exact hN0)) (by decide) (by decide) (by first | decide | (decide)) rfl (Nat.le_of_ble_eq_true rfl) (k_V (fun M25 q25 => ?_))
        refine s_iinc (lv' := [_, _, _]) C dX11_makeTree_28 rfl (by decide) rfl rfl rfl ?_
        refine s_goto (tgt := 15) C dX11_makeTree_31 (by decide) ?_
        exact ih15 _ _ _ (by omega) (Ph1_next he hi.1 (by omega) hP q25) (by omega)
  refine s_aload_n C dX11_makeTree_0 rfl ?_
  refine s_getz (k := 32) (j := 32) C dX11_makeTree_1 fl_X11_176 (by decide) rfl (by decide) rfl (rfl) (fun r1 => ?_)
  refine s_if_eq (tgt := 8) C dX11_makeTree_4 (by decide) (by omega) (fun c4 => ?_) (fun c4 => ?_)
  · skip
    refine s_aload_n C dX11_makeTree_8 rfl ?_
    refine s_iconst C dX11_makeTree_9 ?_
    refine s_putz (k := 32) (j := 32) C dX11_makeTree_10 fp_X11_176 (by decide) rfl rfl rfl (by decide) ?_
    refine s_iconst C dX11_makeTree_13 ?_
    refine s_istore_n (lv' := [_, _, _]) C dX11_makeTree_14 (by decide) rfl rfl ?_
    exact L15 _ 0 _ _ (by omega) ⟨(Sm.rf M _).put (by decide), fun k hk => by rw [mput_nk hk], by rw [mput_eq], fun j a b => by omega⟩ (Nat.lt_succ_self _)
  · skip
    exact s_return C dX11_makeTree_7 (⟨rfl, Or.inl ⟨c4, rfl⟩⟩)
