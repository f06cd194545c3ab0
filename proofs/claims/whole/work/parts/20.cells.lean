/-! the forest's cells, by what they stand for -/
def Cg (w : Int → Int → Int) (M : Mm) (c : Int) (L : List Drv) : Prop := Gd w (M 46 c) (M 47 c) (M 48 c) (M 49 c) L
def Cs0 (w : Int → Int → Int) (M : Mm) (c : Int) (L : List Drv) : Prop := Gs w (M 46 c) (M 47 c) (M 48 c) (M 49 c) L
def On (M M' : Mm) (cs : List Int) : Prop := Sm M M' [46, 47, 48, 49] ∧ ∀ c, c ∉ cs → M' 46 c = M 46 c ∧ M' 47 c = M 47 c ∧ M' 48 c = M 48 c ∧ M' 49 c = M 49 c
theorem On.rf (M : Mm) (cs : List Int) : On M M cs := ⟨Sm.rf M _, fun _ _ => ⟨rfl, rfl, rfl, rfl⟩⟩
theorem On.tr {M M1 M2 : Mm} {cs cs' : List Int} (h : On M M1 cs) (h' : On M1 M2 cs') (hs : ∀ c ∈ cs', c ∈ cs) : On M M2 cs := by
  refine ⟨fun a ha => by rw [h'.1 a ha, h.1 a ha], fun c hc => ?_⟩
  obtain ⟨a1, a2, a3, a4⟩ := h.2 c hc
  obtain ⟨b1, b2, b3, b4⟩ := h'.2 c (fun q => hc (hs c q))
  exact ⟨by rw [b1, a1], by rw [b2, a2], by rw [b3, a3], by rw [b4, a4]⟩
theorem On.wk {M M' : Mm} {cs cs' : List Int} (h : On M M' cs) (hs : ∀ c ∈ cs, c ∈ cs') : On M M' cs' := ⟨h.1, fun c hc => h.2 c (fun q => hc (hs c q))⟩
theorem Cg.on {w : Int → Int → Int} {M M' : Mm} {cs : List Int} {c : Int} {L : List Drv} (h : Cg w M c L) (ho : On M M' cs) (hc : c ∉ cs) : Cg w M' c L := by
  obtain ⟨a1, a2, a3, a4⟩ := ho.2 c hc
  unfold Cg
  rw [a1, a2, a3, a4]
  exact h
theorem Cg.num {w : Int → Int → Int} {M : Mm} {c : Int} {L : List Drv} (h : Cg w M c L) (p : Pw w L) : (0 ≤ M 46 c ∧ M 46 c ≤ 100000) ∧ (0 ≤ M 47 c ∧ M 47 c ≤ 268435456) ∧ (0 ≤ M 48 c ∧ M 48 c < 1152921504606846976) ∧ (0 ≤ M 49 c ∧ M 49 c < 1152921504606846976) := by
  obtain ⟨x, R, hp, h1, h2, h3, -, h4⟩ := h
  have hx := p x (hp.symm.subset List.mem_cons_self)
  have hR : 0 ≤ mnC w R := mnC_lb (by decide) (fun z hz => (p z (hp.symm.subset (List.mem_cons_of_mem _ hz))).1.1)
  have hR2 := mnC_le w R
  have hU : UU = 268435456 := rfl
  have hB : B60 = 1152921504606846976 := rfl
  omega
theorem fEmpty_on (M : Mm) (c : Int) : On M (fEmpty M c) [c] := by
  unfold fEmpty
  refine ⟨((((Sm.rf M _).put (by decide)).put (by decide)).put (by decide)).put (by decide), fun k hk => ?_⟩
  have hk : k ≠ c := fun q => hk (by rw [q]; exact List.mem_cons_self)
  simp (disch := first | decide | assumption) only [mput_ne, mput_nk]
  exact ⟨trivial, trivial, trivial, trivial⟩
theorem fEmpty_Cs (w : Int → Int → Int) (M : Mm) (c : Int) : Cs0 w (fEmpty M c) c [] := by
  unfold Cs0 fEmpty
  simp (disch := decide) only [mput_ne, mput_eq]
  exact Or.inl ⟨rfl, rfl, rfl, rfl, rfl⟩
theorem fm_next {F : Int → List Drv} {a k : Int} (h : a ≤ k) : (rgI a (k + 1 - 1)).flatMap F = (rgI a (k - 1)).flatMap F ++ F k := by
  rw [show k + 1 - 1 = (k - 1) + 1 by omega, rgI_succ (by omega), List.flatMap_append, show k - 1 + 1 = k by omega]
  simp
theorem Pw_part {w : Int → Int → Int} {F : Int → List Drv} {a b k : Int} (h : Pw w ((rgI a b).flatMap F)) (hk : k ≤ b) : Pw w ((rgI a k).flatMap F) := by
  intro x hx
  obtain ⟨d, hd, hx⟩ := List.mem_flatMap.mp hx
  obtain ⟨d1, d2⟩ := mem_rgI.mp hd
  exact h x (List.mem_flatMap.mpr ⟨d, mem_rgI.mpr ⟨d1, by omega⟩, hx⟩)
theorem Pw_at {w : Int → Int → Int} {F : Int → List Drv} {a b k : Int} (h : Pw w ((rgI a b).flatMap F)) (h1 : a ≤ k) (h2 : k ≤ b) : Pw w (F k) :=
  fun x hx => h x (List.mem_flatMap.mpr ⟨k, mem_rgI.mpr ⟨h1, h2⟩, hx⟩)
/-- Forest.offer, by what the cells stand for -/
theorem ct_offer (E : Ev) {w : Int → Int → Int} {M : Mm} {c a b pr h d : Int} {t : Drv} {L A B : List Drv} (hc : 0 ≤ c ∧ c < 1153) (ha : 0 ≤ a ∧ a < 1153) (hb : 0 ≤ b ∧ b < 1153) (hh : -1 ≤ h ∧ h < 24) (hd : 0 ≤ d ∧ d < 24) (gs : Cs0 w M c L) (ga : Cg w M a A) (gb : Cg w M b B) (pL : Pw w L) (pA : Pw w A) (pB : Pw w B) (pN : Pw w (prd A B t)) (h1 : cO w t = pr) (hpr : 0 ≤ pr ∧ pr ≤ 2000) (h2 : hiA t = hiD d h) (h3 : loA t = loD d h) :
    Ct E yX1_offer cX1_offer 13 none 1 [zr E 43, zi c, zi a, zi b, zi pr, zi h, zi d] M (pV (fun M' => Cg w M' c (L ++ prd A B t) ∧ On M M' [c])) := by
  obtain ⟨a6, a7, a8, a9⟩ := ga.num pA
  obtain ⟨b6, b7, b8, b9⟩ := gb.num pB
  refine Ct.mono (ct_X1_offer E M c a b pr h d hc ha hb hpr hh hd a6 a7 a8 a9 b6 b7 b8 b9) ?_
  rintro r M' ⟨hr, q1, q2⟩
  refine ⟨hr, ?_⟩
  have g := Gd_prd (t := t) ga gb pA pB (by omega)
  rw [h1, h2, h3] at g
  obtain ⟨k1, k2⟩ := Gs_more gs g pL pN
  have hU : UU = 268435456 := rfl
  have hle : M 46 c ≤ UU := by
    rcases gs with ⟨-, h, -⟩ | h
    · omega
    · have := (Cg.num h pL).1; omega
  by_cases cc : lexLt (M 46 a + M 46 b + pr) (M 48 a + M 48 b + hiD d h) (M 49 a + M 49 b + loD d h) (M 46 c) (M 48 c) (M 49 c)
  · rw [q1 cc]
    have k := k1 cc
    constructor
    · unfold Cg fFirst
      simp (disch := decide) only [mput_ne, mput_eq]
      rw [show min (M 46 c) (min (M 46 a + M 47 b) (M 47 a + M 46 b) + pr) = min (M 46 c) (min UU (min (M 46 a + M 47 b) (M 47 a + M 46 b) + pr)) by omega]
      exact k
    · unfold fFirst
      refine ⟨((((Sm.rf M _).put (by decide)).put (by decide)).put (by decide)).put (by decide), fun k hk => ?_⟩
      have hk : k ≠ c := fun q => hk (by rw [q]; exact List.mem_cons_self)
      simp (disch := first | decide | assumption) only [mput_ne, mput_nk]
      exact ⟨trivial, trivial, trivial, trivial⟩
  · rw [q2 cc]
    have k := k2 cc
    constructor
    · unfold Cg
      simp (disch := decide) only [mput_ne, mput_eq]
      exact k
    · refine ⟨(Sm.rf M _).put (by decide), fun k hk => ?_⟩
      have hk : k ≠ c := fun q => hk (by rw [q]; exact List.mem_cons_self)
      simp (disch := first | decide | assumption) only [mput_ne, mput_nk]
      exact ⟨trivial, trivial, trivial, trivial⟩
