/-! TREES: class and reference find the same -/
theorem shL_comm (M : Mm) (a b : Int) (u : Nat) : shL M a b u = shL M b a u := by
  rw [shL_cnt, shL_cnt]
  exact cntB_congr _ (fun q _ _ => bP_cg ⟨fun g => ⟨g.2, g.1⟩, fun g => ⟨g.2, g.1⟩⟩)
/-- all that is fresh, in one memory -/
def Fsh (M : Mm) (e : Nat) : Prop := (e = 17 ∨ e = 24) ∧ cTs M ∧ cEs M e ∧ (∀ i, 0 ≤ i → i < 4 → M 15 i = M 76 i) ∧ tR M 13 75 10 ∧ eR M ∧ wgR M ∧ (1 ≤ M 66 24 ∧ M 66 24 ≤ 24) ∧ KFr e M ∧ TFr M
theorem Fsh.kind {M : Mm} {e : Nat} (h : Fsh M e) {i : Int} (hi : 0 ≤ i ∧ i < M 66 24) : M 32 (M 41 i) = M 89 i := by
  obtain ⟨he, hT, hE, hW, hR, hr, _, hn, hF, hK⟩ := h
  have e41 := (hE.2.2.1 i hi.1 hi.2).2
  have hs := hr.2.2 i hi.1 hi.2
  have hw1 := (hr.2.1 (M 85 i) hs.1 hs.2).1
  obtain ⟨z, z1, z2⟩ := hF.2.1 (M 85 i) hs.1 (by rw [hE.1]; exact hs.2)
  obtain ⟨zr, k0, hm, _⟩ := hK.1 i hi.1 hi.2
  have ez := sign_eq hT hE hs.1 hs.2 (by omega) z1 hm.1
  subst ez
  rw [e41, z2]
  rcases hm.2 with ⟨m1, _, m3⟩ | ⟨m1, _, m3⟩
  · rw [if_neg (by omega), m3]
  · rw [if_pos m1, m3]
    have hlt : z < M 66 10 := by
      rcases hm.1 with ⟨g, _⟩ | ⟨_, g, _⟩
      · omega
      · exact g
    exact hT.2.2.2 z m1 hlt
theorem Fsh.sh {M : Mm} {e : Nat} (h : Fsh M e) {i j : Int} (hi : 0 ≤ i ∧ i < M 66 24) (hj : 0 ≤ j ∧ j < M 66 24) : M 34 (M 41 i * 24 + M 41 j) = shB M i j (M 88 i).toNat := by
  obtain ⟨he, hT, hE, hW, hR, hr, _, hn, hF, hK⟩ := h
  have e1 := (hE.2.2.1 i hi.1 hi.2).2
  have e2 := (hE.2.2.1 j hj.1 hj.2).2
  have s1 := hr.2.2 i hi.1 hi.2
  have s2 := hr.2.2 j hj.1 hj.2
  rw [← sh_eq he hT hE hR hr hF hi hj (hK.1 i hi.1 hi.2) (hK.1 j hj.1 hj.2)]
  rw [e1, e2]
  by_cases c : M 85 j ≤ M 85 i
  · exact (hF.2.2.1 (M 85 i) (M 85 j) s2.1 c (by rw [hE.1]; exact s1.2)).1
  · rw [(hF.2.2.1 (M 85 j) (M 85 i) s1.1 (by omega) (by rw [hE.1]; exact s2.2)).2, shL_comm]
theorem Fsh.cnt {M : Mm} {e : Nat} (h : Fsh M e) {i : Int} (hi : 0 ≤ i ∧ i < M 66 24) : M 33 (M 41 i) = M 88 i := by
  have hh := h
  obtain ⟨he, hT, hE, hW, hR, hr, _, hn, hF, hK⟩ := h
  have e1 := (hE.2.2.1 i hi.1 hi.2).2
  have s1 := hr.2.2 i hi.1 hi.2
  have hb := ((hK.1 i hi.1 hi.2).B hr hi).1.1
  have q := hF.2.2.2.1 (M 85 i) s1.1 (by rw [hE.1]; exact s1.2)
  have q2 := sh_eq he hT hE hR hr hF hi hi (hK.1 i hi.1 hi.2) (hK.1 i hi.1 hi.2)
  rw [e1] at q2 ⊢
  rw [q, q2, shB_self hb]
theorem Fsh.stale {M : Mm} {e : Nat} (h : Fsh M e) {i : Int} (hi : 0 ≤ i ∧ i < M 66 24) : stX M i ↔ stR M i (M 88 i) := by
  have hc := h.cnt hi
  obtain ⟨he, hT, hE, hW, hR, hr, _, hn, hF, hK⟩ := h
  obtain ⟨a1, a2⟩ := key_to he hT hE hR hr hF hi (hK.1 i hi.1 hi.2)
  have kt := hF.1.1
  have h31 := kt.1
  have kbq : ∀ s k b, 0 ≤ k → 0 ≤ b → b < 64 → (kb M s (64 * k + b) ↔ tbl (M 35 (s * 15 + k)) b) := by
    intro s k b k0 b0 b1
    unfold kb
    rw [show (64 * k + b) / 64 = k by omega, show (64 * k + b) % 64 = b by omega]
  unfold stX stR
  rw [hc]
  constructor
  · rintro ⟨g1, g2⟩
    refine ⟨g1, fun x x0 x1 => ?_⟩
    obtain ⟨q, q0, q1, q2, q3⟩ := a2 x x0 x1
    have hq : q = 64 * (q / 64) + q % 64 := by omega
    rw [hq, kbq _ _ _ (by omega) (by omega) (by omega)] at q2
    obtain ⟨d, d0, d1, d2⟩ := g2 (q / 64) (by omega) (by omega) (q % 64) (by omega) (by omega) q2
    rw [← kbq _ _ _ (by omega) (by omega) (by omega), ← hq] at d2
    obtain ⟨b1, _⟩ := key_to he hT hE hR hr hF (i := d) (by omega) (hK.1 d d0 (by omega))
    obtain ⟨y, y0, y1, y2⟩ := b1 q q0 (by omega) d2
    exact ⟨d, d0, d1, y, y0, y1, q3.sk y2⟩
  · rintro ⟨g1, g2⟩
    refine ⟨g1, fun k k0 k1 b b0 b1 hb => ?_⟩
    rw [← kbq _ _ _ k0 b0 b1] at hb
    obtain ⟨x, x0, x1, x2⟩ := a1 (64 * k + b) (by omega) (by omega) hb
    have hlt := ((kb_to he hT hE hR hr hF hi (hK.1 i hi.1 hi.2)).1 (64 * k + b) (by omega) (by omega) hb).1
    obtain ⟨d, d0, d1, y, y0, y1, y2⟩ := g2 x x0 x1
    obtain ⟨_, b2⟩ := key_to he hT hE hR hr hF (i := d) (by omega) (hK.1 d d0 (by omega))
    obtain ⟨q', r0, r1, r2, r3⟩ := b2 y y0 y1
    have eq : 64 * k + b = q' := x2.uq kt (r3.same y2) ⟨by omega, hlt⟩ ⟨r0, r1⟩
    refine ⟨d, d0, d1, ?_⟩
    rw [← kbq _ _ _ k0 b0 b1, eq]
    exact r2
theorem Fsh.cost {M : Mm} {e : Nat} (h : Fsh M e) {i j : Int} (hi : 0 ≤ i ∧ i < M 66 24) (hj : 0 ≤ j ∧ j < M 66 24) : hC M e i j = pR M i j := by
  have h1 := h.sh hi hj
  have h2 := h.kind hj
  obtain ⟨he, hT, hE, hW, _⟩ := h
  unfold hC pR
  rw [h1, h2, hW 0 (by omega) (by omega), hW 1 (by omega) (by omega), hW 2 (by omega) (by omega), hW 3 (by omega) (by omega), (hE.2.2.1 i hi.1 hi.2).1, (hE.2.2.1 j hj.1 hj.2).1]
theorem Fsh.w {M : Mm} {e : Nat} (h : Fsh M e) {d x : Int} (hd : 0 ≤ d ∧ d < M 66 24) (hx : -1 ≤ x ∧ x < M 66 24) (hne : d ≠ x) : wC M e d x = w0 M d x := by
  have hh := h
  have hk := h.kind hd
  obtain ⟨he, hT, hE, hW, _, _, _, hn, hF, hK⟩ := h
  unfold wC w0
  rw [hE.1, if_pos (show 0 ≤ d ∧ d < M 66 24 ∧ -1 ≤ x ∧ x < M 66 24 by omega)]
  by_cases c : x = -1
  · rw [if_neg (by omega), if_pos c, (hK.2.1 d hd.1 hd.2).1]
    unfold rP
    rw [hk, ← hW 2 (by omega) (by omega)]
    by_cases c2 : 1 ≤ M 89 d ∧ M 89 d ≤ 3
    · rw [if_pos (by omega), if_pos c2]
    · rw [if_neg (by omega), if_neg c2]
  · rw [if_pos (by omega), if_neg (fun q => hne q.symm), if_neg c, (hK.2.1 x (by omega) hx.2).2 d hd.1 hd.2]
    unfold prc
    rw [if_neg (fun q => hne q.symm)]
    exact hh.cost (by omega) hd
theorem Fsh.cO {M : Mm} {e : Nat} (h : Fsh M e) {y : Drv} (hy : y ∈ wD (M 66 24)) : cO (wC M e) y = cO (w0 M) y := by
  have P := wD_P h.2.2.2.2.2.2.2.1 hy
  exact cO_cg (fun a b hm => by
    have q := P.arc hm
    exact h.w q.1 q.2.1 q.2.2)
theorem isBest.cg {w w' : Int → Int → Int} {n : Int} {x : Drv} (hc : ∀ y ∈ wD n, CEssayBonesLaw_law_r1290_fcdebb.cO w y = CEssayBonesLaw_law_r1290_fcdebb.cO w' y) (h : isBest w n x) : isBest w' n x := by
  obtain ⟨h1, h2, h3⟩ := h
  refine ⟨h1, fun y hy => by rw [← hc x h1, ← hc y hy]; exact h2 y hy, fun y hy e => h3 y hy (by rw [hc x h1, hc y hy]; exact e)⟩
theorem isBest.uq {w : Int → Int → Int} {n : Int} {x y : Drv} (hx : isBest w n x) (hy : isBest w n y) : cO w x = cO w y ∧ ∀ d, 0 ≤ d → d < n → rowOf x d = rowOf y d := by
  have e : cO w x = cO w y := Int.le_antisymm (hx.2.1 y hy.1) (hy.2.1 x hx.1)
  refine ⟨e, ?_⟩
  have key : ∀ m : Nat, ∀ d : Int, 0 ≤ d → d < (m : Int) → d < n → rowOf x d = rowOf y d := by
    intro m
    induction m with
    | zero => intro d a b; omega
    | succ m ih =>
      intro d a b c
      have p1 := hx.2.2 y hy.1 e.symm d a c (fun k k0 k1 => (ih k k0 (by omega) (by omega)).symm)
      have p2 := hy.2.2 x hx.1 e d a c (fun k k0 k1 => ih k k0 (by omega) (by omega))
      omega
  exact fun d a b => key (d.toNat + 1) d a (by omega) b
theorem isNext.eq {w w' : Int → Int → Int} {n s c : Int} {x y : Drv} (hc : ∀ z ∈ wD n, cO w z = cO w' z) (hs : ∀ z ∈ wD n, cO w' z ≤ 48000) (hr : ∀ d, 0 ≤ d → d < n → rowOf x d = rowOf y d) (h1 : isNext w n x UU s) (h2 : isNext w' n y 1000000 c) : (if s < 268435456 then s else -1) = (if c < 1000000 then c else -1) := by
  have hd : ∀ z, Dfr 0 (n - 1) z x ↔ Dfr 0 (n - 1) z y := fun z => ⟨fun ⟨d, a, b, g⟩ => ⟨d, a, b, by rw [← hr d a (by omega)]; exact g⟩, fun ⟨d, a, b, g⟩ => ⟨d, a, b, by rw [hr d a (by omega)]; exact g⟩⟩
  have hU : UU = 268435456 := rfl
  obtain ⟨a1, a2, a3⟩ := h1
  obtain ⟨b1, b2, b3⟩ := h2
  rcases a3 with a3 | ⟨z, z1, z2, z3⟩
  · rcases b3 with b3 | ⟨v, v1, v2, v3⟩
    · rw [if_neg (by omega), if_neg (by omega)]
    · have := a2 v v1 ((hd v).mpr v2)
      rw [hc v v1] at this
      have := hs v v1
      omega
  · have q1 := b2 z z1 ((hd z).mp z2)
    have q2 := hs z z1
    rw [hc z z1] at z3
    rcases b3 with b3 | ⟨v, v1, v2, v3⟩
    · omega
    · have q3 := a2 v v1 ((hd v).mpr v2)
      rw [hc v v1] at q3
      have q4 := hs v v1
      rw [if_pos (by omega), if_pos (by omega)]
      omega
/-- the trees are the same -/
theorem Fsh.tree {M : Mm} {e : Nat} (h : Fsh M e) (hB : BFr e M) : M 46 1152 = M 66 39 ∧ (if M 47 1152 < 268435456 then M 47 1152 else -1) = (if M 66 40 < 1000000 then M 66 40 else -1) ∧ ∀ d, 0 ≤ d → d < M 66 24 → M 51 d = M 95 d := by
  have hh := h
  have hcO := fun (y : Drv) (hy : y ∈ wD (M 66 24)) => h.cO hy
  obtain ⟨he, hT, hE, hW, hR, hr, hwg, hn, hF, hK⟩ := h
  obtain ⟨b1, b2, b3, _⟩ := hB
  unfold Cg at b2
  rw [hE.1] at b2 b3
  obtain ⟨x, x1, x2, x3, x4⟩ := Gd_best hn b2
  obtain ⟨y, y1, y2, y3, y4⟩ := hK.2.2
  have hx : isBest (w0 M) (M 66 24) x := x1.cg hcO
  obtain ⟨e1, e2⟩ := hx.uq y1
  have hp : prSm M := by
    refine ⟨fun d a b => ?_, fun p d a b c g => ?_⟩
    · rw [(hK.2.1 d a b).1]; unfold rP; have := hwg 2 (by omega) (by omega); split <;> omega
    · rw [(hK.2.1 p a b).2 d c g]
      unfold prc
      refine ⟨fun q => ?_, fun q => by rw [if_pos q]⟩
      rw [if_neg q]
      have := pR_rg hwg (h := p) (d := d) (by omega) (by omega) q
      omega
  refine ⟨by rw [x2, y2, ← e1]; exact hcO x x1.1, isNext.eq hcO (fun z hz => (cO_small hp hn hz).2) e2 x4 y4, fun d a b => ?_⟩
  rw [b3 d a b, x3 d a b, e2 d a b, y3 d a b]
