/-! TABLES: stop, ending, sign on both sides -/
def cT3 (A B : Mm) (wt : Nat) (L : Int) (x w : Nat) (c : Int) : Prop := A wt 5 = B 66 c ∧ ∀ i, 0 ≤ i → i < B 66 c → A (wt + 2) i = B w i ∧ ∀ k, 0 ≤ k → k < B w i → A (wt + 1) (i * L + k) = B x (16 * i + k)
theorem take_wd {M M' : Mm} {L : Int} (k : cTp M) (e66 : M' 66 = M 66) (e67 : M' 67 = M 67) : tWd M L ↔ mWd M' L := by
  unfold tWd mWd
  rw [e66, e67, k.1]
  constructor
  · rintro ⟨h1, h2, h3⟩
    refine ⟨h1, h2, fun p p0 p1 => ?_⟩
    have q := k.2 p p0 p1
    rw [q.2]
    exact (chr q.1).1.2 (h3 p p0 p1)
  · rintro ⟨h1, h2, h3⟩
    refine ⟨h1, h2, fun p p0 p1 => ?_⟩
    have q := k.2 p p0 p1
    have t := h3 p p0 p1
    rw [q.2] at t
    exact (chr q.1).1.1 t
theorem take_low {M M1 M' N1 : Mm} {L : Int} (k : cTp M) (e66 : M' 66 = M 66) (e67 : M' 67 = M 67) (w : mWd M' L) (t : tLow M M1) (r : rHeld M' N1) : N1 66 3 = M 1 1 ∧ ∀ p, 0 ≤ p → p < M 1 1 → M1 2 p = N1 68 p := by
  unfold rHeld at r
  unfold mWd at w
  rw [e66, e67] at r w
  have k1 := k.1
  refine ⟨by rw [r.1, k1], fun p p0 p1 => ?_⟩
  rw [k1] at p1
  have q := k.2 p p0 p1
  have g := w.2.2 p p0 p1
  rw [t p p0 (by omega), r.2 p p0 p1]
  rw [q.2] at g ⊢
  exact ((chr q.1).2.1 g).symm
theorem find_eq {A B : Mm} {wt : Nat} {L : Int} {x w : Nat} {c n i j : Int} (T : cT3 A B wt L x w c) (hn : B 66 3 = n) (hh : ∀ p, 0 ≤ p → p < n → A 2 p = B 68 p) (a : tFind A wt L n i) (b : rFind B x w c j) : i = j := by
  have E : ∀ q, 0 ≤ q → q < B 66 c → ((A (wt + 2) q = n ∧ wAt A (wt + 1) (wt + 2) L q 2 0) ↔ (B w q = B 66 3 ∧ lk B x (16 * q) 68 0 (B w q))) := by
    intro q q0 q1
    have t := T.2 q q0 q1
    unfold wAt lk
    rw [t.1, hn]
    constructor
    · rintro ⟨h1, h2⟩
      refine ⟨h1, fun k k0 k1 => ?_⟩
      have g := h2 k k0 k1
      rw [t.2 k k0 k1, Int.zero_add] at g
      rw [g, Int.zero_add]
      exact hh k k0 (by omega)
    · rintro ⟨h1, h2⟩
      refine ⟨h1, fun k k0 k1 => ?_⟩
      have g := h2 k k0 k1
      rw [Int.zero_add] at g
      rw [t.2 k k0 k1, g, Int.zero_add]
      exact (hh k k0 (by omega)).symm
  unfold tFind at a
  rw [T.1] at a
  rcases a with ⟨a1, a2⟩ | ⟨a1, a2, a3, a4⟩
  · rcases b with ⟨b1, b2⟩ | ⟨b1, b2, b3, b4⟩
    · rw [a1, b1]
    · exact absurd ((E j b1 b2).2 b3) (a2 j b1 b2)
  · rcases b with ⟨b1, b2⟩ | ⟨b1, b2, b3, b4⟩
    · exact absurd ((E i a1 a2).1 a3) (b2 i a1 a2)
    · rcases Int.lt_trichotomy i j with g | g | g
      · exact absurd ((E i a1 a2).1 a3) (b4 i a1 g)
      · exact g
      · exact absurd ((E j b1 b2).2 b3) (a4 j b1 g)
theorem find_lt {A : Mm} {wt : Nat} {L n i : Int} (a : tFind A wt L n i) : i < 0 ∨ (0 ≤ i ∧ i < A wt 5) := by
  rcases a with ⟨a1, _⟩ | ⟨a1, a2, _⟩
  · left; omega
  · exact Or.inr ⟨a1, a2⟩
theorem tDrop_w (A : Mm) (wt : Nat) (L i k : Int) : tDrop A wt L i wt k = if k = 5 then A wt 5 - 1 else A wt k := by
  unfold tDrop
  rw [mput_ne (by omega), mput_ne (by omega), mcopy_ne (by omega), mput_at]
theorem tDrop_1 (A : Mm) (wt : Nat) (L i k : Int) : tDrop A wt L i (wt + 1) k = if i * L ≤ k ∧ k < i * L + L then A (wt + 1) ((A wt 5 - 1) * L + (k - i * L)) else A (wt + 1) k := by
  unfold tDrop
  rw [mput_ne (by omega), mput_ne (by omega), mcopy_at, mput_ne (by omega)]
theorem tDrop_2 (A : Mm) (wt : Nat) (L i k : Int) : tDrop A wt L i (wt + 2) k = if k = i then A (wt + 2) (A wt 5 - 1) else A (wt + 2) k := by
  unfold tDrop
  rw [mput_ne (by omega), mput_at, mcopy_ne (by omega), mput_ne (by omega)]
theorem tDrop_3 (A : Mm) (wt : Nat) (L i k : Int) : tDrop A wt L i (wt + 3) k = if k = i then A (wt + 3) (A wt 5 - 1) else A (wt + 3) k := by
  unfold tDrop
  rw [mput_at, mput_ne (by omega), mcopy_ne (by omega), mput_ne (by omega)]
theorem tDrop_o {A : Mm} {wt : Nat} {L i : Int} {q : Nat} (h0 : q ≠ wt) (h1 : q ≠ wt + 1) (h2 : q ≠ wt + 2) (h3 : q ≠ wt + 3) : tDrop A wt L i q = A q := by
  unfold tDrop
  rw [mput_ne h3, mput_ne h2, mcopy_ne h1, mput_ne h0]
theorem tAdd_w (A : Mm) (wt : Nat) (L n kind k : Int) : tAdd A wt L n kind wt k = if k = 5 then A wt 5 + 1 else A wt k := by
  unfold tAdd
  rw [mput_at, mput_ne (by omega), mput_ne (by omega), mcopy_ne (by omega)]
theorem tAdd_1 (A : Mm) (wt : Nat) (L n kind k : Int) : tAdd A wt L n kind (wt + 1) k = if A wt 5 * L ≤ k ∧ k < A wt 5 * L + n then A 2 (0 + (k - A wt 5 * L)) else A (wt + 1) k := by
  unfold tAdd
  rw [mput_ne (by omega), mput_ne (by omega), mput_ne (by omega), mcopy_at]
theorem tAdd_2 (A : Mm) (wt : Nat) (L n kind k : Int) : tAdd A wt L n kind (wt + 2) k = if k = A wt 5 then n else A (wt + 2) k := by
  unfold tAdd
  rw [mput_ne (by omega), mput_ne (by omega), mput_at, mcopy_ne (by omega)]
theorem tAdd_3 (A : Mm) (wt : Nat) (L n kind k : Int) : tAdd A wt L n kind (wt + 3) k = if k = A wt 5 then kind else A (wt + 3) k := by
  unfold tAdd
  rw [mput_ne (by omega), mput_at, mput_ne (by omega), mcopy_ne (by omega)]
theorem tAdd_o {A : Mm} {wt : Nat} {L n kind : Int} {q : Nat} (h0 : q ≠ wt) (h1 : q ≠ wt + 1) (h2 : q ≠ wt + 2) (h3 : q ≠ wt + 3) : tAdd A wt L n kind q = A q := by
  unfold tAdd
  rw [mput_ne h0, mput_ne h3, mput_ne h2, mcopy_ne h1]
theorem rDrop_66 {B : Mm} {x w : Nat} {c i : Int} (hx : x ≠ 66) (hw : w ≠ 66) (k : Int) : rDrop B x w c i 66 k = if k = c then B 66 c - 1 else B 66 k := by
  unfold rDrop
  rw [mput_ne hw.symm, tAw_ne hx.symm, mput_at]
theorem rDrop_x {B : Mm} {x w : Nat} {c i : Int} (hxw : x ≠ w) (hx : x ≠ 66) (k : Int) : rDrop B x w c i x k = if 16 * i ≤ k ∧ k < 16 * i + 16 then B x (16 * (B 66 c - 1) + (k - 16 * i)) else B x k := by
  unfold rDrop
  rw [mput_ne hxw, tAw_x, mput_ne hx]
theorem rDrop_w {B : Mm} {x w : Nat} {c i : Int} (hxw : x ≠ w) (hw : w ≠ 66) (k : Int) : rDrop B x w c i w k = if k = i then B w (B 66 c - 1) else B w k := by
  unfold rDrop
  rw [mput_at, tAw_ne hxw.symm, mput_ne hw]
theorem rDrop_o {B : Mm} {x w : Nat} {c i : Int} {q : Nat} (h1 : q ≠ 66) (h2 : q ≠ x) (h3 : q ≠ w) : rDrop B x w c i q = B q := by
  unfold rDrop
  rw [mput_ne h3, tAw_ne h2, mput_ne h1]
theorem rAdd_66 {B : Mm} {x w : Nat} {c : Int} (hx : x ≠ 66) (hw : w ≠ 66) (k : Int) : rAdd B x w c 66 k = if k = c then B 66 c + 1 else B 66 k := by
  unfold rAdd
  rw [mput_at, mput_ne hw.symm, mcopy_ne hx.symm]
theorem rAdd_x {B : Mm} {x w : Nat} {c : Int} (hxw : x ≠ w) (hx : x ≠ 66) (k : Int) : rAdd B x w c x k = if 16 * B 66 c ≤ k ∧ k < 16 * B 66 c + B 66 3 then B 68 (0 + (k - 16 * B 66 c)) else B x k := by
  unfold rAdd
  rw [mput_ne hx, mput_ne hxw, mcopy_at]
theorem rAdd_w {B : Mm} {x w : Nat} {c : Int} (hxw : x ≠ w) (hw : w ≠ 66) (k : Int) : rAdd B x w c w k = if k = B 66 c then B 66 3 else B w k := by
  unfold rAdd
  rw [mput_ne hw, mput_at, mcopy_ne hxw.symm]
theorem rAdd_o {B : Mm} {x w : Nat} {c : Int} {q : Nat} (h1 : q ≠ 66) (h2 : q ≠ x) (h3 : q ≠ w) : rAdd B x w c q = B q := by
  unfold rAdd
  rw [mput_ne h1, mput_ne h3, mcopy_ne h2]
theorem cell_o {L : Int} (hL : L = 16 ∨ L = 6) {q i k : Int} (k0 : 0 ≤ k) (k1 : k < L) : (q ≠ i → ¬ (i * L ≤ q * L + k ∧ q * L + k < i * L + L)) ∧ (q < i → q * L + k < i * L) ∧ L ≤ 16 := by
  rcases hL with rfl | rfl <;> omega
theorem drop_cT {A B : Mm} {wt : Nat} {L : Int} {x w : Nat} {c i : Int} (hL : L = 16 ∨ L = 6) (hxw : x ≠ w) (hx : x ≠ 66) (hw : w ≠ 66) (T : cT3 A B wt L x w c) (hl : ∀ q, 0 ≤ q → q < B 66 c → A (wt + 2) q ≤ L) (hi : 0 ≤ i ∧ i < B 66 c) : cT3 (tDrop A wt L i) (rDrop B x w c i) wt L x w c := by
  have l16 : L ≤ 16 := by omega
  have T1 := T.1
  have r0 : rDrop B x w c i 66 c = B 66 c - 1 := by rw [rDrop_66 hx hw, if_pos rfl]
  refine ⟨by rw [tDrop_w, if_pos rfl, r0, T1], fun q q0 q1 => ?_⟩
  rw [r0] at q1
  rw [tDrop_2, rDrop_w hxw hw, T1]
  by_cases g : q = i
  · subst g
    rw [if_pos rfl, if_pos rfl]
    have t := T.2 (B 66 c - 1) (by omega) (by omega)
    have l := hl (B 66 c - 1) (by omega) (by omega)
    refine ⟨t.1, fun k k0 k1 => ?_⟩
    rw [tDrop_1, rDrop_x hxw hx, if_pos ⟨by omega, by omega⟩, if_pos ⟨by omega, by omega⟩, T1, show q * L + k - q * L = k by omega, show 16 * q + k - 16 * q = k by omega]
    exact t.2 k k0 k1
  · rw [if_neg g, if_neg g]
    have t := T.2 q q0 (by omega)
    have l := hl q q0 (by omega)
    refine ⟨t.1, fun k k0 k1 => ?_⟩
    rw [tDrop_1, rDrop_x hxw hx, if_neg ((cell_o hL k0 (by omega)).1 g), if_neg (by omega)]
    exact t.2 k k0 k1
theorem add_cT {A B : Mm} {wt : Nat} {L : Int} {x w : Nat} {c n kind : Int} (hL : L = 16 ∨ L = 6) (hxw : x ≠ w) (hx : x ≠ 66) (hw : w ≠ 66) (h3c : (3 : Int) ≠ c) (T : cT3 A B wt L x w c) (hl : ∀ q, 0 ≤ q → q < B 66 c → A (wt + 2) q ≤ L) (hn : B 66 3 = n) (hn2 : n ≤ L) (hh : ∀ p, 0 ≤ p → p < n → A 2 p = B 68 p) : cT3 (tAdd A wt L n kind) (rAdd B x w c) wt L x w c := by
  have l16 : L ≤ 16 := by omega
  have T1 := T.1
  have r0 : rAdd B x w c 66 c = B 66 c + 1 := by rw [rAdd_66 hx hw, if_pos rfl]
  refine ⟨by rw [tAdd_w, if_pos rfl, r0, T1], fun q q0 q1 => ?_⟩
  rw [r0] at q1
  rw [tAdd_2, rAdd_w hxw hw, T1, hn]
  by_cases g : q = B 66 c
  · rw [if_pos g, if_pos g]
    refine ⟨rfl, fun k k0 k1 => ?_⟩
    rw [tAdd_1, rAdd_x hxw hx, T1, hn, ← g, if_pos ⟨by omega, by omega⟩, if_pos ⟨by omega, by omega⟩, show 0 + (q * L + k - q * L) = k by omega, show 0 + (16 * q + k - 16 * q) = k by omega]
    exact hh k k0 k1
  · rw [if_neg g, if_neg g]
    have t := T.2 q q0 (by omega)
    have l := hl q q0 (by omega)
    refine ⟨t.1, fun k k0 k1 => ?_⟩
    have m := (cell_o hL (q := q) (i := B 66 c) k0 (by omega)).2.1 (by omega)
    rw [tAdd_1, rAdd_x hxw hx, T1, if_neg (by omega), if_neg (by omega)]
    exact t.2 k k0 k1
theorem drop_tW {A : Mm} {wt : Nat} {mo L i : Int} (h : tW A wt mo L) (hi : 0 ≤ i ∧ i < A wt 5) : tW (tDrop A wt L i) wt mo L := by
  obtain ⟨h1, h2, h3, h4⟩ := h
  refine ⟨by rw [tDrop_w, if_neg (by decide)]; exact h1, by rw [tDrop_w, if_neg (by decide)]; exact h2, by rw [tDrop_w, if_pos rfl]; omega, fun q q0 q1 => ?_⟩
  rw [tDrop_w, if_pos rfl] at q1
  rw [tDrop_2]
  split
  · exact h4 _ (by omega) (by omega)
  · exact h4 _ q0 (by omega)
theorem add_tW {A : Mm} {wt : Nat} {mo L n kind : Int} (h : tW A wt mo L) (hc : A wt 5 < mo) (hn : 0 ≤ n ∧ n ≤ L) : tW (tAdd A wt L n kind) wt mo L := by
  obtain ⟨h1, h2, h3, h4⟩ := h
  refine ⟨by rw [tAdd_w, if_neg (by decide)]; exact h1, by rw [tAdd_w, if_neg (by decide)]; exact h2, by rw [tAdd_w, if_pos rfl]; omega, fun q q0 q1 => ?_⟩
  rw [tAdd_w, if_pos rfl] at q1
  rw [tAdd_2]
  split
  · exact hn
  · exact h4 _ q0 (by omega)
theorem cT.tR {M : Mm} {wt : Nat} {mo L : Int} {x w : Nat} {c : Int} (hL : L = 16 ∨ L = 6) (h : cT M wt L x w c) (hw : tW M wt mo L) : tR M c w mo := by
  obtain ⟨h1, h2, h3, h4⟩ := hw
  have t := h.1
  refine ⟨by omega, fun q q0 q1 => ?_⟩
  have g := h4 q q0 (by omega)
  rw [(h.2 q q0 q1).1] at g
  omega
theorem cT3.fin {M A B : Mm} {wt : Nat} {L : Int} {x w : Nat} {c : Int} (T : cT3 A B wt L x w c) (h1 : M wt = A wt) (h2 : M (wt + 1) = A (wt + 1)) (h3 : M (wt + 2) = A (wt + 2)) (h4 : M x = B x) (h5 : M w = B w) (h6 : M 66 c = B 66 c) : cT M wt L x w c := by
  unfold cT3 at T
  unfold cT
  rw [h1, h2, h3, h4, h5, h6]
  exact T
theorem cT.two {M A B : Mm} {wt : Nat} {L : Int} {x w : Nat} {c : Int} (T : cT M wt L x w c) (h1 : A wt = M wt) (h2 : A (wt + 1) = M (wt + 1)) (h3 : A (wt + 2) = M (wt + 2)) (h4 : B x = M x) (h5 : B w = M w) (h6 : B 66 c = M 66 c) : cT3 A B wt L x w c := by
  unfold cT at T
  unfold cT3
  rw [h1, h2, h3, h4, h5, h6]
  exact T
/-- only the tapes are taken; the class may have called its keys stale -/
theorem Cpl.tk {M M'' : Mm} {e d : Nat} (h : Cpl M e d) (r : ∀ q : Nat, q ∉ [0, 1, 2, 66, 68] → M'' q = M q) (f : ∀ t : Int, t ∉ [1, 3] → M'' 66 t = M 66 t) (g0 : ∀ k : Int, k ≠ 14 → M'' 0 k = M 0 k) (g14 : M'' 0 14 = M 0 14 ∨ M'' 0 14 = 1) (s1 : M'' 1 1 = 0) (s2 : M'' 66 1 = 0) : Cpl M'' e d := by
  have he := h.he
  have hX := h.1
  have hR := h.2.1
  refine ⟨⟨hX.1, ⟨by rw [g0 6 (by decide)]; exact hX.2.1.1, by rw [g0 7 (by decide)]; exact hX.2.1.2⟩, by omega, ⟨hX.2.2.2.1.1.cg (r 3 (by decide)) (r 5 (by decide)), hX.2.2.2.1.2.1.cg (r 7 (by decide)) (r 9 (by decide)), hX.2.2.2.1.2.2.cg (r 11 (by decide)) (r 13 (by decide))⟩, by rw [(r 7 (by decide)), (r 10 (by decide))]; exact hX.2.2.2.2.1, by rw [(r 15 (by decide))]; exact hX.2.2.2.2.2.1, ⟨hX.2.2.2.2.2.2.1.1.cg (r e (by simp only [List.mem_cons, List.not_mem_nil, or_false]; omega)) (r (e + 2) (by simp only [List.mem_cons, List.not_mem_nil, or_false]; omega)) (r (e + 3) (by simp only [List.mem_cons, List.not_mem_nil, or_false]; omega)) (r (e + 4) (by simp only [List.mem_cons, List.not_mem_nil, or_false]; omega)) (r (e + 5) (by simp only [List.mem_cons, List.not_mem_nil, or_false]; omega)), plOk_cg hX.2.2.2.2.2.2.1.2.1 (r e (by simp only [List.mem_cons, List.not_mem_nil, or_false]; omega)) (r 40 (by decide)) (r 41 (by decide)), prOk_cg hX.2.2.2.2.2.2.1.2.2 (r e (by simp only [List.mem_cons, List.not_mem_nil, or_false]; omega)) (r 55 (by decide)) (r 56 (by decide)) (r 57 (by decide))⟩, by rw [(r 58 (by decide))]; exact hX.2.2.2.2.2.2.2.1, fun x => ?_, fun x y => ?_⟩,
    ⟨by omega, ⟨hR.2.1.1.cg (f 6 (by decide)) (r 70 (by decide)), hR.2.1.2.1.cg (f 10 (by decide)) (r 72 (by decide)), hR.2.1.2.2.cg (f 13 (by decide)) (r 75 (by decide))⟩, by rw [(f 10 (by decide)), (r 73 (by decide))]; exact hR.2.2.1, by unfold wgR; rw [(r 76 (by decide))]; exact hR.2.2.2.1, hR.2.2.2.2.1.cg (f 24 (by decide)) (r 78 (by decide)) (r 79 (by decide)) (r 85 (by decide)), hR.2.2.2.2.2.1.cg (f 24 (by decide)) (f 41 (by decide)) (r 96 (by decide)) (r 97 (by decide)), by rw [(f 52 (by decide))]; exact hR.2.2.2.2.2.2.1, fun x => (hR.tf (by rw [(f 32 (by decide))] at x; exact x)).sm (fun q hq => r q (by simp only [List.mem_cons, List.not_mem_nil, or_false] at hq ⊢; omega)) (fun j hj => f j (by simp only [List.mem_cons, List.not_mem_nil, or_false] at hj ⊢; omega))⟩,
    ?_, ⟨h.2.2.2.1.1.cg (r 3 (by decide)) (r 4 (by decide)) (r 5 (by decide)) (r 69 (by decide)) (r 70 (by decide)) (f 6 (by decide)), h.2.2.2.1.2.1.cg (r 7 (by decide)) (r 8 (by decide)) (r 9 (by decide)) (r 71 (by decide)) (r 72 (by decide)) (f 10 (by decide)), h.2.2.2.1.2.2.1.cg (r 11 (by decide)) (r 12 (by decide)) (r 13 (by decide)) (r 74 (by decide)) (r 75 (by decide)) (f 13 (by decide)), by rw [(r 10 (by decide)), (r 73 (by decide)), (f 10 (by decide))]; exact h.2.2.2.1.2.2.2⟩, by rw [(r 15 (by decide)), (r 76 (by decide))]; exact h.2.2.2.2.1, h.2.2.2.2.2.1.cg (fun q hq => r q (by simp only [List.mem_cons, List.not_mem_nil, or_false] at hq ⊢; omega)) (f 24 (by decide)) (f 25 (by decide)), h.2.2.2.2.2.2.1.cg (r 55 (by decide)) (r 56 (by decide)) (r 57 (by decide)) (r 96 (by decide)) (r 97 (by decide)) (f 41 (by decide)), h.2.2.2.2.2.2.2.1.cg (by rw [(r 58 (by decide))]) (r 65 (by decide)) (r 104 (by decide)) (f 52 (by decide)), by rw [(r 16 (by decide)), (f 26 (by decide)), (f 27 (by decide))]; exact h.2.2.2.2.2.2.2.2⟩
  · rcases g14 with g | g
    · exact (hX.kf (by omega)).sm (fun q hq => r q (by simp only [List.mem_cons, List.not_mem_nil, or_false] at hq ⊢; omega))
    · omega
  · rw [g0 15 (by decide)] at y
    rcases g14 with g | g
    · exact (hX.bf (by omega) y).sm (fun q hq => r q (by simp only [List.mem_cons, List.not_mem_nil, or_false] at hq ⊢; omega))
    · omega
  · exact ⟨by rw [s1, s2], fun p p0 p1 => absurd p1 (by omega)⟩
theorem Cpl.t3 {M M'' : Mm} {e d : Nat} (h : Cpl M e d) (r : ∀ q : Nat, q ∉ [0, 1, 2, 3, 4, 5, 6, 66, 68, 69, 70] → M'' q = M q) (f : ∀ t : Int, t ∉ [1, 3, 6, 32] → M'' 66 t = M 66 t) (g0 : ∀ k : Int, k ≠ 14 → M'' 0 k = M 0 k) (g14 : M'' 0 14 = 1) (g32 : M'' 66 32 = 0) (s1 : M'' 1 1 = 0) (s2 : M'' 66 1 = 0) (hw : tW M'' 3 60 16) (hT : cT M'' 3 16 69 70 6) : Cpl M'' e d := by
  have he := h.he
  have hX := h.1
  have hR := h.2.1
  exact ⟨⟨hX.1, ⟨by rw [g0 6 (by decide)]; exact hX.2.1.1, by rw [g0 7 (by decide)]; exact hX.2.1.2⟩, by omega, ⟨hw, hX.2.2.2.1.2.1.cg (r 7 (by decide)) (r 9 (by decide)), hX.2.2.2.1.2.2.cg (r 11 (by decide)) (r 13 (by decide))⟩, by rw [(r 7 (by decide)), (r 10 (by decide))]; exact hX.2.2.2.2.1, by rw [(r 15 (by decide))]; exact hX.2.2.2.2.2.1, ⟨hX.2.2.2.2.2.2.1.1.cg (r e (by simp only [List.mem_cons, List.not_mem_nil, or_false]; omega)) (r (e + 2) (by simp only [List.mem_cons, List.not_mem_nil, or_false]; omega)) (r (e + 3) (by simp only [List.mem_cons, List.not_mem_nil, or_false]; omega)) (r (e + 4) (by simp only [List.mem_cons, List.not_mem_nil, or_false]; omega)) (r (e + 5) (by simp only [List.mem_cons, List.not_mem_nil, or_false]; omega)), plOk_cg hX.2.2.2.2.2.2.1.2.1 (r e (by simp only [List.mem_cons, List.not_mem_nil, or_false]; omega)) (r 40 (by decide)) (r 41 (by decide)), prOk_cg hX.2.2.2.2.2.2.1.2.2 (r e (by simp only [List.mem_cons, List.not_mem_nil, or_false]; omega)) (r 55 (by decide)) (r 56 (by decide)) (r 57 (by decide))⟩, by rw [(r 58 (by decide))]; exact hX.2.2.2.2.2.2.2.1, fun x => absurd (g14.symm.trans x) (by decide), fun x y => absurd (g14.symm.trans x) (by decide)⟩,
    ⟨by omega, ⟨hT.tR (by decide) hw, hR.2.1.2.1.cg (f 10 (by decide)) (r 72 (by decide)), hR.2.1.2.2.cg (f 13 (by decide)) (r 75 (by decide))⟩, by rw [(f 10 (by decide)), (r 73 (by decide))]; exact hR.2.2.1, by unfold wgR; rw [(r 76 (by decide))]; exact hR.2.2.2.1, hR.2.2.2.2.1.cg (f 24 (by decide)) (r 78 (by decide)) (r 79 (by decide)) (r 85 (by decide)), hR.2.2.2.2.2.1.cg (f 24 (by decide)) (f 41 (by decide)) (r 96 (by decide)) (r 97 (by decide)), by rw [(f 52 (by decide))]; exact hR.2.2.2.2.2.2.1, fun x => absurd g32 x⟩,
    ⟨by rw [s1, s2], fun p p0 p1 => absurd p1 (by omega)⟩, ⟨hT, h.2.2.2.1.2.1.cg (r 7 (by decide)) (r 8 (by decide)) (r 9 (by decide)) (r 71 (by decide)) (r 72 (by decide)) (f 10 (by decide)), h.2.2.2.1.2.2.1.cg (r 11 (by decide)) (r 12 (by decide)) (r 13 (by decide)) (r 74 (by decide)) (r 75 (by decide)) (f 13 (by decide)), by rw [(r 10 (by decide)), (r 73 (by decide)), (f 10 (by decide))]; exact h.2.2.2.1.2.2.2⟩, by rw [(r 15 (by decide)), (r 76 (by decide))]; exact h.2.2.2.2.1, h.2.2.2.2.2.1.cg (fun q hq => r q (by simp only [List.mem_cons, List.not_mem_nil, or_false] at hq ⊢; omega)) (f 24 (by decide)) (f 25 (by decide)), h.2.2.2.2.2.2.1.cg (r 55 (by decide)) (r 56 (by decide)) (r 57 (by decide)) (r 96 (by decide)) (r 97 (by decide)) (f 41 (by decide)), h.2.2.2.2.2.2.2.1.cg (by rw [(r 58 (by decide))]) (r 65 (by decide)) (r 104 (by decide)) (f 52 (by decide)), by rw [(r 16 (by decide)), (f 26 (by decide)), (f 27 (by decide))]; exact h.2.2.2.2.2.2.2.2⟩
theorem q_stop {M M' M'' : Mm} {e d : Nat} {z z' : Int} (h : Cpl M e d) (a : tgl M M' 3 60 16 z) (b : rtg M' M'' 69 70 6 60 16 z') : z = z' ∧ Cpl M'' e d := by
  obtain ⟨M1, ⟨s1, s1'⟩, a⟩ := a
  obtain ⟨N1, ⟨t1, t1', t2⟩, b⟩ := b
  have he := h.he
  have hX := h.1
  have hR := h.2.1
  have k := h.2.2.1
  have hi : ∀ q, 66 ≤ q → M' q = M q := by
    intro q hq
    have sq : M1 q = M q := s1 q (by simp only [List.mem_cons, List.not_mem_nil, or_false]; omega)
    rcases a with ⟨_, _, a⟩ | ⟨_, _, i, _, ⟨_, _, a⟩ | ⟨_, _, _, a⟩ | ⟨_, _, _, a⟩⟩
    · rw [a, sq]
    · rw [a, mput_ne (by omega), tDrop_o (by omega) (by omega) (by omega) (by omega), sq]
    · rw [a, sq]
    · rw [a, mput_ne (by omega), tAdd_o (by omega) (by omega) (by omega) (by omega), sq]
  have e66 := hi 66 (by decide)
  have e67 := hi 67 (by decide)
  have wd : tWd M 16 ↔ mWd M' 16 := take_wd k e66 e67
  have W0 := hX.2.2.2.1.1
  have cc := h.2.2.2.1.1.1
  have m1 : M1 3 = M 3 := s1 3 (by decide)
  have W : tW M1 3 60 16 := W0.cg m1 (s1 5 (by decide))
  have cm : ∀ j : Nat, j ∉ [1, 2, 66, 68] → (M' = M1 → M'' = N1 → M'' j = M j) := by
    intro j hj x y
    simp only [List.mem_cons, List.not_mem_nil, or_false] at hj
    rw [y, t1 j (by simp only [List.mem_cons, List.not_mem_nil, or_false]; omega), x, s1 j (by simp only [List.mem_cons, List.not_mem_nil, or_false]; omega)]
  have tk : M' = M1 → M'' = N1 → Cpl M'' e d := by
    intro x y
    refine h.tk (fun q hq => cm q (by simp only [List.mem_cons, List.not_mem_nil, or_false] at hq ⊢; omega) x y) (fun t ht => ?_) (fun t _ => by rw [cm 0 (by decide) x y]) (Or.inl (by rw [cm 0 (by decide) x y])) ?_ ?_
    · simp only [List.mem_cons, List.not_mem_nil, or_false] at ht
      rw [y, t2 t (by omega) (by omega), e66]
    · rw [y, t1 1 (by decide), x]; exact s1'
    · rw [y]; exact t1'
  rcases a with ⟨a1, a2, a3⟩ | ⟨a1, a2, i, a3, a4⟩
  · rcases b with ⟨b1, b2, b3⟩ | ⟨b1, _⟩
    · exact ⟨by rw [a2, b2], tk a3 b3⟩
    · exact absurd (wd.2 b1) a1
  · rcases b with ⟨b1, _⟩ | ⟨b1, b2, j, b3, b4⟩
    · exact absurd (wd.1 a1) b1
    · have hl := take_low k e66 e67 b1 a2 b2
      have c2 : N1 66 6 = M 66 6 := by rw [t2 6 (by decide) (by decide), e66]
      have hr : ∀ q : Nat, q = 69 ∨ q = 70 → N1 q = M q := by
        intro q hq
        rw [t1 q (by simp only [List.mem_cons, List.not_mem_nil, or_false]; omega), hi q (by omega)]
      have T3 : cT3 M1 N1 3 16 69 70 6 := h.2.2.2.1.1.two m1 (s1 4 (by decide)) (s1 5 (by decide)) (hr 69 (by decide)) (hr 70 (by decide)) c2
      have ij : i = j := find_eq T3 hl.1 hl.2 a3 b3
      subst ij
      have ig := find_lt a3
      have wl : ∀ q, 0 ≤ q → q < N1 66 6 → M1 (3 + 2) q ≤ 16 := fun q q0 q1 => (W.2.2.2 q q0 (by rw [m1, cc]; omega)).2
      have cn : M1 3 5 = M 66 6 := by rw [m1]; exact cc
      have cr := W.2.2.1
      have n1 : 1 ≤ M 1 1 ∧ M 1 1 ≤ 16 := ⟨a1.1, a1.2.1⟩
      clear a3 b3 a1 b1 a2 b2 wd
      rw [c2] at b4
      rcases a4 with ⟨p1, p2, p3⟩ | ⟨p1, p2, p3, p4⟩ | ⟨p1, p2, p4, p3⟩
      · rcases b4 with ⟨q1, q2, q3⟩ | ⟨q1, _⟩ | ⟨q1, _⟩
        · refine ⟨by rw [p2, q2, cn], ?_⟩
          have r : ∀ q : Nat, q ∉ [0, 1, 2, 3, 4, 5, 6, 66, 68, 69, 70] → M'' q = M q := by
            intro q hq
            simp only [List.mem_cons, List.not_mem_nil, or_false] at hq
            rw [q3, mput_ne (by omega), rDrop_o (by omega) (by omega) (by omega), t1 q (by simp only [List.mem_cons, List.not_mem_nil, or_false]; omega), p3, mput_ne (by omega), tDrop_o (by omega) (by omega) (by omega) (by omega), s1 q (by simp only [List.mem_cons, List.not_mem_nil, or_false]; omega)]
          have f : ∀ t : Int, t ∉ [1, 3, 6, 32] → M'' 66 t = M 66 t := by
            intro t ht
            simp only [List.mem_cons, List.not_mem_nil, or_false] at ht
            rw [q3, mput_nk (by omega), rDrop_66 (by decide) (by decide), if_neg (by omega), t2 t (by omega) (by omega), e66]
          have lo : ∀ q : Nat, q < 66 → M'' q = M' q := by
            intro q hq
            rw [q3, mput_ne (by omega), rDrop_o (by omega) (by omega) (by omega), t1 q (by simp only [List.mem_cons, List.not_mem_nil, or_false]; omega)]
          have up : ∀ q : Nat, q = 69 ∨ q = 70 → M'' q = rDrop N1 69 70 6 i q := by
            intro q hq
            rw [q3, mput_ne (by omega)]
          have cl : ∀ q : Nat, q = 3 ∨ q = 3+1 ∨ q = 3+2 → M'' q = tDrop M1 3 16 i q := by
            intro q hq
            rw [lo q (by omega), p3, mput_ne (by omega)]
          have g0 : ∀ y : Int, y ≠ 14 → M'' 0 y = M 0 y := by
            intro y hy
            rw [lo 0 (by decide), p3, mput_nk hy, tDrop_o (by decide) (by decide) (by decide) (by decide), s1 0 (by decide)]
          have g14 : M'' 0 14 = 1 := by rw [lo 0 (by decide), p3, mput_eq]
          have g32 : M'' 66 32 = 0 := by rw [q3, mput_eq]
          have v1 : M'' 1 1 = 0 := by rw [lo 1 (by decide), p3, mput_ne (by decide), tDrop_o (by decide) (by decide) (by decide) (by decide)]; exact s1'
          have v2 : M'' 66 1 = 0 := by rw [q3, mput_nk (by decide), rDrop_66 (by decide) (by decide), if_neg (by decide)]; exact t1'
          have f6 : M'' 66 6 = rDrop N1 69 70 6 i 66 6 := by rw [q3, mput_nk (by decide)]
          have hw : tW M'' 3 60 16 := (drop_tW W (i := i) ⟨p1, by omega⟩).cg (cl 3 (by decide)) (cl 5 (by decide))
          have hT : cT M'' 3 16 69 70 6 := (drop_cT (by decide) (by decide) (by decide) (by decide) T3 wl (i := i) ⟨p1, by omega⟩).fin (cl 3 (by decide)) (cl 4 (by decide)) (cl 5 (by decide)) (up 69 (by decide)) (up 70 (by decide)) f6
          exact h.t3 r f g0 g14 g32 v1 v2 hw hT
        · omega
        · omega
      · rcases b4 with ⟨q1, _⟩ | ⟨q1, q2, q3, q4⟩ | ⟨q1, q2, _⟩
        · omega
        · exact ⟨by rw [p3, q3], tk p4 q4⟩
        · omega
      · rcases b4 with ⟨q1, _⟩ | ⟨q1, q2, _⟩ | ⟨q1, q2, q4, q3⟩
        · omega
        · omega
        · refine ⟨by rw [p4, q4, cn], ?_⟩
          have r : ∀ q : Nat, q ∉ [0, 1, 2, 3, 4, 5, 6, 66, 68, 69, 70] → M'' q = M q := by
            intro q hq
            simp only [List.mem_cons, List.not_mem_nil, or_false] at hq
            rw [q3, mput_ne (by omega), rAdd_o (by omega) (by omega) (by omega), t1 q (by simp only [List.mem_cons, List.not_mem_nil, or_false]; omega), p3, mput_ne (by omega), tAdd_o (by omega) (by omega) (by omega) (by omega), s1 q (by simp only [List.mem_cons, List.not_mem_nil, or_false]; omega)]
          have f : ∀ t : Int, t ∉ [1, 3, 6, 32] → M'' 66 t = M 66 t := by
            intro t ht
            simp only [List.mem_cons, List.not_mem_nil, or_false] at ht
            rw [q3, mput_nk (by omega), rAdd_66 (by decide) (by decide), if_neg (by omega), t2 t (by omega) (by omega), e66]
          have lo : ∀ q : Nat, q < 66 → M'' q = M' q := by
            intro q hq
            rw [q3, mput_ne (by omega), rAdd_o (by omega) (by omega) (by omega), t1 q (by simp only [List.mem_cons, List.not_mem_nil, or_false]; omega)]
          have up : ∀ q : Nat, q = 69 ∨ q = 70 → M'' q = rAdd N1 69 70 6 q := by
            intro q hq
            rw [q3, mput_ne (by omega)]
          have cl : ∀ q : Nat, q = 3 ∨ q = 3+1 ∨ q = 3+2 → M'' q = tAdd M1 3 16 (M 1 1) 0 q := by
            intro q hq
            rw [lo q (by omega), p3, mput_ne (by omega)]
          have g0 : ∀ y : Int, y ≠ 14 → M'' 0 y = M 0 y := by
            intro y hy
            rw [lo 0 (by decide), p3, mput_nk hy, tAdd_o (by decide) (by decide) (by decide) (by decide), s1 0 (by decide)]
          have g14 : M'' 0 14 = 1 := by rw [lo 0 (by decide), p3, mput_eq]
          have g32 : M'' 66 32 = 0 := by rw [q3, mput_eq]
          have v1 : M'' 1 1 = 0 := by rw [lo 1 (by decide), p3, mput_ne (by decide), tAdd_o (by decide) (by decide) (by decide) (by decide)]; exact s1'
          have v2 : M'' 66 1 = 0 := by rw [q3, mput_nk (by decide), rAdd_66 (by decide) (by decide), if_neg (by decide)]; exact t1'
          have f6 : M'' 66 6 = rAdd N1 69 70 6 66 6 := by rw [q3, mput_nk (by decide)]
          have hw : tW M'' 3 60 16 := (add_tW W (kind := 0) (by omega) (n := M 1 1) ⟨by omega, n1.2⟩).cg (cl 3 (by decide)) (cl 5 (by decide))
          have hT : cT M'' 3 16 69 70 6 := (add_cT (kind := 0) (by decide) (by decide) (by decide) (by decide) (by decide) T3 wl hl.1 n1.2 hl.2).fin (cl 3 (by decide)) (cl 4 (by decide)) (cl 5 (by decide)) (up 69 (by decide)) (up 70 (by decide)) f6
          exact h.t3 r f g0 g14 g32 v1 v2 hw hT
theorem Cpl.t11 {M M'' : Mm} {e d : Nat} (h : Cpl M e d) (r : ∀ q : Nat, q ∉ [0, 1, 2, 11, 12, 13, 14, 66, 68, 74, 75] → M'' q = M q) (f : ∀ t : Int, t ∉ [1, 3, 13, 32] → M'' 66 t = M 66 t) (g0 : ∀ k : Int, k ≠ 14 → M'' 0 k = M 0 k) (g14 : M'' 0 14 = 1) (g32 : M'' 66 32 = 0) (s1 : M'' 1 1 = 0) (s2 : M'' 66 1 = 0) (hw : tW M'' 11 10 6) (hT : cT M'' 11 6 74 75 13) : Cpl M'' e d := by
  have he := h.he
  have hX := h.1
  have hR := h.2.1
  exact ⟨⟨hX.1, ⟨by rw [g0 6 (by decide)]; exact hX.2.1.1, by rw [g0 7 (by decide)]; exact hX.2.1.2⟩, by omega, ⟨hX.2.2.2.1.1.cg (r 3 (by decide)) (r 5 (by decide)), hX.2.2.2.1.2.1.cg (r 7 (by decide)) (r 9 (by decide)), hw⟩, by rw [(r 7 (by decide)), (r 10 (by decide))]; exact hX.2.2.2.2.1, by rw [(r 15 (by decide))]; exact hX.2.2.2.2.2.1, ⟨hX.2.2.2.2.2.2.1.1.cg (r e (by simp only [List.mem_cons, List.not_mem_nil, or_false]; omega)) (r (e + 2) (by simp only [List.mem_cons, List.not_mem_nil, or_false]; omega)) (r (e + 3) (by simp only [List.mem_cons, List.not_mem_nil, or_false]; omega)) (r (e + 4) (by simp only [List.mem_cons, List.not_mem_nil, or_false]; omega)) (r (e + 5) (by simp only [List.mem_cons, List.not_mem_nil, or_false]; omega)), plOk_cg hX.2.2.2.2.2.2.1.2.1 (r e (by simp only [List.mem_cons, List.not_mem_nil, or_false]; omega)) (r 40 (by decide)) (r 41 (by decide)), prOk_cg hX.2.2.2.2.2.2.1.2.2 (r e (by simp only [List.mem_cons, List.not_mem_nil, or_false]; omega)) (r 55 (by decide)) (r 56 (by decide)) (r 57 (by decide))⟩, by rw [(r 58 (by decide))]; exact hX.2.2.2.2.2.2.2.1, fun x => absurd (g14.symm.trans x) (by decide), fun x y => absurd (g14.symm.trans x) (by decide)⟩,
    ⟨by omega, ⟨hR.2.1.1.cg (f 6 (by decide)) (r 70 (by decide)), hR.2.1.2.1.cg (f 10 (by decide)) (r 72 (by decide)), hT.tR (by decide) hw⟩, by rw [(f 10 (by decide)), (r 73 (by decide))]; exact hR.2.2.1, by unfold wgR; rw [(r 76 (by decide))]; exact hR.2.2.2.1, hR.2.2.2.2.1.cg (f 24 (by decide)) (r 78 (by decide)) (r 79 (by decide)) (r 85 (by decide)), hR.2.2.2.2.2.1.cg (f 24 (by decide)) (f 41 (by decide)) (r 96 (by decide)) (r 97 (by decide)), by rw [(f 52 (by decide))]; exact hR.2.2.2.2.2.2.1, fun x => absurd g32 x⟩,
    ⟨by rw [s1, s2], fun p p0 p1 => absurd p1 (by omega)⟩, ⟨h.2.2.2.1.1.cg (r 3 (by decide)) (r 4 (by decide)) (r 5 (by decide)) (r 69 (by decide)) (r 70 (by decide)) (f 6 (by decide)), h.2.2.2.1.2.1.cg (r 7 (by decide)) (r 8 (by decide)) (r 9 (by decide)) (r 71 (by decide)) (r 72 (by decide)) (f 10 (by decide)), hT, by rw [(r 10 (by decide)), (r 73 (by decide)), (f 10 (by decide))]; exact h.2.2.2.1.2.2.2⟩, by rw [(r 15 (by decide)), (r 76 (by decide))]; exact h.2.2.2.2.1, h.2.2.2.2.2.1.cg (fun q hq => r q (by simp only [List.mem_cons, List.not_mem_nil, or_false] at hq ⊢; omega)) (f 24 (by decide)) (f 25 (by decide)), h.2.2.2.2.2.2.1.cg (r 55 (by decide)) (r 56 (by decide)) (r 57 (by decide)) (r 96 (by decide)) (r 97 (by decide)) (f 41 (by decide)), h.2.2.2.2.2.2.2.1.cg (by rw [(r 58 (by decide))]) (r 65 (by decide)) (r 104 (by decide)) (f 52 (by decide)), by rw [(r 16 (by decide)), (f 26 (by decide)), (f 27 (by decide))]; exact h.2.2.2.2.2.2.2.2⟩
theorem q_ending {M M' M'' : Mm} {e d : Nat} {z z' : Int} (h : Cpl M e d) (a : tgl M M' 11 10 6 z) (b : rtg M' M'' 74 75 13 10 6 z') : z = z' ∧ Cpl M'' e d := by
  obtain ⟨M1, ⟨s1, s1'⟩, a⟩ := a
  obtain ⟨N1, ⟨t1, t1', t2⟩, b⟩ := b
  have he := h.he
  have hX := h.1
  have hR := h.2.1
  have k := h.2.2.1
  have hi : ∀ q, 66 ≤ q → M' q = M q := by
    intro q hq
    have sq : M1 q = M q := s1 q (by simp only [List.mem_cons, List.not_mem_nil, or_false]; omega)
    rcases a with ⟨_, _, a⟩ | ⟨_, _, i, _, ⟨_, _, a⟩ | ⟨_, _, _, a⟩ | ⟨_, _, _, a⟩⟩
    · rw [a, sq]
    · rw [a, mput_ne (by omega), tDrop_o (by omega) (by omega) (by omega) (by omega), sq]
    · rw [a, sq]
    · rw [a, mput_ne (by omega), tAdd_o (by omega) (by omega) (by omega) (by omega), sq]
  have e66 := hi 66 (by decide)
  have e67 := hi 67 (by decide)
  have wd : tWd M 6 ↔ mWd M' 6 := take_wd k e66 e67
  have W0 := hX.2.2.2.1.2.2
  have cc := h.2.2.2.1.2.2.1.1
  have m1 : M1 11 = M 11 := s1 11 (by decide)
  have W : tW M1 11 10 6 := W0.cg m1 (s1 13 (by decide))
  have cm : ∀ j : Nat, j ∉ [1, 2, 66, 68] → (M' = M1 → M'' = N1 → M'' j = M j) := by
    intro j hj x y
    simp only [List.mem_cons, List.not_mem_nil, or_false] at hj
    rw [y, t1 j (by simp only [List.mem_cons, List.not_mem_nil, or_false]; omega), x, s1 j (by simp only [List.mem_cons, List.not_mem_nil, or_false]; omega)]
  have tk : M' = M1 → M'' = N1 → Cpl M'' e d := by
    intro x y
    refine h.tk (fun q hq => cm q (by simp only [List.mem_cons, List.not_mem_nil, or_false] at hq ⊢; omega) x y) (fun t ht => ?_) (fun t _ => by rw [cm 0 (by decide) x y]) (Or.inl (by rw [cm 0 (by decide) x y])) ?_ ?_
    · simp only [List.mem_cons, List.not_mem_nil, or_false] at ht
      rw [y, t2 t (by omega) (by omega), e66]
    · rw [y, t1 1 (by decide), x]; exact s1'
    · rw [y]; exact t1'
  rcases a with ⟨a1, a2, a3⟩ | ⟨a1, a2, i, a3, a4⟩
  · rcases b with ⟨b1, b2, b3⟩ | ⟨b1, _⟩
    · exact ⟨by rw [a2, b2], tk a3 b3⟩
    · exact absurd (wd.2 b1) a1
  · rcases b with ⟨b1, _⟩ | ⟨b1, b2, j, b3, b4⟩
    · exact absurd (wd.1 a1) b1
    · have hl := take_low k e66 e67 b1 a2 b2
      have c2 : N1 66 13 = M 66 13 := by rw [t2 13 (by decide) (by decide), e66]
      have hr : ∀ q : Nat, q = 74 ∨ q = 75 → N1 q = M q := by
        intro q hq
        rw [t1 q (by simp only [List.mem_cons, List.not_mem_nil, or_false]; omega), hi q (by omega)]
      have T3 : cT3 M1 N1 11 6 74 75 13 := h.2.2.2.1.2.2.1.two m1 (s1 12 (by decide)) (s1 13 (by decide)) (hr 74 (by decide)) (hr 75 (by decide)) c2
      have ij : i = j := find_eq T3 hl.1 hl.2 a3 b3
      subst ij
      have ig := find_lt a3
      have wl : ∀ q, 0 ≤ q → q < N1 66 13 → M1 (11 + 2) q ≤ 6 := fun q q0 q1 => (W.2.2.2 q q0 (by rw [m1, cc]; omega)).2
      have cn : M1 11 5 = M 66 13 := by rw [m1]; exact cc
      have cr := W.2.2.1
      have n1 : 1 ≤ M 1 1 ∧ M 1 1 ≤ 6 := ⟨a1.1, a1.2.1⟩
      clear a3 b3 a1 b1 a2 b2 wd
      rw [c2] at b4
      rcases a4 with ⟨p1, p2, p3⟩ | ⟨p1, p2, p3, p4⟩ | ⟨p1, p2, p4, p3⟩
      · rcases b4 with ⟨q1, q2, q3⟩ | ⟨q1, _⟩ | ⟨q1, _⟩
        · refine ⟨by rw [p2, q2, cn], ?_⟩
          have r : ∀ q : Nat, q ∉ [0, 1, 2, 11, 12, 13, 14, 66, 68, 74, 75] → M'' q = M q := by
            intro q hq
            simp only [List.mem_cons, List.not_mem_nil, or_false] at hq
            rw [q3, mput_ne (by omega), rDrop_o (by omega) (by omega) (by omega), t1 q (by simp only [List.mem_cons, List.not_mem_nil, or_false]; omega), p3, mput_ne (by omega), tDrop_o (by omega) (by omega) (by omega) (by omega), s1 q (by simp only [List.mem_cons, List.not_mem_nil, or_false]; omega)]
          have f : ∀ t : Int, t ∉ [1, 3, 13, 32] → M'' 66 t = M 66 t := by
            intro t ht
            simp only [List.mem_cons, List.not_mem_nil, or_false] at ht
            rw [q3, mput_nk (by omega), rDrop_66 (by decide) (by decide), if_neg (by omega), t2 t (by omega) (by omega), e66]
          have lo : ∀ q : Nat, q < 66 → M'' q = M' q := by
            intro q hq
            rw [q3, mput_ne (by omega), rDrop_o (by omega) (by omega) (by omega), t1 q (by simp only [List.mem_cons, List.not_mem_nil, or_false]; omega)]
          have up : ∀ q : Nat, q = 74 ∨ q = 75 → M'' q = rDrop N1 74 75 13 i q := by
            intro q hq
            rw [q3, mput_ne (by omega)]
          have cl : ∀ q : Nat, q = 11 ∨ q = 11+1 ∨ q = 11+2 → M'' q = tDrop M1 11 6 i q := by
            intro q hq
            rw [lo q (by omega), p3, mput_ne (by omega)]
          have g0 : ∀ y : Int, y ≠ 14 → M'' 0 y = M 0 y := by
            intro y hy
            rw [lo 0 (by decide), p3, mput_nk hy, tDrop_o (by decide) (by decide) (by decide) (by decide), s1 0 (by decide)]
          have g14 : M'' 0 14 = 1 := by rw [lo 0 (by decide), p3, mput_eq]
          have g32 : M'' 66 32 = 0 := by rw [q3, mput_eq]
          have v1 : M'' 1 1 = 0 := by rw [lo 1 (by decide), p3, mput_ne (by decide), tDrop_o (by decide) (by decide) (by decide) (by decide)]; exact s1'
          have v2 : M'' 66 1 = 0 := by rw [q3, mput_nk (by decide), rDrop_66 (by decide) (by decide), if_neg (by decide)]; exact t1'
          have f6 : M'' 66 13 = rDrop N1 74 75 13 i 66 13 := by rw [q3, mput_nk (by decide)]
          have hw : tW M'' 11 10 6 := (drop_tW W (i := i) ⟨p1, by omega⟩).cg (cl 11 (by decide)) (cl 13 (by decide))
          have hT : cT M'' 11 6 74 75 13 := (drop_cT (by decide) (by decide) (by decide) (by decide) T3 wl (i := i) ⟨p1, by omega⟩).fin (cl 11 (by decide)) (cl 12 (by decide)) (cl 13 (by decide)) (up 74 (by decide)) (up 75 (by decide)) f6
          exact h.t11 r f g0 g14 g32 v1 v2 hw hT
        · omega
        · omega
      · rcases b4 with ⟨q1, _⟩ | ⟨q1, q2, q3, q4⟩ | ⟨q1, q2, _⟩
        · omega
        · exact ⟨by rw [p3, q3], tk p4 q4⟩
        · omega
      · rcases b4 with ⟨q1, _⟩ | ⟨q1, q2, _⟩ | ⟨q1, q2, q4, q3⟩
        · omega
        · omega
        · refine ⟨by rw [p4, q4, cn], ?_⟩
          have r : ∀ q : Nat, q ∉ [0, 1, 2, 11, 12, 13, 14, 66, 68, 74, 75] → M'' q = M q := by
            intro q hq
            simp only [List.mem_cons, List.not_mem_nil, or_false] at hq
            rw [q3, mput_ne (by omega), rAdd_o (by omega) (by omega) (by omega), t1 q (by simp only [List.mem_cons, List.not_mem_nil, or_false]; omega), p3, mput_ne (by omega), tAdd_o (by omega) (by omega) (by omega) (by omega), s1 q (by simp only [List.mem_cons, List.not_mem_nil, or_false]; omega)]
          have f : ∀ t : Int, t ∉ [1, 3, 13, 32] → M'' 66 t = M 66 t := by
            intro t ht
            simp only [List.mem_cons, List.not_mem_nil, or_false] at ht
            rw [q3, mput_nk (by omega), rAdd_66 (by decide) (by decide), if_neg (by omega), t2 t (by omega) (by omega), e66]
          have lo : ∀ q : Nat, q < 66 → M'' q = M' q := by
            intro q hq
            rw [q3, mput_ne (by omega), rAdd_o (by omega) (by omega) (by omega), t1 q (by simp only [List.mem_cons, List.not_mem_nil, or_false]; omega)]
          have up : ∀ q : Nat, q = 74 ∨ q = 75 → M'' q = rAdd N1 74 75 13 q := by
            intro q hq
            rw [q3, mput_ne (by omega)]
          have cl : ∀ q : Nat, q = 11 ∨ q = 11+1 ∨ q = 11+2 → M'' q = tAdd M1 11 6 (M 1 1) 0 q := by
            intro q hq
            rw [lo q (by omega), p3, mput_ne (by omega)]
          have g0 : ∀ y : Int, y ≠ 14 → M'' 0 y = M 0 y := by
            intro y hy
            rw [lo 0 (by decide), p3, mput_nk hy, tAdd_o (by decide) (by decide) (by decide) (by decide), s1 0 (by decide)]
          have g14 : M'' 0 14 = 1 := by rw [lo 0 (by decide), p3, mput_eq]
          have g32 : M'' 66 32 = 0 := by rw [q3, mput_eq]
          have v1 : M'' 1 1 = 0 := by rw [lo 1 (by decide), p3, mput_ne (by decide), tAdd_o (by decide) (by decide) (by decide) (by decide)]; exact s1'
          have v2 : M'' 66 1 = 0 := by rw [q3, mput_nk (by decide), rAdd_66 (by decide) (by decide), if_neg (by decide)]; exact t1'
          have f6 : M'' 66 13 = rAdd N1 74 75 13 66 13 := by rw [q3, mput_nk (by decide)]
          have hw : tW M'' 11 10 6 := (add_tW W (kind := 0) (by omega) (n := M 1 1) ⟨by omega, n1.2⟩).cg (cl 11 (by decide)) (cl 13 (by decide))
          have hT : cT M'' 11 6 74 75 13 := (add_cT (kind := 0) (by decide) (by decide) (by decide) (by decide) (by decide) T3 wl hl.1 n1.2 hl.2).fin (cl 11 (by decide)) (cl 12 (by decide)) (cl 13 (by decide)) (up 74 (by decide)) (up 75 (by decide)) f6
          exact h.t11 r f g0 g14 g32 v1 v2 hw hT
