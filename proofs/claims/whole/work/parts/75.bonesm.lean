/-! BONES: what the class counts upwards, in a tree -/
theorem chn_m1 (f : Int → Int) (n : Int) (m : Nat) : chn f n m (-1) = [] := by
  cases m with
  | zero => rfl
  | succ m => rw [chn, if_neg (by omega)]
theorem chn_eq (f : Int → Int) (n : Int) : ∀ (K m : Nat) (d : Int), (∀ j, j ≤ K → 0 ≤ itf f j d ∧ itf f j d < n) → itf f (K + 1) d = -1 → K + 1 ≤ m → chn f n m d = (List.range (K + 1)).map (fun j => itf f j d) := by
  intro K
  induction K with
  | zero =>
    intro m d h1 h2 h3
    obtain ⟨m', rfl⟩ : ∃ m', m = m' + 1 := ⟨m - 1, by omega⟩
    have h0 : 0 ≤ d ∧ d < n := h1 0 (by omega)
    rw [chn, if_pos h0]
    have : f d = -1 := h2
    rw [this, chn_m1]
    rfl
  | succ K ih =>
    intro m d h1 h2 h3
    obtain ⟨m', rfl⟩ : ∃ m', m = m' + 1 := ⟨m - 1, by omega⟩
    have h0 : 0 ≤ d ∧ d < n := h1 0 (by omega)
    rw [chn, if_pos h0, ih m' (f d) (fun j hj => h1 (j + 1) (by omega)) h2 (by omega), List.range_succ_eq_map (n := K + 1), List.map_cons, List.map_map]
    rfl
/-- the way up from d -/
theorem TT.way {f : Int → Int} {n r : Int} (h : TT f n r) {d : Int} (hd : 0 ≤ d ∧ d < n) : ∃ K : Nat, ((K : Int) < n) ∧ (∀ j, j ≤ K → 0 ≤ itf f j d ∧ itf f j d < n) ∧ itf f (K + 1) d = -1 ∧ itf f K d = r ∧ ∀ j, j < K → itf f j d ≠ r := by
  obtain ⟨k, k0, k1, k2⟩ := h.1.2.2.1 d hd.1 (by omega)
  refine ⟨k, by omega, fun j hj => ?_, by rw [itf_add, k1]; exact h.2, k1, k2⟩
  have := h.1.stay j d hd.1 (by omega) (fun j2 h2 => k2 j2 (by omega))
  omega
theorem TT.chnT {f : Int → Int} {n r : Int} (h : TT f n r) {d : Int} (hd : 0 ≤ d ∧ d < n) (i : Int) : (i ∈ chn f n n.toNat d ↔ Onw f r i d) ∧ ((chn f n n.toNat d).count i : Int) = if bP (Onw f r i d) then 1 else 0 := by
  obtain ⟨K, K0, K1, K2, K3, K4⟩ := h.way hd
  have e := chn_eq f n K n.toNat d K1 K2 (by omega)
  have hm : i ∈ chn f n n.toNat d ↔ Onw f r i d := by
    rw [e, List.mem_map]
    constructor
    · rintro ⟨j, hj, q⟩
      have := List.mem_range.mp hj
      exact ⟨j, q, fun j2 h2 => K4 j2 (by omega)⟩
    · rintro ⟨j, q1, q2⟩
      refine ⟨j, List.mem_range.mpr ?_, q1⟩
      by_cases c : j ≤ K
      · omega
      · exact absurd K3 (q2 K (by omega))
  refine ⟨hm, ?_⟩
  have hnd : (chn f n n.toNat d).Nodup := by
    rw [e, List.nodup_iff_pairwise_ne, List.pairwise_map]
    refine List.pairwise_lt_range.imp_of_mem ?_
    intro a b ha hb hab q
    have hb2 := List.mem_range.mp hb
    have q1 : itf f (a + (K + 1 - b)) d = -1 := by
      rw [itf_add, q, ← itf_add, show b + (K + 1 - b) = K + 1 by omega]
      exact K2
    have q2 := K1 (a + (K + 1 - b)) (by omega)
    omega
  rw [hnd.count]
  by_cases c : Onw f r i d
  · rw [if_pos (hm.mpr c), bP_t c]; rfl
  · rw [if_neg (fun q => c (hm.mp q)), bP_f c]; rfl
theorem bSz_iv {f : Int → Int} {n r i l u : Int} (h : TT f n r) (hn : 1 ≤ n) (hv : Iv f n r i l u) : bSz f n i n.toNat = u - l + 1 := by
  have key : ∀ k : Nat, (k : Int) ≤ n → bSz f n i k = cntB (fun d => bP (Onw f r i d)) k := by
    intro k
    induction k with
    | zero => intro _; rfl
    | succ k ih =>
      intro hk
      have e1 : bSz f n i (k + 1) = bSz f n i k + ((chn f n n.toNat (k : Int)).count i : Int) := rfl
      rw [e1, ih (by omega), cntB, (h.chnT (d := (k : Int)) (by omega) i).2]
  rw [key n.toNat (by omega), cntB_iv (l := l) (u := u) n.toNat (fun d d0 d1 => by rw [bP_iff]; exact hv.2 d d0 (by omega)) hv.1.1 (by have := hv.1; omega)]
  have := hv.1
  omega
theorem bFi_iv {f : Int → Int} {n r i l u : Int} (h : TT f n r) (hn : 1 ≤ n) (hv : Iv f n r i l u) : bFi f n i n.toNat = l := by
  have h1 := hv.1
  have key : ∀ k : Nat, (k : Int) ≤ n → ((k : Int) ≤ l → bFi f n i k = i) ∧ (l < (k : Int) → bFi f n i k = l) := by
    intro k
    induction k with
    | zero => intro _; exact ⟨fun _ => rfl, fun q => by omega⟩
    | succ k ih =>
      intro hk
      have ih2 := ih (by omega)
      have hm := (h.chnT (d := (k : Int)) (by omega) i).1
      rw [hv.2 (k : Int) (by omega) (by omega)] at hm
      rw [bFi]
      by_cases c : l ≤ (k : Int) ∧ (k : Int) ≤ u
      · rw [if_pos (hm.mpr c)]
        refine ⟨fun q => by omega, fun q => ?_⟩
        by_cases c2 : (k : Int) = l
        · rw [ih2.1 (by omega)]; omega
        · rw [ih2.2 (by omega)]; omega
      · rw [if_neg (fun q => c (hm.mp q))]
        refine ⟨fun q => ih2.1 (by omega), fun q => ?_⟩
        exact ih2.2 (by omega)
  exact (key n.toNat (by omega)).2 (by omega)
theorem bRt_r {f : Int → Int} {n r : Int} (h : TT f n r) (hn : 1 ≤ n) : bRt f n n.toNat = r := by
  have hr := h.1.1
  have key : ∀ k : Nat, (k : Int) ≤ n → r < (k : Int) → bRt f n k = r := by
    intro k
    induction k with
    | zero => intro _ q; omega
    | succ k ih =>
      intro hk q
      rw [bRt]
      rcases h.rg (d := (k : Int)) (by omega) with ⟨g1, g2⟩ | ⟨g1, g2⟩
      · rw [if_neg (by omega)]; exact g1
      · rw [if_pos g2]; exact ih (by omega) (by omega)
  exact key n.toNat (by omega) (by omega)
theorem Iv.uq {f : Int → Int} {n r i l u l' u' : Int} (h : Iv f n r i l u) (h' : Iv f n r i l' u') : l = l' ∧ u = u' := by
  have a := h.1
  have b := h'.1
  have q1 := (h'.2 l (by omega) (by omega)).mp ((h.2 l (by omega) (by omega)).mpr (by omega))
  have q2 := (h'.2 u (by omega) (by omega)).mp ((h.2 u (by omega) (by omega)).mpr (by omega))
  have q3 := (h.2 l' (by omega) (by omega)).mp ((h'.2 l' (by omega) (by omega)).mpr (by omega))
  have q4 := (h.2 u' (by omega) (by omega)).mp ((h'.2 u' (by omega) (by omega)).mpr (by omega))
  omega
/-- the class's bones, once fresh -/
theorem BF.bones {M : Mm} {e : Nat} (h : BF e M) (hn : 1 ≤ M e 7 ∧ M e 7 ≤ 24) : ∃ r, TT (M 51) (M e 7) r ∧ M 50 4 = r ∧ ∀ i, 0 ≤ i → i < M e 7 → M 52 i = bHu (M 51) i (M e 7).toNat ∧ ∀ l u, Iv (M 51) (M e 7) r i l u → M 53 i = l ∧ M 54 i = u - l + 1 := by
  obtain ⟨N, n1, b1, b2, b3, b4, b5⟩ := h hn.1
  have e7 : N e = M e := n1 e (by simp)
  have e51 : N 51 = M 51 := n1 51 (by simp)
  have e50 : N 50 = M 50 := n1 50 (by simp)
  have e52 : N 52 = M 52 := n1 52 (by simp)
  have e53 : N 53 = M 53 := n1 53 (by simp)
  have e54 : N 54 = M 54 := n1 54 (by simp)
  rw [e7] at b2 b3 b4 b5
  rw [e51] at b3 b4 b5
  rw [e50] at b4
  rw [e52, e53, e54] at b5
  obtain ⟨x, x1, x2, x3, x4⟩ := Gd_best hn b2
  obtain ⟨_, r, r1, r2, r3⟩ := wD_P hn x1.1
  have hf : ∀ d, 0 ≤ d → d < M e 7 → M 51 d = rowOf x d := fun d d0 d1 => (b3 d d0 d1).trans (x3 d d0 d1)
  have hT : TT (M 51) (M e 7) r := ⟨r3 _ hf, by rw [hf r r1.1 r1.2]; exact r2⟩
  refine ⟨r, hT, b4.trans (bRt_r hT hn.1), fun i i0 i1 => ⟨(b5 i i0 i1).1, fun l u hv => ⟨(b5 i i0 i1).2.1.trans (bFi_iv hT hn.1 hv), (b5 i i0 i1).2.2.trans (bSz_iv hT hn.1 hv)⟩⟩⟩
