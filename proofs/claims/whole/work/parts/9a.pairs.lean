/-! what a call leaves, part by part; pair, feed -/
theorem tW.cg {M M' : Mm} {w : Nat} {mo L : Int} (h : tW M w mo L) (h1 : M' w = M w) (h2 : M' (w + 2) = M (w + 2)) : tW M' w mo L := by
  unfold tW at *
  rw [h1, h2]; exact h
theorem txOk.cg {M M' : Mm} {t : Nat} (h : txOk M t) (h0 : M' t = M t) (h2 : M' (t + 2) = M (t + 2)) (h3 : M' (t + 3) = M (t + 3)) (h4 : M' (t + 4) = M (t + 4)) (h5 : M' (t + 5) = M (t + 5)) : txOk M' t := by
  unfold txOk at *
  rw [h0, h2, h3, h4, h5]; exact h
theorem plOk_cg {M M' : Mm} {e : Nat} (h : plOk M (M e 7)) (h0 : M' e = M e) (h1 : M' 40 = M 40) (h2 : M' 41 = M 41) : plOk M' (M' e 7) := by
  unfold plOk at *
  rw [h0, h1, h2]; exact h
theorem prOk_cg {M M' : Mm} {e : Nat} (h : prOk M (M e 7)) (h0 : M' e = M e) (h1 : M' 55 = M 55) (h2 : M' 56 = M 56) (h3 : M' 57 = M 57) : prOk M' (M' e 7) := by
  unfold prOk at *
  rw [h0, h1, h2, h3]; exact h
theorem tR.cg {M M' : Mm} {c : Int} {w : Nat} {mo : Int} (h : tR M c w mo) (h1 : M' 66 c = M 66 c) (h2 : M' w = M w) : tR M' c w mo := by
  unfold tR at *
  rw [h1, h2]; exact h
theorem eR.cg {M M' : Mm} (h : eR M) (h1 : M' 66 24 = M 66 24) (h2 : M' 78 = M 78) (h3 : M' 79 = M 79) (h4 : M' 85 = M 85) : eR M' := by
  unfold eR at *
  rw [h1, h2, h3, h4]; exact h
theorem prR.cg {M M' : Mm} (h : prR M) (h1 : M' 66 24 = M 66 24) (h2 : M' 66 41 = M 66 41) (h3 : M' 96 = M 96) (h4 : M' 97 = M 97) : prR M' := by
  unfold prR at *
  rw [h1, h2, h3, h4]; exact h
theorem cTp.cg {M M' : Mm} (h : cTp M) (h1 : M' 1 = M 1) (h2 : M' 2 = M 2) (h3 : M' 67 = M 67) (h4 : M' 66 1 = M 66 1) : cTp M' := by
  unfold cTp at *
  rw [h1, h2, h3, h4]; exact h
theorem cPr.cg {M M' : Mm} (h : cPr M) (h1 : M' 55 = M 55) (h2 : M' 56 = M 56) (h3 : M' 57 = M 57) (h4 : M' 96 = M 96) (h5 : M' 97 = M 97) (h6 : M' 66 41 = M 66 41) : cPr M' := by
  unfold cPr at *
  rw [h1, h2, h3, h4, h5, h6]; exact h
theorem cTo.cg {M M' : Mm} (h : cTo M) (h1 : M' 58 7 = M 58 7) (h2 : M' 65 = M 65) (h3 : M' 104 = M 104) (h4 : M' 66 52 = M 66 52) : cTo M' := by
  unfold cTo at *
  rw [h1, h2, h3, h4]; exact h
theorem XI.kf {M : Mm} {e d : Nat} (h : XI M e d) (x : M 0 14 = 0) : KF e M := h.2.2.2.2.2.2.2.2.1 x
theorem XI.bf {M : Mm} {e d : Nat} (h : XI M e d) (x : M 0 14 = 0) (y : M 0 15 = 0) : BF e M := h.2.2.2.2.2.2.2.2.2 x y
theorem RI.tf {M : Mm} (h : RI M) (x : M 66 32 ≠ 0) : TF M := h.2.2.2.2.2.2.2 x
theorem q_pair {M M' M'' : Mm} {e d : Nat} {i j z z' : Int} (h : Cpl M e d) (a : (¬ ((0 ≤ i ∧ i < M e 7) ∧ (0 ≤ j ∧ j < M e 7) ∧ i ≠ j) ∧ z = -2 ∧ M' = M) ∨ (((0 ≤ i ∧ i < M e 7) ∧ (0 ≤ j ∧ j < M e 7) ∧ i ≠ j) ∧ ((Rch (M 56) (M 57) (M 55 2) (M 41 j) (M 41 i) ∧ z = -2 ∧ M' = M) ∨ (¬ Rch (M 56) (M 57) (M 55 2) (M 41 j) (M 41 i) ∧ (∃ p, 0 ≤ p ∧ p < M 55 2 ∧ M 56 p = M 41 i ∧ M 57 p = M 41 j) ∧ z = M 55 2 ∧ M' = M) ∨ (¬ Rch (M 56) (M 57) (M 55 2) (M 41 j) (M 41 i) ∧ ¬ (∃ p, 0 ≤ p ∧ p < M 55 2 ∧ M 56 p = M 41 i ∧ M 57 p = M 41 j) ∧ 20 ≤ M 55 2 ∧ z = -3 ∧ M' = M) ∨ (¬ Rch (M 56) (M 57) (M 55 2) (M 41 j) (M 41 i) ∧ ¬ (∃ p, 0 ≤ p ∧ p < M 55 2 ∧ M 56 p = M 41 i ∧ M 57 p = M 41 j) ∧ M 55 2 < 20 ∧ z = M 55 2 + 1 ∧ M' = mput (mput (mput M 56 (M 55 2) (M 41 i)) 57 (M 55 2) (M 41 j)) 55 2 (M 55 2 + 1))))) (b : (¬ ((0 ≤ i ∧ i < M' 66 24) ∧ (0 ≤ j ∧ j < M' 66 24) ∧ i ≠ j) ∧ z' = -2 ∧ M'' = M') ∨ (((0 ≤ i ∧ i < M' 66 24) ∧ (0 ≤ j ∧ j < M' 66 24) ∧ i ≠ j) ∧ ((Rch (M' 96) (M' 97) (M' 66 41) (M' 85 j) (M' 85 i) ∧ z' = -2 ∧ M'' = M') ∨ (¬ Rch (M' 96) (M' 97) (M' 66 41) (M' 85 j) (M' 85 i) ∧ hsR M' (M' 85 i) (M' 85 j) (M' 66 41) ∧ z' = M' 66 41 ∧ M'' = M') ∨ (¬ Rch (M' 96) (M' 97) (M' 66 41) (M' 85 j) (M' 85 i) ∧ ¬ hsR M' (M' 85 i) (M' 85 j) (M' 66 41) ∧ 20 ≤ M' 66 41 ∧ z' = -3 ∧ M'' = M') ∨ (¬ Rch (M' 96) (M' 97) (M' 66 41) (M' 85 j) (M' 85 i) ∧ ¬ hsR M' (M' 85 i) (M' 85 j) (M' 66 41) ∧ M' 66 41 < 20 ∧ z' = M' 66 41 + 1 ∧ M'' = mput (mput (mput M' 96 (M' 66 41) (M' 85 i)) 97 (M' 66 41) (M' 85 j)) 66 41 (M' 66 41 + 1))))) : z = z' ∧ Cpl M'' e d := by
  have n := h.n
  have he := h.he
  have k := h.2.2.2.2.2.2.1
  have es := h.2.2.2.2.2.1
  have hX := h.1
  have hR := h.2.1
  have hi : ∀ q, 66 ≤ q → M' q = M q := by
    intro q hq
    rcases a with ⟨_, _, a⟩ | ⟨_, ⟨_, _, a⟩ | ⟨_, _, _, a⟩ | ⟨_, _, _, _, a⟩ | ⟨_, _, _, _, a⟩⟩
    · rw [a]
    · rw [a]
    · rw [a]
    · rw [a]
    · rw [a, mput_ne (by omega), mput_ne (by omega), mput_ne (by omega)]
  have e66 := hi 66 (by decide)
  have e85 := hi 85 (by decide)
  have e96 := hi 96 (by decide)
  have e97 := hi 97 (by decide)
  rw [e66, e85, e96, e97, show hsR M' = hsR M from by funext x y m; unfold hsR; rw [e96, e97]] at b
  rcases a with ⟨a1, a2, a3⟩ | ⟨a1, a'⟩
  · rcases b with ⟨b1, b2, b3⟩ | ⟨b1, _⟩
    · exact ⟨by rw [a2, b2], by rw [b3, a3]; exact h⟩
    · exact absurd (by rw [n.1]; exact b1) a1
  · rw [n.1] at a1
    rcases b with ⟨b1, _⟩ | ⟨_, b'⟩
    · exact absurd a1 b1
    · have s := pair_sees h a1.1 a1.2.1
      rw [s.1, s.2, k.1] at a'
      rcases a' with ⟨a2, a4, a5⟩ | ⟨a2, a3, a4, a5⟩ | ⟨a2, a3, c, a4, a5⟩ | a'
      · rcases b' with ⟨b2, b4, b5⟩ | ⟨b2, b3, b4, b5⟩ | ⟨b2, b3, c', b4, b5⟩ | ⟨b2, b3, c', b4, b5⟩
        · exact ⟨by rw [a4, b4], by rw [b5, a5]; exact h⟩
        · exact absurd a2 b2
        · exact absurd a2 b2
        · exact absurd a2 b2
      · rcases b' with ⟨b2, b4, b5⟩ | ⟨b2, b3, b4, b5⟩ | ⟨b2, b3, c', b4, b5⟩ | ⟨b2, b3, c', b4, b5⟩
        · exact absurd b2 a2
        · exact ⟨by rw [a4, b4], by rw [b5, a5]; exact h⟩
        · exact absurd a3 b3
        · exact absurd a3 b3
      · rcases b' with ⟨b2, b4, b5⟩ | ⟨b2, b3, b4, b5⟩ | ⟨b2, b3, c', b4, b5⟩ | ⟨b2, b3, c', b4, b5⟩
        · exact absurd b2 a2
        · exact absurd b3 a3
        · exact ⟨by rw [a4, b4], by rw [b5, a5]; exact h⟩
        · exact absurd c (by omega)
      · obtain ⟨a2, a3, c, a4, a5⟩ := a'
        rcases b' with ⟨b2, b4, b5⟩ | ⟨b2, b3, b4, b5⟩ | ⟨b2, b3, c', b4, b5⟩ | ⟨b2, b3, c', b4, b5⟩
        · exact absurd b2 a2
        · exact absurd b3 a3
        · exact absurd c' (by omega)
        · refine ⟨by rw [a4, b4], ?_⟩
          clear a2 a3 b2 b3 s
          have r : ∀ q : Nat, q ∉ [55, 56, 57, 66, 96, 97] → M'' q = M q := by
            intro q hq
            simp only [List.mem_cons, List.not_mem_nil, or_false, not_or] at hq
            rw [b5, mput_ne hq.2.2.2.1, mput_ne hq.2.2.2.2.2, mput_ne hq.2.2.2.2.1, a5, mput_ne hq.1, mput_ne hq.2.2.1, mput_ne hq.2.1]
          have f : ∀ t : Int, t ∉ [41] → M'' 66 t = M 66 t := by
            intro t ht
            simp only [List.mem_cons, List.not_mem_nil, or_false] at ht
            rw [b5, mput_nk ht, mput_ne (by decide), mput_ne (by decide), e66]
          have f41 : M'' 66 41 = M 66 41 + 1 := by rw [b5, mput_eq]
          have x55 : M'' 55 2 = M 66 41 + 1 := by rw [b5, mput_ne (by decide), mput_ne (by decide), mput_ne (by decide), a5, mput_eq]
          have x56 : ∀ p, M'' 56 p = if p = M 66 41 then M 41 i else M 56 p := fun p => by rw [b5, mput_ne (by decide), mput_ne (by decide), mput_ne (by decide), a5, mput_ne (by decide), mput_ne (by decide), mput_at]
          have x57 : ∀ p, M'' 57 p = if p = M 66 41 then M 41 j else M 57 p := fun p => by rw [b5, mput_ne (by decide), mput_ne (by decide), mput_ne (by decide), a5, mput_ne (by decide), mput_at, mput_ne (by decide)]
          have x96 : ∀ p, M'' 96 p = if p = M 66 41 then M 85 i else M 96 p := fun p => by rw [b5, mput_ne (by decide), mput_ne (by decide), mput_at, e96]
          have x97 : ∀ p, M'' 97 p = if p = M 66 41 then M 85 j else M 97 p := fun p => by rw [b5, mput_ne (by decide), mput_at, mput_ne (by decide), e97]
          have y1 := (es.2.2.1 i a1.1.1 a1.1.2).2
          have y2 := (es.2.2.1 j a1.2.1.1 a1.2.1.2).2
          have y3 := hR.2.2.2.2.1.2.2 i a1.1.1 a1.1.2
          have y4 := hR.2.2.2.2.1.2.2 j a1.2.1.1 a1.2.1.2
          have hp := hR.2.2.2.2.2.1
          have hq := hX.2.2.2.2.2.2.1.2.2
          have xe : M'' e = M e := r e (by simp only [List.mem_cons, List.not_mem_nil, or_false]; omega)
          have f24 : M'' 66 24 = M 66 24 := f 24 (by decide)
          refine ⟨⟨hX.1, ⟨by rw [(r 0 (by decide))]; exact hX.2.1.1, by rw [(r 0 (by decide))]; exact hX.2.1.2⟩, by rw [(r 1 (by decide))]; exact hX.2.2.1, ⟨hX.2.2.2.1.1.cg (r 3 (by decide)) (r 5 (by decide)), hX.2.2.2.1.2.1.cg (r 7 (by decide)) (r 9 (by decide)), hX.2.2.2.1.2.2.cg (r 11 (by decide)) (r 13 (by decide))⟩, by rw [(r 7 (by decide)), (r 10 (by decide))]; exact hX.2.2.2.2.1, by rw [(r 15 (by decide))]; exact hX.2.2.2.2.2.1, ⟨hX.2.2.2.2.2.2.1.1.cg (r e (by simp only [List.mem_cons, List.not_mem_nil, or_false]; omega)) (r (e + 2) (by simp only [List.mem_cons, List.not_mem_nil, or_false]; omega)) (r (e + 3) (by simp only [List.mem_cons, List.not_mem_nil, or_false]; omega)) (r (e + 4) (by simp only [List.mem_cons, List.not_mem_nil, or_false]; omega)) (r (e + 5) (by simp only [List.mem_cons, List.not_mem_nil, or_false]; omega)), plOk_cg hX.2.2.2.2.2.2.1.2.1 (r e (by simp only [List.mem_cons, List.not_mem_nil, or_false]; omega)) (r 40 (by decide)) (r 41 (by decide)), ⟨?_, ?_⟩⟩, by rw [(r 58 (by decide))]; exact hX.2.2.2.2.2.2.2.1, fun x => (hX.kf (by rw [(r 0 (by decide))] at x; exact x)).sm (fun q hq => r q (by simp only [List.mem_cons, List.not_mem_nil, or_false] at hq ⊢; omega)), fun x y => (hX.bf (by rw [(r 0 (by decide))] at x; exact x) (by rw [(r 0 (by decide))] at y; exact y)).sm (fun q hq => r q (by simp only [List.mem_cons, List.not_mem_nil, or_false] at hq ⊢; omega))⟩,
            ⟨by rw [(f 1 (by decide))]; exact hR.1, ⟨hR.2.1.1.cg (f 6 (by decide)) (r 70 (by decide)), hR.2.1.2.1.cg (f 10 (by decide)) (r 72 (by decide)), hR.2.1.2.2.cg (f 13 (by decide)) (r 75 (by decide))⟩, by rw [(f 10 (by decide)), (r 73 (by decide))]; exact hR.2.2.1, by unfold wgR; rw [(r 76 (by decide))]; exact hR.2.2.2.1, hR.2.2.2.2.1.cg (f 24 (by decide)) (r 78 (by decide)) (r 79 (by decide)) (r 85 (by decide)), ⟨?_, ?_⟩, by rw [(f 52 (by decide))]; exact hR.2.2.2.2.2.2.1, fun x => (hR.tf (by rw [(f 32 (by decide))] at x; exact x)).sm (fun q hq => r q (by simp only [List.mem_cons, List.not_mem_nil, or_false] at hq ⊢; omega)) (fun j hj => f j (by simp only [List.mem_cons, List.not_mem_nil, or_false] at hj ⊢; omega))⟩,
            h.2.2.1.cg (r 1 (by decide)) (r 2 (by decide)) (r 67 (by decide)) (f 1 (by decide)), ⟨h.2.2.2.1.1.cg (r 3 (by decide)) (r 4 (by decide)) (r 5 (by decide)) (r 69 (by decide)) (r 70 (by decide)) (f 6 (by decide)), h.2.2.2.1.2.1.cg (r 7 (by decide)) (r 8 (by decide)) (r 9 (by decide)) (r 71 (by decide)) (r 72 (by decide)) (f 10 (by decide)), h.2.2.2.1.2.2.1.cg (r 11 (by decide)) (r 12 (by decide)) (r 13 (by decide)) (r 74 (by decide)) (r 75 (by decide)) (f 13 (by decide)), by rw [(r 10 (by decide)), (r 73 (by decide)), (f 10 (by decide))]; exact h.2.2.2.1.2.2.2⟩, by rw [(r 15 (by decide)), (r 76 (by decide))]; exact h.2.2.2.2.1, h.2.2.2.2.2.1.cg (fun q hq => r q (by simp only [List.mem_cons, List.not_mem_nil, or_false] at hq ⊢; omega)) (f 24 (by decide)) (f 25 (by decide)), ⟨?_, ?_⟩, h.2.2.2.2.2.2.2.1.cg (by rw [(r 58 (by decide))]) (r 65 (by decide)) (r 104 (by decide)) (f 52 (by decide)), by rw [(r 16 (by decide)), (f 26 (by decide)), (f 27 (by decide))]; exact h.2.2.2.2.2.2.2.2⟩
          · rw [x55]; have := hp.1; omega
          · intro p p0 p1
            rw [x55] at p1
            rw [x56, x57, xe, n.1]
            have := hq.2 p p0
            rw [n.1, k.1] at this
            split
            · omega
            · exact this (by omega)
          · rw [f41]; have := hp.1; omega
          · intro p p0 p1
            rw [f41] at p1
            rw [x96, x97, f24]
            have := hp.2 p p0
            split
            · omega
            · exact this (by omega)
          · rw [x55, f41]
          · intro p p0 p1
            rw [f41] at p1
            rw [x56, x57, x96, x97]
            have := k.2 p p0
            split
            · exact ⟨y1.symm, y2.symm⟩
            · exact this (by omega)
theorem byte_sb (v s : Int) (hs : s = 0 ∨ s = 8 ∨ s = 16 ∨ s = 24) : zb (zshr v s) = sb (byt v s) ∧ 0 ≤ byt v s ∧ byt v s ≤ 255 := by
  have e : byt v s = (((Int32.ofInt v).toBitVec >>> s.toNat) &&& 255#32).toInt := by
    unfold byt zand zushr
    rw [Int32.ofInt_toInt]
    rcases hs with rfl | rfl | rfl | rfl <;> rfl
  have g : zb (zshr v s) = (((Int32.ofInt v).toBitVec.sshiftRight s.toNat).setWidth 8).toInt := by
    unfold zb zshr
    rw [Int32.ofInt_toInt, Int8.toInt_toInt32]
    have q : ∀ y : Int32, y.toInt8.toInt = (y.toBitVec.setWidth 8).toInt := fun y => by
      rw [← Int8.toInt_toBitVec]
      have : y.toInt8.toBitVec = y.toBitVec.signExtend 8 := rfl
      rw [this, BitVec.signExtend_eq_setWidth_of_le _ (by decide)]
    rw [q]
    rcases hs with rfl | rfl | rfl | rfl <;> rfl
  rw [e, g]
  clear e g
  generalize (Int32.ofInt v).toBitVec = x
  have key : (x.sshiftRight s.toNat).setWidth 8 = (x >>> s.toNat &&& 255#32).setWidth 8 := by
    apply BitVec.eq_of_getLsbD_eq
    intro i hi
    have c : i = 0 ∨ i = 1 ∨ i = 2 ∨ i = 3 ∨ i = 4 ∨ i = 5 ∨ i = 6 ∨ i = 7 := by omega
    rcases hs with rfl | rfl | rfl | rfl <;> rcases c with rfl | rfl | rfl | rfl | rfl | rfl | rfl | rfl <;> simp [BitVec.getElem_sshiftRight]
  rw [key]
  have hy : (x >>> s.toNat &&& 255#32).toNat ≤ 255 := by
    rw [BitVec.toNat_and]
    exact Nat.and_le_right
  generalize (x >>> s.toNat &&& 255#32) = y at *
  have h1 : y.toInt = (y.toNat : Int) := by
    rw [BitVec.toInt_eq_toNat_cond, if_pos (by omega)]
  have h2 : (y.setWidth 8).toInt = sb (y.toNat : Int) := by
    rw [BitVec.toInt_eq_toNat_cond, BitVec.toNat_setWidth, Nat.mod_eq_of_lt (by omega)]
    unfold sb
    by_cases c : y.toNat < 128
    · rw [if_pos (by omega), if_pos (by omega)]
    · rw [if_neg (by omega), if_neg (by omega)]; rfl
  rw [h1, h2]
  exact ⟨rfl, by omega, by omega⟩
def cT2 (A B : Mm) : Prop := 0 ≤ B 66 1 ∧ A 1 1 = B 66 1 ∧ ∀ p, 0 ≤ p → p < B 66 1 → (0 ≤ A 2 p ∧ A 2 p ≤ 255) ∧ B 67 p = sb (A 2 p)
theorem cT2.feed {A B : Mm} (h : cT2 A B) (v : Int) : cT2 (mapp A v 4) (rapp B v 4) := by
  have h0 := h.1
  have h1 := h.2.1
  refine ⟨by rw [rapp_66, if_pos rfl]; omega, by rw [mapp_11, rapp_66, if_pos rfl]; omega, fun p p0 p1 => ?_⟩
  rw [rapp_66, if_pos rfl] at p1
  rw [mapp_2, rapp_67, h1]
  by_cases c : B 66 1 ≤ p ∧ p < B 66 1 + 4
  · rw [if_pos c, if_pos c]
    have := byte_sb v (24 - 8 * (p - B 66 1)) (by omega)
    exact ⟨this.2, this.1⟩
  · rw [if_neg c, if_neg c]
    exact h.2.2 p p0 (by omega)
theorem q_feed {M M' M'' : Mm} {e d : Nat} {v1 v2 v3 v4 v5 z z' : Int} (h : Cpl M e d) (a : (2980 < M 1 1 ∧ z = -3 ∧ M' = M) ∨ (M 1 1 ≤ 2980 ∧ z = M 1 1 + 20 ∧ M' = mapp (mapp (mapp (mapp (mapp M v1 4) v2 4) v3 4) v4 4) v5 4)) (b : (2980 < M' 66 1 ∧ z' = -3 ∧ M'' = M') ∨ (M' 66 1 ≤ 2980 ∧ z' = M' 66 1 + 20 ∧ M'' = rapp (rapp (rapp (rapp (rapp M' v1 4) v2 4) v3 4) v4 4) v5 4)) : z = z' ∧ Cpl M'' e d := by
  have he := h.he
  have k := h.2.2.1
  have hX := h.1
  have hR := h.2.1
  have k1 := k.1
  have g1 := hR.1
  rcases a with ⟨a1, a2, a3⟩ | ⟨a1, a2, a3⟩
  · subst a3
    rcases b with ⟨b1, b2, b3⟩ | ⟨b1, b2, b3⟩
    · subst b3; exact ⟨by omega, h⟩
    · omega
  · have hi : ∀ q, q ≠ 1 → q ≠ 2 → M' q = M q := fun q x y => by rw [a3, mapp_ne x y, mapp_ne x y, mapp_ne x y, mapp_ne x y, mapp_ne x y]
    have e66 := hi 66 (by decide) (by decide)
    have e67 := hi 67 (by decide) (by decide)
    rw [e66] at b
    rcases b with ⟨b1, b2, b3⟩ | ⟨b1, b2, b3⟩
    · omega
    · refine ⟨by rw [a2, b2, k1], ?_⟩
      have c0 : cT2 M M' := by
        unfold cT2
        rw [e66, e67]
        exact ⟨g1.1, k.1, k.2⟩
      have c5 := ((((c0.feed v1).feed v2).feed v3).feed v4).feed v5
      rw [← a3, ← b3] at c5
      have r2 : ∀ q : Nat, q ≠ 66 → q ≠ 67 → M'' q = M' q := fun q x y => by rw [b3, rapp_ne x y, rapp_ne x y, rapp_ne x y, rapp_ne x y, rapp_ne x y]
      have r : ∀ q : Nat, q ∉ [1, 2, 66, 67] → M'' q = M q := by
        intro q hq
        simp only [List.mem_cons, List.not_mem_nil, or_false, not_or] at hq
        rw [r2 q hq.2.2.1 hq.2.2.2, hi q hq.1 hq.2.1]
      have f : ∀ t : Int, t ∉ [1] → M'' 66 t = M 66 t := by
        intro t ht
        simp only [List.mem_cons, List.not_mem_nil, or_false] at ht
        rw [b3, rapp_66, if_neg ht, rapp_66, if_neg ht, rapp_66, if_neg ht, rapp_66, if_neg ht, rapp_66, if_neg ht, e66]
      have s1 : M'' 66 1 = M 66 1 + 20 := by
        rw [b3, rapp_66, if_pos rfl, rapp_66, if_pos rfl, rapp_66, if_pos rfl, rapp_66, if_pos rfl, rapp_66, if_pos rfl, e66]
        omega
      have s2 : M'' 1 1 = M'' 66 1 := by rw [r2 1 (by decide) (by decide)]; exact c5.2.1
      refine ⟨⟨hX.1, ⟨by rw [(r 0 (by decide))]; exact hX.2.1.1, by rw [(r 0 (by decide))]; exact hX.2.1.2⟩, ?_, ⟨hX.2.2.2.1.1.cg (r 3 (by decide)) (r 5 (by decide)), hX.2.2.2.1.2.1.cg (r 7 (by decide)) (r 9 (by decide)), hX.2.2.2.1.2.2.cg (r 11 (by decide)) (r 13 (by decide))⟩, by rw [(r 7 (by decide)), (r 10 (by decide))]; exact hX.2.2.2.2.1, by rw [(r 15 (by decide))]; exact hX.2.2.2.2.2.1, ⟨hX.2.2.2.2.2.2.1.1.cg (r e (by simp only [List.mem_cons, List.not_mem_nil, or_false]; omega)) (r (e + 2) (by simp only [List.mem_cons, List.not_mem_nil, or_false]; omega)) (r (e + 3) (by simp only [List.mem_cons, List.not_mem_nil, or_false]; omega)) (r (e + 4) (by simp only [List.mem_cons, List.not_mem_nil, or_false]; omega)) (r (e + 5) (by simp only [List.mem_cons, List.not_mem_nil, or_false]; omega)), plOk_cg hX.2.2.2.2.2.2.1.2.1 (r e (by simp only [List.mem_cons, List.not_mem_nil, or_false]; omega)) (r 40 (by decide)) (r 41 (by decide)), prOk_cg hX.2.2.2.2.2.2.1.2.2 (r e (by simp only [List.mem_cons, List.not_mem_nil, or_false]; omega)) (r 55 (by decide)) (r 56 (by decide)) (r 57 (by decide))⟩, by rw [(r 58 (by decide))]; exact hX.2.2.2.2.2.2.2.1, fun x => (hX.kf (by rw [(r 0 (by decide))] at x; exact x)).sm (fun q hq => r q (by simp only [List.mem_cons, List.not_mem_nil, or_false] at hq ⊢; omega)), fun x y => (hX.bf (by rw [(r 0 (by decide))] at x; exact x) (by rw [(r 0 (by decide))] at y; exact y)).sm (fun q hq => r q (by simp only [List.mem_cons, List.not_mem_nil, or_false] at hq ⊢; omega))⟩,
        ⟨?_, ⟨hR.2.1.1.cg (f 6 (by decide)) (r 70 (by decide)), hR.2.1.2.1.cg (f 10 (by decide)) (r 72 (by decide)), hR.2.1.2.2.cg (f 13 (by decide)) (r 75 (by decide))⟩, by rw [(f 10 (by decide)), (r 73 (by decide))]; exact hR.2.2.1, by unfold wgR; rw [(r 76 (by decide))]; exact hR.2.2.2.1, hR.2.2.2.2.1.cg (f 24 (by decide)) (r 78 (by decide)) (r 79 (by decide)) (r 85 (by decide)), hR.2.2.2.2.2.1.cg (f 24 (by decide)) (f 41 (by decide)) (r 96 (by decide)) (r 97 (by decide)), by rw [(f 52 (by decide))]; exact hR.2.2.2.2.2.2.1, fun x => (hR.tf (by rw [(f 32 (by decide))] at x; exact x)).sm (fun q hq => r q (by simp only [List.mem_cons, List.not_mem_nil, or_false] at hq ⊢; omega)) (fun j hj => f j (by simp only [List.mem_cons, List.not_mem_nil, or_false] at hj ⊢; omega))⟩,
        ?_, ⟨h.2.2.2.1.1.cg (r 3 (by decide)) (r 4 (by decide)) (r 5 (by decide)) (r 69 (by decide)) (r 70 (by decide)) (f 6 (by decide)), h.2.2.2.1.2.1.cg (r 7 (by decide)) (r 8 (by decide)) (r 9 (by decide)) (r 71 (by decide)) (r 72 (by decide)) (f 10 (by decide)), h.2.2.2.1.2.2.1.cg (r 11 (by decide)) (r 12 (by decide)) (r 13 (by decide)) (r 74 (by decide)) (r 75 (by decide)) (f 13 (by decide)), by rw [(r 10 (by decide)), (r 73 (by decide)), (f 10 (by decide))]; exact h.2.2.2.1.2.2.2⟩, by rw [(r 15 (by decide)), (r 76 (by decide))]; exact h.2.2.2.2.1, h.2.2.2.2.2.1.cg (fun q hq => r q (by simp only [List.mem_cons, List.not_mem_nil, or_false] at hq ⊢; omega)) (f 24 (by decide)) (f 25 (by decide)), h.2.2.2.2.2.2.1.cg (r 55 (by decide)) (r 56 (by decide)) (r 57 (by decide)) (r 96 (by decide)) (r 97 (by decide)) (f 41 (by decide)), h.2.2.2.2.2.2.2.1.cg (by rw [(r 58 (by decide))]) (r 65 (by decide)) (r 104 (by decide)) (f 52 (by decide)), by rw [(r 16 (by decide)), (f 26 (by decide)), (f 27 (by decide))]; exact h.2.2.2.2.2.2.2.2⟩
      · omega
      · omega
      · refine ⟨s2, ?_⟩
        rw [r2 2 (by decide) (by decide)]
        exact c5.2.2
