/-- the keys of place i, of words k0 .. k - 1: T has the text and the tables, A the rows of keys -/
def KyI (T A : Mm) (i k0 k : Int) : Prop := (0 ≤ A 88 i ∧ A 88 i ≤ k - k0) ∧ (∀ q, 0 ≤ q → q < A 88 i → ∃ k', k0 ≤ k' ∧ k' < k ∧ A 86 (40 * i + q) = 40 * T 85 i + k' ∧ ¬ isStopR T (A 86 (40 * i + q)) ∧ foldR T (A 86 (40 * i + q)) (A 87 (40 * i + q)) ∧ 0 ≤ A 87 (40 * i + q) ∧ A 87 (40 * i + q) ≤ 16) ∧
  (∀ q q', 0 ≤ q → q < q' → q' < A 88 i → ¬ sK T (A 86 (40 * i + q')) (A 87 (40 * i + q')) (A 86 (40 * i + q)) (A 87 (40 * i + q))) ∧
  ∀ k', k0 ≤ k' → k' < k → ¬ isStopR T (40 * T 85 i + k') → ∃ n q, foldR T (40 * T 85 i + k') n ∧ 0 ≤ q ∧ q < A 88 i ∧ sK T (40 * T 85 i + k') n (A 86 (40 * i + q)) (A 87 (40 * i + q))
def MkF (M A : Mm) (i : Int) : Prop := Sm M A [86, 87, 88, 89] ∧ (∀ p, (p < 40 * i ∨ 40 * i + 40 ≤ p) → A 86 p = M 86 p ∧ A 87 p = M 87 p) ∧ ∀ j, j ≠ i → A 88 j = M 88 j ∧ A 89 j = M 89 j
def MkI (M A : Mm) (i k0 k : Int) : Prop := MkF M A i ∧ KyI M A i k0 k
def MkK (M : Mm) (s z k0 v : Int) : Prop := FdR M s z ∧ ((z = -1 ∧ k0 = 0 ∧ v = 0) ∨ (0 ≤ z ∧ k0 = 1 ∧ v = M 73 z))
theorem MkI.init {M : Mm} {i k0 v : Int} : MkI M (mput (mput M 88 i 0) 89 i v) i k0 k0 := by
  have e8 : mput (mput M 88 i 0) 89 i v 88 i = 0 := by rw [mput_ne (by decide), mput_eq]
  refine ⟨⟨((Sm.rf M _).put (by decide)).put (by decide), fun p _ => ?_, fun j hj => ?_⟩, ?_, ?_, ?_, ?_⟩
  · rw [mput_ne (by decide), mput_ne (by decide), mput_ne (by decide), mput_ne (by decide)]; exact ⟨rfl, rfl⟩
  · rw [mput_ne (by decide), mput_nk hj, mput_nk hj, mput_ne (by decide)]; exact ⟨rfl, rfl⟩
  · rw [e8]; omega
  · intro q q0 q1; rw [e8] at q1; omega
  · intro q q' q0 q1 q2; rw [e8] at q2; omega
  · intro k' a b; omega
theorem MkI.stop {M A : Mm} {i k0 k : Int} (h : MkI M A i k0 k) (hs : isStopR M (40 * M 85 i + k) ∨ ∃ n q, foldR M (40 * M 85 i + k) n ∧ 0 ≤ q ∧ q < A 88 i ∧ sK M (40 * M 85 i + k) n (A 86 (40 * i + q)) (A 87 (40 * i + q))) : MkI M A i k0 (k + 1) := by
  obtain ⟨f, h1, h2, h3, h4⟩ := h
  refine ⟨f, ⟨h1.1, by omega⟩, fun q q0 q1 => ?_, h3, fun k' a b c => ?_⟩
  · obtain ⟨k', g1, g2, g3⟩ := h2 q q0 q1
    exact ⟨k', g1, by omega, g3⟩
  · by_cases ck : k' = k
    · subst ck
      exact hs.elim (fun q => absurd q c) id
    · exact h4 k' a (Int.lt_iff_le_and_ne.mpr ⟨Int.lt_add_one_iff.mp b, ck⟩) c
theorem MkI.take {M A : Mm} {i k0 k n : Int} (h : MkI M A i k0 k) (hi : 0 ≤ i) (h0 : k0 ≤ k) (hk : k - k0 < 40) (hst : ¬ isStopR M (40 * M 85 i + k)) (hf : foldR M (40 * M 85 i + k) n) (hn : 0 ≤ n ∧ n ≤ 16) (hno : ∀ q, 0 ≤ q → q < A 88 i → ¬ sK M (40 * M 85 i + k) n (A 86 (40 * i + q)) (A 87 (40 * i + q))) :
    MkI M (mput (mput (mput A 86 (40 * i + A 88 i) (40 * M 85 i + k)) 87 (40 * i + A 88 i) n) 88 i (A 88 i + 1)) i k0 (k + 1) := by
  obtain ⟨⟨f1, f2, f3⟩, h1, h2, h3, h4⟩ := h
  have e8 : mput (mput (mput A 86 (40 * i + A 88 i) (40 * M 85 i + k)) 87 (40 * i + A 88 i) n) 88 i (A 88 i + 1) 88 i = A 88 i + 1 := by rw [mput_eq]
  have e6 : ∀ p, mput (mput (mput A 86 (40 * i + A 88 i) (40 * M 85 i + k)) 87 (40 * i + A 88 i) n) 88 i (A 88 i + 1) 86 p = if p = 40 * i + A 88 i then 40 * M 85 i + k else A 86 p := by
    intro p; rw [mput_ne (by decide), mput_ne (by decide), mput_at]
  have e7 : ∀ p, mput (mput (mput A 86 (40 * i + A 88 i) (40 * M 85 i + k)) 87 (40 * i + A 88 i) n) 88 i (A 88 i + 1) 87 p = if p = 40 * i + A 88 i then n else A 87 p := by
    intro p; rw [mput_ne (by decide), mput_at, mput_ne (by decide)]
  refine ⟨⟨((f1.put (by decide)).put (by decide)).put (by decide), fun p hp => ?_, fun j hj => ?_⟩, ?_, ?_, ?_, ?_⟩
  · rw [e6, e7, if_neg (by omega), if_neg (by omega)]; exact f2 p hp
  · rw [mput_nk hj, mput_ne (by decide), mput_ne (by decide), mput_ne (by decide), mput_ne (by decide), mput_ne (by decide)]; exact f3 j hj
  · rw [e8]; omega
  · intro q q0 q1
    rw [e8] at q1
    rw [e6, e7]
    by_cases cq : q = A 88 i
    · rw [if_pos (by omega), if_pos (by omega)]
      exact ⟨k, h0, by omega, rfl, hst, hf, hn⟩
    · rw [if_neg (by omega), if_neg (by omega)]
      obtain ⟨k', g1, g2, g3⟩ := h2 q q0 (by omega)
      exact ⟨k', g1, by omega, g3⟩
  · intro q q' q0 q1 q2
    rw [e8] at q2
    rw [e6, e7, e6, e7]
    by_cases cq : q' = A 88 i
    · rw [if_pos (by omega), if_pos (by omega), if_neg (by omega), if_neg (by omega)]
      exact hno q q0 (by omega)
    · rw [if_neg (by omega), if_neg (by omega), if_neg (by omega), if_neg (by omega)]
      exact h3 q q' q0 q1 (by omega)
  · intro k' a b c
    rw [e8]
    by_cases ck : k' = k
    · subst ck
      refine ⟨n, A 88 i, hf, h1.1, by omega, ?_⟩
      rw [e6, e7, if_pos rfl, if_pos rfl]
      exact ⟨rfl, fun _ _ _ => rfl⟩
    · obtain ⟨n', q, g1, g2, g3, g4⟩ := h4 k' a (Int.lt_iff_le_and_ne.mpr ⟨Int.lt_add_one_iff.mp b, ck⟩) c
      refine ⟨n', q, g1, g2, by omega, ?_⟩
      rw [e6, e7, if_neg (by omega), if_neg (by omega)]
      exact g4
abbrev mkR : List Nat := [86, 87, 88, 89]
theorem foldR_sm {M A : Mm} (h : Sm M A mkR) (w n : Int) : foldR A w n = foldR M w n := by
  unfold foldR eLR eFitR lk
  rw [h 66 (by decide), h 74 (by decide), h 75 (by decide), h 77 (by decide), h 78 (by decide)]
theorem sK_sm {M A : Mm} (h : Sm M A mkR) (w n v m : Int) : sK A w n v m = sK M w n v m := by
  unfold sK lk
  rw [h 77 (by decide)]
theorem stop_of {M A : Mm} (h : Sm M A mkR) {w z : Int} (q : (z = -1 ∧ ∀ q, 0 ≤ q → q < M 66 6 → ¬ (A 70 q = M 78 w ∧ lk A 69 (16 * q) 77 (16 * w) (A 70 q))) ∨ (0 ≤ z ∧ z < M 66 6 ∧ (A 70 z = M 78 w ∧ lk A 69 (16 * z) 77 (16 * w) (A 70 z)) ∧ ∀ q, 0 ≤ q → q < z → ¬ (A 70 q = M 78 w ∧ lk A 69 (16 * q) 77 (16 * w) (A 70 q)))) : (z = -1 ∧ ¬ isStopR M w) ∨ (0 ≤ z ∧ z < 60 ∨ 0 ≤ z) ∧ isStopR M w := by
  unfold isStopR
  unfold lk at *
  rw [h 70 (by decide), h 69 (by decide), h 77 (by decide)] at q
  rcases q with ⟨q1, q2⟩ | ⟨q1, q2, q3, q4⟩
  · exact Or.inl ⟨q1, fun ⟨x, a, b, c⟩ => q2 x a b c⟩
  · exact Or.inr ⟨Or.inr q1, z, q1, q2, q3⟩
theorem fdr_of {M : Mm} {i s z : Int} (q : (z = -1 ∧ ∀ q, 0 ≤ q → q < M 66 10 → ¬ (mput M 88 i 0 72 q = M 78 (40 * s) ∧ lk (mput M 88 i 0) 71 (16 * q) 77 (640 * s) (mput M 88 i 0 72 q))) ∨ (0 ≤ z ∧ z < M 66 10 ∧ (mput M 88 i 0 72 z = M 78 (40 * s) ∧ lk (mput M 88 i 0) 71 (16 * z) 77 (640 * s) (mput M 88 i 0 72 z)) ∧ ∀ q, 0 ≤ q → q < z → ¬ (mput M 88 i 0 72 q = M 78 (40 * s) ∧ lk (mput M 88 i 0) 71 (16 * q) 77 (640 * s) (mput M 88 i 0 72 q)))) : FdR M s z := by
  unfold FdR
  unfold lk at *
  rw [mput_ne (by decide), mput_ne (by decide), mput_ne (by decide)] at q
  exact q

set_option maxRecDepth 20000 in
set_option maxHeartbeats 4000000 in
theorem ct_X11_makeKeys (E : Ev) (M : Mm) (i : Int) (he : eR M) (hi : 0 ≤ i ∧ i < M 66 24) (hT : tR M 6 70 60) (hS : tR M 10 72 30) (hN : tR M 13 75 10) : Ct E yX11_makeKeys cX11_makeKeys 9 none 2 [zr E 66, zi i] M (pV (fun M' => ∃ z k0, MkK M (M 85 i) z k0 (M' 89 i) ∧ MkI M M' i k0 (M 79 (M 85 i)))) := by
  refine Ct.of (own := RX11) (lv0 := [some (zr E 66), some (zi i), none, none, none, none, none, none, none]) (by decide) rfl (Nat.le_of_ble_eq_true rfl) rfl (fun κ C => ?_)
  have hs := he.2.2 i hi.1 hi.2
  have hw := he.2.1 (M 85 i) hs.1 hs.2
  have hn24 := he.1
  have hl0 := hw.2 0 (by omega) (by omega)
  rw [Int.add_zero] at hl0
  have h10 := hS.1
  have L81 : ∀ (n9 : Nat) (z k0 v k : Int) (A : Mm) (u5 u6 u7 u8 : Option Value) (hk : (k0 = 0 ∨ k0 = 1) ∧ k0 ≤ k ∧ k ≤ M 79 (M 85 i)) (hz : MkK M (M 85 i) z k0 v) (hv : A 89 i = v) (hA : MkI M A i k0 k) (hm : (M 79 (M 85 i) - k).toNat < n9), Gm E κ (pV (fun M' => ∃ z k0, MkK M (M 85 i) z k0 (M' 89 i) ∧ MkI M M' i k0 (M 79 (M 85 i)))) 9 81 [some (zr E 66), some (zi i), some (zi (M 85 i)), some (zi z), some (zi k), u5, u6, u7, u8] [] A := by
    intro n9
    induction n9 with
    | zero => intro z k0 v k A u5 u6 u7 u8 hk hz hv hA hm; exact absurd hm (Nat.not_lt_zero _)
    | succ n9 ih81 =>
      intro z k0 v k A u5 u6 u7 u8 hk hz hv hA hm
      have a66 : A 66 = M 66 := hA.1.1 66 (by decide)
      have a69 : A 69 = M 69 := hA.1.1 69 (by decide)
      have a70 : A 70 = M 70 := hA.1.1 70 (by decide)
      have a73 : A 73 = M 73 := hA.1.1 73 (by decide)
      have a74 : A 74 = M 74 := hA.1.1 74 (by decide)
      have a75 : A 75 = M 75 := hA.1.1 75 (by decide)
      have a77 : A 77 = M 77 := hA.1.1 77 (by decide)
      have a78 : A 78 = M 78 := hA.1.1 78 (by decide)
      have a79 : A 79 = M 79 := hA.1.1 79 (by decide)
      have hA1 := hA.2.1
      have L153 : ∀ (n9 : Nat) (n t q : Int) (hkl : k < M 79 (M 85 i)) (hn : 0 ≤ n ∧ n ≤ 16) (hf : foldR M (40 * M 85 i + k) n) (hst : ¬ isStopR M (40 * M 85 i + k)) (hq : 0 ≤ q ∧ q ≤ A 88 i) (ht : Bz t (∃ p, 0 ≤ p ∧ p < q ∧ sK M (40 * M 85 i + k) n (A 86 (40 * i + p)) (A 87 (40 * i + p)))) (hm : (A 88 i - q).toNat < n9), Gm E κ (pV (fun M' => ∃ z k0, MkK M (M 85 i) z k0 (M' 89 i) ∧ MkI M M' i k0 (M 79 (M 85 i)))) 9 153 [some (zr E 66), some (zi i), some (zi (M 85 i)), some (zi z), some (zi k), some (zi (40 * M 85 i + k)), some (zi n), some (zi t), some (zi q)] [] A := by
        intro n9
        induction n9 with
        | zero => intro n t q  hkl hn hf hst hq ht hm; exact absurd hm (Nat.not_lt_zero _)
        | succ n9 ih153 =>
          intro n t q  hkl hn hf hst hq ht hm
          have L209 : ∀  (hfin : t = 0 → q = A 88 i), Gm E κ (pV (fun M' => ∃ z k0, MkK M (M 85 i) z k0 (M' 89 i) ∧ MkI M M' i k0 (M 79 (M 85 i)))) 9 209 [some (zr E 66), some (zi i), some (zi (M 85 i)), some (zi z), some (zi k), some (zi (40 * M 85 i + k)), some (zi n), some (zi t), some (zi q)] [] A := by
            intro   hfin
            refine s_iload C dX11_makeKeys_209 rfl ?_
            refine s_if_eq (tgt := 217) C dX11_makeKeys_211 (by decide) (by rcases ht with ⟨g, _⟩ | ⟨g, _⟩ <;> omega) (fun c211 => ?_) (fun c211 => ?_)
            · skip
              have hqe := hfin c211
              refine s_aload_n C dX11_makeKeys_217 rfl ?_
              refine s_getr (k := 28) (b := 86) C dX11_makeKeys_218 fl_X11_72 (by decide) rfl (by decide) rfl ?_
              refine s_bipush C dX11_makeKeys_221 (by decide) ?_
              refine s_iload_n C dX11_makeKeys_223 rfl ?_
              refine s_imul C dX11_makeKeys_224 ?_
              refine s_aload_n C dX11_makeKeys_225 rfl ?_
              refine s_getr (k := 30) (b := 88) C dX11_makeKeys_226 fl_X11_78 (by decide) rfl (by decide) rfl ?_
              refine s_iload_n C dX11_makeKeys_229 rfl ?_
              refine s_iaload (n := 24) (z := A 88 i) C dX11_makeKeys_230 (by decide) rfl rfl (by omega) (by omega) (by omega) (rfl) (fun r230 => ?_)
              refine s_iadd C dX11_makeKeys_231 ?_
              refine s_iload C dX11_makeKeys_232 rfl ?_
              refine s_iastore (n := 960) C dX11_makeKeys_234 (by decide) rfl rfl (by omega) (by omega) (by omega) (by omega) ?_
              refine s_aload_n C dX11_makeKeys_235 rfl ?_
              refine s_getr (k := 29) (b := 87) C dX11_makeKeys_236 fl_X11_75 (by decide) rfl (by decide) rfl ?_
              refine s_bipush C dX11_makeKeys_239 (by decide) ?_
              refine s_iload_n C dX11_makeKeys_241 rfl ?_
              refine s_imul C dX11_makeKeys_242 ?_
              refine s_aload_n C dX11_makeKeys_243 rfl ?_
              refine s_getr (k := 30) (b := 88) C dX11_makeKeys_244 fl_X11_78 (by decide) rfl (by decide) rfl ?_
              refine s_iload_n C dX11_makeKeys_247 rfl ?_
              refine s_iaload (n := 24) (z := A 88 i) C dX11_makeKeys_248 (by decide) rfl rfl (by omega) (by omega) (by omega) (by rw [mput_ne (by decide)]) (fun r248 => ?_)
              refine s_iadd C dX11_makeKeys_249 ?_
              refine s_iload C dX11_makeKeys_250 rfl ?_
              refine s_iastore (n := 960) C dX11_makeKeys_252 (by decide) rfl rfl (by omega) (by omega) (by omega) (by omega) ?_
              refine s_aload_n C dX11_makeKeys_253 rfl ?_
              refine s_getr (k := 30) (b := 88) C dX11_makeKeys_254 fl_X11_78 (by decide) rfl (by decide) rfl ?_
              refine s_iload_n C dX11_makeKeys_257 rfl ?_
              refine s_dup2 C dX11_makeKeys_258 rfl rfl ?_
              refine s_iaload (n := 24) (z := A 88 i) C dX11_makeKeys_259 (by decide) rfl rfl (by omega) (by omega) (by omega) (by rw [mput_ne (by decide), mput_ne (by decide)]) (fun r259 => ?_)
              refine s_iconst C dX11_makeKeys_260 ?_
              refine s_iadd C dX11_makeKeys_261 ?_
              refine s_iastore (n := 24) C dX11_makeKeys_262 (by decide) rfl rfl (by omega) (by omega) (by omega) (by omega) ?_
              refine s_iinc (lv' := [_, _, _, _, _, _, _, _, _]) C dX11_makeKeys_263 rfl (by decide) rfl rfl rfl ?_
              refine s_goto (tgt := 81) C dX11_makeKeys_266 (by decide) ?_
              first
                | exact ih81 z k0 v (k + 1) _ _ _ _ _ (by omega) hz (by rw [mput_ne (by decide), mput_ne (by decide), mput_ne (by decide)]; exact hv) (hA.take (by omega) (by omega) (by omega) hst hf hn (fun q2 a b c => by rcases ht with ⟨g, _⟩ | ⟨_, g⟩; exact absurd (c211.symm.trans g) (by decide); exact g ⟨q2, a, by omega, c⟩)) (by omega)
                | exact ih81 z k0 v (k + 1) _ _ _ _ _ (by omega) hz hv (hA.stop (Or.inl (by rcases f129 with ⟨g, _⟩ | ⟨_, g⟩; exact absurd g c133; exact g))) (by omega)
                | exact ih81 z k0 v (k + 1) _ _ _ _ _ (by omega) hz hv (hA.stop (Or.inr (by rcases ht with ⟨_, p, g1, g2, g3⟩ | ⟨g, _⟩; exact ⟨n, p, hf, g1, by omega, g3⟩; exact absurd g c211))) (by omega)
            · skip
              refine s_goto (tgt := 263) C dX11_makeKeys_214 (by decide) ?_
              refine s_iinc (lv' := [_, _, _, _, _, _, _, _, _]) C dX11_makeKeys_263 rfl (by decide) rfl rfl rfl ?_
              refine s_goto (tgt := 81) C dX11_makeKeys_266 (by decide) ?_
              first
                | exact ih81 z k0 v (k + 1) _ _ _ _ _ (by omega) hz (by rw [mput_ne (by decide), mput_ne (by decide), mput_ne (by decide)]; exact hv) (hA.take (by omega) (by omega) (by omega) hst hf hn (fun q2 a b c => by rcases ht with ⟨g, _⟩ | ⟨_, g⟩; exact absurd (c211.symm.trans g) (by decide); exact g ⟨q2, a, by omega, c⟩)) (by omega)
                | exact ih81 z k0 v (k + 1) _ _ _ _ _ (by omega) hz hv (hA.stop (Or.inl (by rcases f129 with ⟨g, _⟩ | ⟨_, g⟩; exact absurd g c133; exact g))) (by omega)
                | exact ih81 z k0 v (k + 1) _ _ _ _ _ (by omega) hz hv (hA.stop (Or.inr (by rcases ht with ⟨_, p, g1, g2, g3⟩ | ⟨g, _⟩; exact ⟨n, p, hf, g1, by omega, g3⟩; exact absurd g c211))) (by omega)
          refine s_iload C dX11_makeKeys_153 rfl ?_
          refine s_aload_n C dX11_makeKeys_155 rfl ?_
          refine s_getr (k := 30) (b := 88) C dX11_makeKeys_156 fl_X11_78 (by decide) rfl (by decide) rfl ?_
          refine s_iload_n C dX11_makeKeys_159 rfl ?_
          refine s_iaload (n := 24) C dX11_makeKeys_160 (by decide) rfl rfl (by omega) (by omega) (by omega) (rfl) (fun r160 => ?_)
          refine s_icmp_ge (tgt := 209) C dX11_makeKeys_161 (by decide) (by omega) (by omega) (fun c161 => ?_) (fun c161 => ?_)
          · skip
            exact L209 (fun _ => by omega)
          · skip
            refine s_iload C dX11_makeKeys_164 rfl ?_
            refine s_if_ne (tgt := 209) C dX11_makeKeys_166 (by decide) (by rcases ht with ⟨g, _⟩ | ⟨g, _⟩ <;> omega) (fun c166 => ?_) (fun c166 => ?_)
            · skip
              exact L209 (fun h => absurd h c166)
            · skip
              have b2 := hA.2.2.1 q (by omega) (by omega)
              obtain ⟨k2, b3, b4, b5, _, _, b6⟩ := b2
              refine s_aload_n C dX11_makeKeys_169 rfl ?_
              refine s_iload C dX11_makeKeys_170 rfl ?_
              refine s_iload C dX11_makeKeys_172 rfl ?_
              refine s_aload_n C dX11_makeKeys_174 rfl ?_
              refine s_getr (k := 28) (b := 86) C dX11_makeKeys_175 fl_X11_72 (by decide) rfl (by decide) rfl ?_
              refine s_bipush C dX11_makeKeys_178 (by decide) ?_
              refine s_iload_n C dX11_makeKeys_180 rfl ?_
              refine s_imul C dX11_makeKeys_181 ?_
              refine s_iload C dX11_makeKeys_182 rfl ?_
              refine s_iadd C dX11_makeKeys_184 ?_
              refine s_iaload (n := 960) C dX11_makeKeys_185 (by decide) rfl rfl (by omega) (by omega) (by omega) (rfl) (fun r185 => ?_)
              refine s_aload_n C dX11_makeKeys_186 rfl ?_
              refine s_getr (k := 29) (b := 87) C dX11_makeKeys_187 fl_X11_75 (by decide) rfl (by decide) rfl ?_
              refine s_bipush C dX11_makeKeys_190 (by decide) ?_
              refine s_iload_n C dX11_makeKeys_192 rfl ?_
              refine s_imul C dX11_makeKeys_193 ?_
              refine s_iload C dX11_makeKeys_194 rfl ?_
              refine s_iadd C dX11_makeKeys_196 ?_
              refine s_iaload (n := 960) C dX11_makeKeys_197 (by decide) rfl rfl (by omega) (by omega) (by omega) (rfl) (fun r197 => ?_)
              refine s_callV4 C dX11_makeKeys_198 cy_X11_sameKey cv_X11_sameKey lk_X11_208 (ct_X11_sameKey E A (40 * M 85 i + k) n (A 86 (40 * i + q)) (A 87 (40 * i + q)) (by omega) (by omega) hn b6) (by decide) (by decide) (by first | decide | (decide)) rfl (Nat.le_of_ble_eq_true rfl) (k_P (fun z198 q198 => ?_))
              rw [sK_sm hA.1.1] at q198
              refine s_istore (lv' := [_, _, _, _, _, _, _, _, _]) C dX11_makeKeys_201 (by decide) rfl rfl ?_
              refine s_iinc (lv' := [_, _, _, _, _, _, _, _, _]) C dX11_makeKeys_203 rfl (by decide) rfl rfl rfl ?_
              refine s_goto (tgt := 153) C dX11_makeKeys_206 (by decide) ?_
              exact ih153 n _ (q + 1) hkl hn hf hst (by omega) (by
                rcases q198 with ⟨g1, g2⟩ | ⟨g1, g2⟩
                · rw [g1]; exact Bz.t ⟨q, by omega, by omega, g2⟩
                · rw [g1]
                  refine Bz.f (fun ⟨p, a, b, c⟩ => ?_)
                  by_cases cp : p = q
                  · subst cp; exact g2 c
                  · rcases ht with ⟨g, _⟩ | ⟨_, g⟩
                    · exact absurd (g.symm.trans c166) (by decide)
                    · exact g ⟨p, a, by omega, c⟩) (by omega)
      refine s_iload C dX11_makeKeys_81 rfl ?_
      refine s_aload_n C dX11_makeKeys_83 rfl ?_
      refine s_getr (k := 17) (b := 79) C dX11_makeKeys_84 fl_X11_47 (by decide) rfl (by decide) rfl ?_
      refine s_iload_n C dX11_makeKeys_87 rfl ?_
      refine s_iaload (n := 24) (z := M 79 (M 85 i)) C dX11_makeKeys_88 (by decide) rfl rfl (by omega) (by omega) (by omega) (by rw [a79]) (fun r88 => ?_)
      refine s_icmp_ge (tgt := 269) C dX11_makeKeys_89 (by decide) (by omega) (by omega) (fun c89 => ?_) (fun c89 => ?_)
      · skip
        exact s_return C dX11_makeKeys_269 (⟨rfl, by have c0 : k = M 79 (M 85 i) := (by omega); subst c0; exact ⟨z, k0, by rw [hv]; exact hz, hA⟩⟩)
      · skip
        have hlk := hw.2 k (by omega) (by omega)
        refine s_bipush C dX11_makeKeys_92 (by decide) ?_
        refine s_iload_n C dX11_makeKeys_94 rfl ?_
        refine s_imul C dX11_makeKeys_95 ?_
        refine s_iload C dX11_makeKeys_96 rfl ?_
        refine s_iadd C dX11_makeKeys_98 ?_
        refine s_istore (lv' := [_, _, _, _, _, _, _, _, _]) C dX11_makeKeys_99 (by decide) rfl rfl ?_
        refine s_aload_n C dX11_makeKeys_101 rfl ?_
        refine s_getr (k := 4) (b := 69) C dX11_makeKeys_102 fl_X11_16 (by decide) rfl (by decide) rfl ?_
        refine s_aload_n C dX11_makeKeys_105 rfl ?_
        refine s_getr (k := 5) (b := 70) C dX11_makeKeys_106 fl_X11_19 (by decide) rfl (by decide) rfl ?_
        refine s_aload_n C dX11_makeKeys_109 rfl ?_
        refine s_geti (k := 6) (j := 6) (z := M 66 6) C dX11_makeKeys_110 fl_X11_161 (by decide) rfl (by decide) rfl (by rw [a66]) (fun r110 => ?_)
        refine s_aload_n C dX11_makeKeys_113 rfl ?_
        refine s_getr (k := 15) (b := 77) C dX11_makeKeys_114 fl_X11_41 (by decide) rfl (by decide) rfl ?_
        refine s_bipush C dX11_makeKeys_117 (by decide) ?_
        refine s_iload C dX11_makeKeys_119 rfl ?_
        refine s_imul C dX11_makeKeys_121 ?_
        refine s_aload_n C dX11_makeKeys_122 rfl ?_
        refine s_getr (k := 16) (b := 78) C dX11_makeKeys_123 fl_X11_44 (by decide) rfl (by decide) rfl ?_
        refine s_iload C dX11_makeKeys_126 rfl ?_
        refine s_iaload (n := 960) (z := M 78 (40 * M 85 i + k)) C dX11_makeKeys_128 (by decide) rfl rfl (by omega) (by omega) (by omega) (by rw [a78]) (fun r128 => ?_)
        refine s_callS6 C dX11_makeKeys_129 cy_X11_find cs_X11_find lk_X11_164 (ct_X11_find E 70 (by decide) 69 77 (by decide) (by decide) (by decide) (by decide) A (M 66 6) (16 * (40 * M 85 i + k)) (M 78 (40 * M 85 i + k)) (by have l1 : ln 70 = 60 := rfl; have l2 : ln 69 = 960 := rfl; have := hT.1; omega) (fun q a b => by rw [a70]; exact hT.2 q a b) (by omega) (by have l2 : ln 77 = 15360 := rfl; omega)) (by decide) (Nat.le_of_ble_eq_true rfl) (k_P (fun z129 q129 => ?_))
        have z129r : -1 ≤ z129 ∧ z129 ≤ 60 := by
          have h6 := hT.1
          rcases q129 with ⟨g, _⟩ | ⟨g, g2, _⟩ <;> omega
        have f129 := stop_of hA.1.1 q129
        clear q129
        refine s_iconst C dX11_makeKeys_132 ?_
        refine s_icmp_eq (tgt := 139) C dX11_makeKeys_133 (by decide) (by omega) (by omega) (fun c133 => ?_) (fun c133 => ?_)
        · skip
          refine s_aload_n C dX11_makeKeys_139 rfl ?_
          refine s_iload C dX11_makeKeys_140 rfl ?_
          refine s_callV1 C dX11_makeKeys_142 cy_X11_folded cv_X11_folded lk_X11_205 (ct_X11_folded E A (40 * M 85 i + k) (by omega) (by rw [a78]; exact hlk) (by unfold tR; rw [a66, a75]; exact hN)) (by decide) (by decide) (by first | decide | (decide)) rfl (Nat.le_of_ble_eq_true rfl) (k_P (fun z142 q142 => ?_))
          rw [foldR_sm hA.1.1] at q142
          obtain ⟨q142, q142b⟩ := q142
          refine s_istore (lv' := [_, _, _, _, _, _, _, _, _]) C dX11_makeKeys_145 (by decide) rfl rfl ?_
          refine s_iconst C dX11_makeKeys_147 ?_
          refine s_istore (lv' := [_, _, _, _, _, _, _, _, _]) C dX11_makeKeys_148 (by decide) rfl rfl ?_
          refine s_iconst C dX11_makeKeys_150 ?_
          refine s_istore (lv' := [_, _, _, _, _, _, _, _, _]) C dX11_makeKeys_151 (by decide) rfl rfl ?_
          exact L153 _ z142 0 0 (by omega) q142b q142 (by rcases f129 with ⟨_, g⟩ | ⟨g, _⟩; exact g; exact absurd c133 (by omega)) (by omega) (Bz.f (fun ⟨p, a, b, _⟩ => by omega)) (Nat.lt_succ_self _)
        · skip
          refine s_goto (tgt := 263) C dX11_makeKeys_136 (by decide) ?_
          refine s_iinc (lv' := [_, _, _, _, _, _, _, _, _]) C dX11_makeKeys_263 rfl (by decide) rfl rfl rfl ?_
          refine s_goto (tgt := 81) C dX11_makeKeys_266 (by decide) ?_
          first
            | exact ih81 z k0 v (k + 1) _ _ _ _ _ (by omega) hz (by rw [mput_ne (by decide), mput_ne (by decide), mput_ne (by decide)]; exact hv) (hA.take (by omega) (by omega) (by omega) hst hf hn (fun q2 a b c => by rcases ht with ⟨g, _⟩ | ⟨_, g⟩; exact absurd (c211.symm.trans g) (by decide); exact g ⟨q2, a, by omega, c⟩)) (by omega)
            | exact ih81 z k0 v (k + 1) _ _ _ _ _ (by omega) hz hv (hA.stop (Or.inl (by rcases f129 with ⟨g, _⟩ | ⟨_, g⟩; exact absurd g c133; exact g))) (by omega)
            | exact ih81 z k0 v (k + 1) _ _ _ _ _ (by omega) hz hv (hA.stop (Or.inr (by rcases ht with ⟨_, p, g1, g2, g3⟩ | ⟨g, _⟩; exact ⟨n, p, hf, g1, by omega, g3⟩; exact absurd g c211))) (by omega)
  refine s_aload_n C dX11_makeKeys_0 rfl ?_
  refine s_getr (k := 23) (b := 85) C dX11_makeKeys_1 fl_X11_65 (by decide) rfl (by decide) rfl ?_
  refine s_iload_n C dX11_makeKeys_4 rfl ?_
  refine s_iaload (n := 24) C dX11_makeKeys_5 (by decide) rfl rfl (by omega) (by omega) (by omega) (rfl) (fun r5 => ?_)
  refine s_istore_n (lv' := [_, _, _, _, _, _, _, _, _]) C dX11_makeKeys_6 (by decide) rfl rfl ?_
  refine s_aload_n C dX11_makeKeys_7 rfl ?_
  refine s_getr (k := 30) (b := 88) C dX11_makeKeys_8 fl_X11_78 (by decide) rfl (by decide) rfl ?_
  refine s_iload_n C dX11_makeKeys_11 rfl ?_
  refine s_iconst C dX11_makeKeys_12 ?_
  refine s_iastore (n := 24) C dX11_makeKeys_13 (by decide) rfl rfl (by omega) (by omega) (by omega) (by omega) ?_
  refine s_aload_n C dX11_makeKeys_14 rfl ?_
  refine s_getr (k := 7) (b := 71) C dX11_makeKeys_15 fl_X11_23 (by decide) rfl (by decide) rfl ?_
  refine s_aload_n C dX11_makeKeys_18 rfl ?_
  refine s_getr (k := 8) (b := 72) C dX11_makeKeys_19 fl_X11_26 (by decide) rfl (by decide) rfl ?_
  refine s_aload_n C dX11_makeKeys_22 rfl ?_
  refine s_geti (k := 10) (j := 10) C dX11_makeKeys_23 fl_X11_180 (by decide) rfl (by decide) rfl (by first | (simp (disch := omega) only [mput_ne, mput_nk, mput_eq, mcopy_ne]; done) | (simp (disch := omega) only [mput_ne, mput_nk, mput_eq, mcopy_ne]; rfl) | rfl) (fun r23 => ?_)
  refine s_aload_n C dX11_makeKeys_26 rfl ?_
  refine s_getr (k := 15) (b := 77) C dX11_makeKeys_27 fl_X11_41 (by decide) rfl (by decide) rfl ?_
  refine s_sipush C dX11_makeKeys_30 (by decide) ?_
  refine s_iload_n C dX11_makeKeys_33 rfl ?_
  refine s_imul C dX11_makeKeys_34 ?_
  refine s_aload_n C dX11_makeKeys_35 rfl ?_
  refine s_getr (k := 16) (b := 78) C dX11_makeKeys_36 fl_X11_44 (by decide) rfl (by decide) rfl ?_
  refine s_bipush C dX11_makeKeys_39 (by decide) ?_
  refine s_iload_n C dX11_makeKeys_41 rfl ?_
  refine s_imul C dX11_makeKeys_42 ?_
  refine s_iaload (n := 960) C dX11_makeKeys_43 (by decide) rfl rfl (by omega) (by omega) (by omega) (by first | (simp (disch := omega) only [mput_ne, mput_nk, mput_eq, mcopy_ne]; done) | (simp (disch := omega) only [mput_ne, mput_nk, mput_eq, mcopy_ne]; rfl) | rfl) (fun r43 => ?_)
  refine s_callS6 C dX11_makeKeys_44 cy_X11_find cs_X11_find lk_X11_164 (ct_X11_find E 72 (by decide) 71 77 (by decide) (by decide) (by decide) (by decide) (mput M 88 i 0) (M 66 10) (640 * M 85 i) (M 78 (40 * M 85 i)) (by have l1 : ln 72 = 30 := rfl; have l2 : ln 71 = 480 := rfl; omega) (fun q a b => by rw [mput_ne (by decide)]; exact hS.2 q a b) (by omega) (by have l2 : ln 77 = 15360 := rfl; omega)) (by decide) (Nat.le_of_ble_eq_true rfl) (k_P (fun z44 q44 => ?_))
  have f44 := fdr_of q44
  clear q44
  have z44r : (z44 = -1) ∨ (0 ≤ z44 ∧ z44 < M 66 10) := f44.elim (fun g => Or.inl g.1) (fun g => Or.inr ⟨g.1, g.2.1⟩)
  refine s_istore_n (lv' := [_, _, _, _, _, _, _, _, _]) C dX11_makeKeys_47 (by decide) rfl rfl ?_
  refine s_aload_n C dX11_makeKeys_48 rfl ?_
  refine s_getr (k := 31) (b := 89) C dX11_makeKeys_49 fl_X11_81 (by decide) rfl (by decide) rfl ?_
  refine s_iload_n C dX11_makeKeys_52 rfl ?_
  refine s_iload_n C dX11_makeKeys_53 rfl ?_
  refine s_iconst C dX11_makeKeys_54 ?_
  refine s_icmp_ne (tgt := 62) C dX11_makeKeys_55 (by decide) (by omega) (by omega) (fun c55 => ?_) (fun c55 => ?_)
  · skip
    refine s_aload_n C dX11_makeKeys_62 rfl ?_
    refine s_getr (k := 9) (b := 73) C dX11_makeKeys_63 fl_X11_29 (by decide) rfl (by decide) rfl ?_
    refine s_iload_n C dX11_makeKeys_66 rfl ?_
    refine s_iaload (n := 30) (z := M 73 z44) C dX11_makeKeys_67 (by decide) rfl rfl (by omega) (by omega) (by omega) (by rw [mput_ne (by decide)]) (fun r67 => ?_)
    refine s_iastore (n := 24) C dX11_makeKeys_68 (by decide) rfl rfl (by omega) (by omega) (by omega) (by omega) ?_
    refine s_iload_n C dX11_makeKeys_69 rfl ?_
    refine s_iconst C dX11_makeKeys_70 ?_
    refine s_icmp_ne (tgt := 78) C dX11_makeKeys_71 (by decide) (by omega) (by omega) (fun c71 => ?_) (fun c71 => ?_)
    · skip
      refine s_iconst C dX11_makeKeys_78 ?_
      refine s_istore (lv' := [_, _, _, _, _, _, _, _, _]) C dX11_makeKeys_79 (by decide) rfl rfl ?_
      first
        | (exfalso; omega)
        | (exact L81 _ z44 0 0 0 _ _ _ _ _ (by omega) ⟨f44, Or.inl ⟨by omega, rfl, rfl⟩⟩ (by rw [mput_eq]) MkI.init (Nat.lt_succ_self _))
        | (exact L81 _ z44 1 (M 73 z44) 1 _ _ _ _ _ (by omega) ⟨f44, Or.inr ⟨by omega, rfl, rfl⟩⟩ (by rw [mput_eq]) MkI.init (Nat.lt_succ_self _))
    · skip
      refine s_iconst C dX11_makeKeys_74 ?_
      refine s_goto (tgt := 79) C dX11_makeKeys_75 (by decide) ?_
      refine s_istore (lv' := [_, _, _, _, _, _, _, _, _]) C dX11_makeKeys_79 (by decide) rfl rfl ?_
      first
        | (exfalso; omega)
        | (exact L81 _ z44 0 0 0 _ _ _ _ _ (by omega) ⟨f44, Or.inl ⟨by omega, rfl, rfl⟩⟩ (by rw [mput_eq]) MkI.init (Nat.lt_succ_self _))
        | (exact L81 _ z44 1 (M 73 z44) 1 _ _ _ _ _ (by omega) ⟨f44, Or.inr ⟨by omega, rfl, rfl⟩⟩ (by rw [mput_eq]) MkI.init (Nat.lt_succ_self _))
  · skip
    refine s_iconst C dX11_makeKeys_58 ?_
    refine s_goto (tgt := 68) C dX11_makeKeys_59 (by decide) ?_
    refine s_iastore (n := 24) C dX11_makeKeys_68 (by decide) rfl rfl (by omega) (by omega) (by omega) (by omega) ?_
    refine s_iload_n C dX11_makeKeys_69 rfl ?_
    refine s_iconst C dX11_makeKeys_70 ?_
    refine s_icmp_ne (tgt := 78) C dX11_makeKeys_71 (by decide) (by omega) (by omega) (fun c71 => ?_) (fun c71 => ?_)
    · skip
      refine s_iconst C dX11_makeKeys_78 ?_
      refine s_istore (lv' := [_, _, _, _, _, _, _, _, _]) C dX11_makeKeys_79 (by decide) rfl rfl ?_
      first
        | (exfalso; omega)
        | (exact L81 _ z44 0 0 0 _ _ _ _ _ (by omega) ⟨f44, Or.inl ⟨by omega, rfl, rfl⟩⟩ (by rw [mput_eq]) MkI.init (Nat.lt_succ_self _))
        | (exact L81 _ z44 1 (M 73 z44) 1 _ _ _ _ _ (by omega) ⟨f44, Or.inr ⟨by omega, rfl, rfl⟩⟩ (by rw [mput_eq]) MkI.init (Nat.lt_succ_self _))
    · skip
      refine s_iconst C dX11_makeKeys_74 ?_
      refine s_goto (tgt := 79) C dX11_makeKeys_75 (by decide) ?_
      refine s_istore (lv' := [_, _, _, _, _, _, _, _, _]) C dX11_makeKeys_79 (by decide) rfl rfl ?_
      first
        | (exfalso; omega)
        | (exact L81 _ z44 0 0 0 _ _ _ _ _ (by omega) ⟨f44, Or.inl ⟨by omega, rfl, rfl⟩⟩ (by rw [mput_eq]) MkI.init (Nat.lt_succ_self _))
        | (exact L81 _ z44 1 (M 73 z44) 1 _ _ _ _ _ (by omega) ⟨f44, Or.inr ⟨by omega, rfl, rfl⟩⟩ (by rw [mput_eq]) MkI.init (Nat.lt_succ_self _))
