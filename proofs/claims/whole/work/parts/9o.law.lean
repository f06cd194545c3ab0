/-! THE LAW: its rows, its cases -/
def Gl (E : Ev) (base : Nat) (κ : Kp) (Q : State → Prop) (nL pc : Nat) (lv : List (Option Value)) (st : List Value) (M : Mm) (cells slots : Nat) : Prop :=
  ∀ (ls : Array Slot) (H : Heap) (locs : List Loc), Lh ls nL lv → Wp E M H → va_S (fun q => base ≤ q) (kS κ).heap H locs →
    W κ.1 E.1 κ.2.1 κ.2.2.1 (kS κ) κ.2.2.2.2.1 κ.2.2.2.2.2.1 κ.2.2.2.2.2.2.1 κ.2.2.2.2.2.2.2.1 κ.2.2.2.2.2.2.2.2 H locs cells slots Q (F0 κ.2.2.2.2.1 pc ls st)
def sx (xs : Nat → Int32) (i : Int) : Int := (xs i.toNat).toInt
theorem sx_rg (xs : Nat → Int32) (i : Int) : rg (sx xs i) := ⟨Int32.le_toInt _, Int32.toInt_lt _⟩
theorem zand_rg (x y : Int) : rg (zand x y) := ⟨Int32.le_toInt _, Int32.toInt_lt _⟩
theorem Bb.dd {E : Ev} {base : Nat} (h : Bb E base) : Dd E := fun i j _ _ e => by
  have h1 := h i
  have h2 := h j
  omega
section FL
variable {E : Ev} {base : Nat} {κ : Kp} {Q : State → Prop} {cc : ByteArray} {nL : Nat} {own : String} {R : Room} {pc : Nat} {lv : List (Option Value)} {st : List Value} {M : Mm} {cells slots : Nat}
theorem l_aload (C : Bx E base κ cc nL own R) {i : Fin 4} {v : Nat} (hd : decode cc pc = .ok (.aload_n i, 1)) (hl : lv[(i : Nat)]? = some (some (.ref v))) (k : Gl E base κ Q nL (pc + 1) lv (.ref v :: st) M cells slots) : Gl E base κ Q nL pc lv st M cells slots :=
  fun ls H locs h hP hS => lv_aload_n C.1 C.2.1 hd rfl (h.2.2.2 _ _ hl) (k ls H locs h hP hS)
theorem l_iload (C : Bx E base κ cc nL own R) {i : Fin 4} {x : Int} (hd : decode cc pc = .ok (.iload_n i, 1)) (hl : lv[(i : Nat)]? = some (some (zi x))) (k : Gl E base κ Q nL (pc + 1) lv (zi x :: st) M cells slots) : Gl E base κ Q nL pc lv st M cells slots :=
  fun ls H locs h hP hS => lv_iload_n C.1 C.2.1 hd rfl (h.2.2.2 _ _ hl) (k ls H locs h hP hS)
theorem l_iconst (C : Bx E base κ cc nL own R) {n : Int} (hd : decode cc pc = .ok (.iconst n, 1)) (k : Gl E base κ Q nL (pc + 1) lv (zi n :: st) M cells slots) : Gl E base κ Q nL pc lv st M cells slots :=
  fun ls H locs hl hP hS => lv_iconst C.1 C.2.1 hd rfl (k ls H locs hl hP hS)
theorem l_bipush (C : Bx E base κ cc nL own R) {n : Int} (hd : decode cc pc = .ok (.bipush n, 2)) (hn : (Int8.ofInt n).toInt32 = Int32.ofInt n) (k : Gl E base κ Q nL (pc + 2) lv (zi n :: st) M cells slots) : Gl E base κ Q nL pc lv st M cells slots :=
  fun ls H locs hl hP hS => lv_bipush C.1 C.2.1 hd hn (k ls H locs hl hP hS)
theorem l_iadd (C : Bx E base κ cc nL own R) {x y : Int} (hd : decode cc pc = .ok (.iadd, 1)) (k : Gl E base κ Q nL (pc + 1) lv (zi (x + y) :: st) M cells slots) : Gl E base κ Q nL pc lv (zi y :: zi x :: st) M cells slots :=
  fun ls H locs hl hP hS => lv_iadd C.1 C.2.1 hd (Int32.ofInt_add x y ▸ k ls H locs hl hP hS)
theorem l_isub (C : Bx E base κ cc nL own R) {x y : Int} (hd : decode cc pc = .ok (.isub, 1)) (k : Gl E base κ Q nL (pc + 1) lv (zi (x - y) :: st) M cells slots) : Gl E base κ Q nL pc lv (zi y :: zi x :: st) M cells slots :=
  fun ls H locs hl hP hS => lv_isub C.1 C.2.1 hd (Int32.ofInt_sub x y ▸ k ls H locs hl hP hS)
theorem l_iand (C : Bx E base κ cc nL own R) {x y : Int} (hd : decode cc pc = .ok (.iand, 1)) (k : Gl E base κ Q nL (pc + 1) lv (zi (zand x y) :: st) M cells slots) : Gl E base κ Q nL pc lv (zi y :: zi x :: st) M cells slots :=
  fun ls H locs hl hP hS => lv_iand C.1 C.2.1 hd (zi_toInt _ ▸ k ls H locs hl hP hS)
theorem l_goto (C : Bx E base κ cc nL own R) {off : Int} {tgt : Nat} (hd : decode cc pc = .ok (.goto off, 3)) (h : (pc : Int) + off = (tgt : Int)) (k : Gl E base κ Q nL tgt lv st M cells slots) : Gl E base κ Q nL pc lv st M cells slots :=
  fun ls H locs hl hP hS => lv_goto C.1 C.2.1 hd h (k ls H locs hl hP hS)
theorem l_iinc (C : Bx E base κ cc nL own R) {i : Nat} {n x : Int} (hd : decode cc pc = .ok (.iinc i n, 3)) (hl : lv[i]? = some (some (zi x))) (hn : i < nL) {lv' : List (Option Value)} {z : Int} (hz : x + n = z) (ho : oks lv i = true) (he : lv.set i (some (zi z)) = lv') (k : Gl E base κ Q nL (pc + 3) lv' st M cells slots) : Gl E base κ Q nL pc lv st M cells slots := by
  intro ls H locs h hP hS
  have hm : (i, zi x) ∈ lvl lv := lvl_mem.mpr hl
  obtain ⟨j, hj⟩ := List.getElem?_of_mem hm
  exact lv_iinc C.1 C.2.1 hd h.has hj (by rw [← hz]; exact (Int32.ofInt_add x n).symm) hn rfl (fun ls' hl' => k ls' H locs (he ▸ h.st1 ho hl') hP hS)
theorem l_gt (C : Bx E base κ cc nL own R) {x y off : Int} {tgt : Nat} (hd : decode cc pc = .ok (.if_icmp .gt off, 3)) (h : (pc : Int) + off = (tgt : Int)) (hx : rg x) (hy : rg y) (kt : y < x → Gl E base κ Q nL tgt lv st M cells slots) (kf : x ≤ y → Gl E base κ Q nL (pc + 3) lv st M cells slots) : Gl E base κ Q nL pc lv (zi y :: zi x :: st) M cells slots := by
  intro ls H locs hl hP hS
  exact lv_icmp_gt C.1 C.2.1 hd h (fun q => kt ((ofInt_lt hy hx).mp q) ls H locs hl hP hS) (fun q => kf (Int.not_lt.mp (fun z => q ((ofInt_lt hy hx).mpr z))) ls H locs hl hP hS)
theorem l_same (C : Bx E base κ cc nL own R) {x off : Int} {tgt : Nat} (hd : decode cc pc = .ok (.if_icmp .eq off, 3)) (h : (pc : Int) + off = (tgt : Int)) (k : Gl E base κ Q nL tgt lv st M cells slots) : Gl E base κ Q nL pc lv (zi x :: zi x :: st) M cells slots := by
  intro ls H locs hl hP hS
  exact lv_icmp_eq C.1 C.2.1 hd h (fun _ => k ls H locs hl hP hS) (fun q => absurd rfl q)
theorem l_tab (C : Bx E base κ cc nL own R) {dflt lo hi v off : Int} {offs : Array Int} {len tgt : Nat} (hd : decode cc pc = .ok (.tableswitch dflt lo hi offs, len)) (hr : rg v) (h1 : lo ≤ v) (h2 : v ≤ hi) (ho : offs[(v - lo).toNat]? = some off) (ht : (pc : Int) + off = (tgt : Int)) (k : Gl E base κ Q nL tgt lv st M cells slots) : Gl E base κ Q nL pc lv (zi v :: st) M cells slots := by
  intro ls H locs hl hP hS
  have e : (Int32.ofInt v).toInt = v := toInt_zi hr
  exact lv_tableIn C.1 C.2.1 hd (by rw [e]; omega) (by rw [e]; omega) (by rw [e]; exact ho) ht (k ls H locs hl hP hS)
theorem l_tabO (C : Bx E base κ cc nL own R) {dflt lo hi v : Int} {offs : Array Int} {len tgt : Nat} (hd : decode cc pc = .ok (.tableswitch dflt lo hi offs, len)) (hr : rg v) (h : v < lo ∨ hi < v) (ht : (pc : Int) + dflt = (tgt : Int)) (k : Gl E base κ Q nL tgt lv st M cells slots) : Gl E base κ Q nL pc lv (zi v :: st) M cells slots := by
  intro ls H locs hl hP hS
  have e : (Int32.ofInt v).toInt = v := toInt_zi hr
  exact lv_tableOut C.1 C.2.1 hd (by rw [e]; exact h) ht (k ls H locs hl hP hS)
def Sc (κ : Kp) (base b L : Nat) (xs : Nat → Int32) : Prop := va_X b L xs (kS κ) (kS κ).heap ∧ b < (kS κ).heap.size ∧ b < base ∧ L ≤ 3072
theorem l_sld (C : Bx E base κ cc nL own R) {b L : Nat} {xs : Nat → Int32} (S : Sc κ base b L xs) {i : Int} (hd : decode cc pc = .ok (.iaload, 1)) (h0 : 0 ≤ i) (h1 : i < (L : Int)) (k : Gl E base κ Q nL (pc + 1) lv (zi (sx xs i) :: st) M cells slots) : Gl E base κ Q nL pc lv (zi i :: .ref b :: st) M cells slots := by
  intro ls H locs hl hP hS
  obtain ⟨s1, s2, s3, s4⟩ := S
  obtain ⟨q1, q2⟩ := vp_in_zi h0 h1 (by omega)
  refine va_sld C.1 C.2.1 s1 s2 (A := fun q => base ≤ q) (by show ¬ base ≤ b; omega) hS q1 hd ?_
  rw [q2]
  have e : Value.int (xs i.toNat) = zi (sx xs i) := by unfold zi sx; rw [Int32.ofInt_toInt]
  rw [e]
  exact k ls H locs hl hP hS
theorem l_slen (C : Bx E base κ cc nL own R) {b L : Nat} {xs : Nat → Int32} (S : Sc κ base b L xs) (hd : decode cc pc = .ok (.arraylength, 1)) (k : Gl E base κ Q nL (pc + 1) lv (zi (L : Int) :: st) M cells slots) : Gl E base κ Q nL pc lv (.ref b :: st) M cells slots := by
  intro ls H locs hl hP hS
  obtain ⟨s1, s2, s3, s4⟩ := S
  refine va_slen C.1 C.2.1 s1 s2 (A := fun q => base ≤ q) (by show ¬ base ≤ b; omega) hS hd ?_
  have e : Value.int (Int32.ofNat L) = zi (L : Int) := rfl
  rw [e]
  exact k ls H locs hl hP hS
theorem l_arg (C : Bx E base κ cc nL own R) {b L : Nat} {xs : Nat → Int32} (S : Sc κ base b L xs) {i j : Int} (d0 : decode cc pc = .ok (.aload_n 0, 1)) (d1 : decode cc (pc + 1) = .ok (.iload_n 3, 1)) (d2 : decode cc (pc + 2) = .ok (.iconst j, 1)) (d3 : decode cc (pc + 3) = .ok (.iadd, 1)) (d4 : decode cc (pc + 4) = .ok (.iaload, 1)) (hl0 : lv[0]? = some (some (.ref b))) (hl3 : lv[3]? = some (some (zi i))) (h0 : 0 ≤ i + j) (h1 : i + j < (L : Int)) (k : Gl E base κ Q nL (pc + 5) lv (zi (sx xs (i + j)) :: st) M cells slots) : Gl E base κ Q nL pc lv st M cells slots :=
  l_aload C d0 hl0 (l_iload C d1 hl3 (l_iconst C d2 (l_iadd C d3 (l_sld C S d4 h0 h1 k))))
theorem l_call (C : Bx E base κ cc nL own R) {y : MethodName} {bytes : ByteArray} {maxL n ht' a index : Nat} {As rest : List Value} {P1 : Int → Mm → Prop} (hd : decode cc pc = .ok (.invokevirtual index, 3)) (hy : Cy y bytes maxL (some .int) n) (hv : Cv y) (hlk : Lk own index y) (hct : Ct E y bytes maxL (some .int) ht' (zr E a :: As) M (pI P1)) (hf : ht' + 1 ≤ R.frames ∧ 8 + (maxL + 11) + 40 * ht' ≤ R.locals) (ha : a < NID) (hka : kd a < 12) (hcl : (vwCl[kd a]?).map (fun q => q.1) = some y.cls) (hn : As.length = n) (hst : st = As.reverse ++ zr E a :: rest) (hcat : (rest.map fun v => v.category).sum ≤ 8) (hcs : cells ≤ R.cells ∧ slots ≤ R.slots)
    (kk : ∀ z M', P1 z M' → Gl E base κ Q nL (pc + 3) lv (zi z :: rest) M' cells slots) : Gl E base κ Q nL pc lv st M cells slots := by
  intro ls H locs hl hP hS T hT X
  obtain ⟨hx, hb, hml, hown, hts, hKw, hB, hsz, hR⟩ := C
  obtain ⟨y1, y2, y3, y4⟩ := hy
  subst hR
  have hD := hB.dd
  have hpre : PreV (kS κ) H y.cls (aD E a) (va_Pc (zr E a :: As) (fun U => U.heap.size = H.size ∧ Wp E M U.heap ∧ Kw E U ∧ Dd E)) As := by
    refine ⟨blindPc, ?_, fun U hU hW => ⟨rfl, by rw [hU], by rw [hU]; exact hP, hKw.warm hW, hD⟩⟩
    cases hq : vwCl[kd a]? with
    | none => rw [hq] at hcl; cases hcl
    | some q =>
      rw [hq] at hcl
      have e : q.1 = y.cls := Option.some.inj hcl
      rw [← e]
      exact va_recv hKw.1 hP.1 hq (q0 := a) (fs := (List.range (nf (kd a))).map (fv (aD E) M a)) (by rw [wl_get ha]; simp only [cE, if_pos hka])
  have run : va_Run κ.1 E.1 κ.2.1 κ.2.2.1 (kS κ) κ.2.2.2.2.1 κ.2.2.2.2.2.1 κ.2.2.2.2.2.2.1 κ.2.2.2.2.2.2.2.1 κ.2.2.2.2.2.2.2.2 H locs cells slots 0 0 (F0 κ.2.2.2.2.1 pc ls st) rest (Qx E H.size (pI P1) (Value.ref (aD E a) :: As).toArray) (Ad E H.size) := by
    rcases hlk with h | ⟨host, h⟩
    · exact va_runV (As := As) (rest := rest) ⟨hx, hb, hml, hown, hts⟩ (hct H.size) ⟨callB_of (ws := .code y bytes maxL (some .int) :: BG) (ws' := BG) n hts (goodBG y1) rfl rfl rfl (hts _ y2) (hts _ h) y3 hf, hts _ hv.1, hts _ hv.2⟩ hpre rfl hn hl.1 hst (lv_room hcat) hd hcs
    · exact va_runVN (As := As) (rest := rest) (C := y.cls) ⟨hx, hb, hml, hown, hts⟩ (hct H.size) ⟨va_cnB (ws := .code y bytes maxL (some .int) :: BG) (ws' := BG) n hts (goodBG y1) rfl rfl rfl (hKw.2 _ h) (hts _ y2) y3 hf, hts _ hv.1, hts _ hv.2⟩ hpre rfl hn hl.1 hst (lv_room hcat) hd hcs
  obtain ⟨v, st₀, t, T', L, h0, X', hL, e1, e2, ⟨⟨r, M', hv, hp, hW'⟩, hz, hk⟩, stp⟩ := run T hT X
  cases hv
  obtain ⟨z, rfl, hp⟩ := hp
  rw [h0] at hz hk
  have sub : ∀ q, Ad E H.size q → base ≤ q := by
    rintro q (⟨i, _, z⟩ | z)
    · rw [z, hB]; omega
    · exact Nat.le_trans hsz (Nat.le_trans hS.1 z)
  obtain ⟨t2, a1, b1⟩ := kk z M' hp ls T'.heap (locs ++ L) hl (by rw [e1]; exact hW') ⟨Nat.le_trans hS.1 (by rw [e1]; exact hz), fun q g1 g2 => by
      rw [e1, hk q (Nat.lt_of_lt_of_le g1 hS.1) (fun z => g2 (sub q z))]; exact hS.2.1 q g1 g2, fun q hq => by
      rcases List.mem_append.mp hq with h | h
      · exact hS.2.2 q h
      · exact sub _ (hL q h)⟩ T' rfl X'
  exact ⟨t2, stp t2 a1, b1⟩
end FL
abbrev lvL (E : Ev) (b : Nat) (i : Int) : List (Option Value) := [some (.ref b), some (.ref (aD E 0)), some (.ref (aD E 66)), some (zi i)]
set_option maxRecDepth 20000 in
set_option maxHeartbeats 4000000 in
theorem lc_feed {E : Ev} {base : Nat} {κ : Kp} {Q : State → Prop} {b L : Nat} {xs : Nat → Int32} {cells slots : Nat} (C : Bx E base κ cL_law 4 RL room_1) (S : Sc κ base b L xs) (hcs : cells ≤ room_1.cells ∧ slots ≤ room_1.slots) {i : Int} {M : Mm} {e d : Nat} (hi : 0 ≤ i ∧ i ≤ (L : Int) - 6) (nx : ∀ (M : Mm) (e d : Nat), Cpl M e d → Gl E base κ Q 4 779 (lvL E b i) [] M cells slots) (h : Cpl M e d) : Gl E base κ Q 4 140 (lvL E b i) [] M cells slots := by
  refine l_aload C dL_law_140 rfl ?_
  refine l_arg C S dL_law_141 dL_law_142 dL_law_143 dL_law_144 dL_law_145 rfl rfl (by omega) (by omega) ?_
  refine l_arg C S dL_law_146 dL_law_147 dL_law_148 dL_law_149 dL_law_150 rfl rfl (by omega) (by omega) ?_
  refine l_arg C S dL_law_151 dL_law_152 dL_law_153 dL_law_154 dL_law_155 rfl rfl (by omega) (by omega) ?_
  refine l_arg C S dL_law_156 dL_law_157 dL_law_158 dL_law_159 dL_law_160 rfl rfl (by omega) (by omega) ?_
  refine l_arg C S dL_law_161 dL_law_162 dL_law_163 dL_law_164 dL_law_165 rfl rfl (by omega) (by omega) ?_
  obtain ⟨P1, ct1, k1⟩ := pr_feed E h (sx xs (i + 1)) (sx xs (i + 2)) (sx xs (i + 3)) (sx xs (i + 4)) (sx xs (i + 5)) (sx_rg xs (i + 1)) (sx_rg xs (i + 2)) (sx_rg xs (i + 3)) (sx_rg xs (i + 4)) (sx_rg xs (i + 5))
  refine l_call (a := 0) (As := [zi (sx xs (i + 1)), zi (sx xs (i + 2)), zi (sx xs (i + 3)), zi (sx xs (i + 4)), zi (sx xs (i + 5))]) (rest := []) C dL_law_166 cy_X10_feed cv_X10_feed lk_L_13 ct1 ⟨by decide, by decide⟩ (by decide) (by decide) rfl rfl rfl (by decide) hcs (fun z M1 a => ?_)
  obtain ⟨P2, ct2, k2⟩ := k1 z M1 a
  refine l_aload C dL_law_169 rfl ?_
  refine l_arg C S dL_law_170 dL_law_171 dL_law_172 dL_law_173 dL_law_174 rfl rfl (by omega) (by omega) ?_
  refine l_arg C S dL_law_175 dL_law_176 dL_law_177 dL_law_178 dL_law_179 rfl rfl (by omega) (by omega) ?_
  refine l_arg C S dL_law_180 dL_law_181 dL_law_182 dL_law_183 dL_law_184 rfl rfl (by omega) (by omega) ?_
  refine l_arg C S dL_law_185 dL_law_186 dL_law_187 dL_law_188 dL_law_189 rfl rfl (by omega) (by omega) ?_
  refine l_arg C S dL_law_190 dL_law_191 dL_law_192 dL_law_193 dL_law_194 rfl rfl (by omega) (by omega) ?_
  refine l_call (a := 66) (As := [zi (sx xs (i + 1)), zi (sx xs (i + 2)), zi (sx xs (i + 3)), zi (sx xs (i + 4)), zi (sx xs (i + 5))]) (rest := [zi z]) C dL_law_195 cy_X11_feed cv_X11_feed lk_L_17 ct2 ⟨by decide, by decide⟩ (by decide) (by decide) rfl rfl rfl (Nat.le_of_ble_eq_true rfl) hcs (fun z2 M2 b2 => ?_)
  obtain ⟨rfl, e2, d2, h2⟩ := k2 z2 M2 b2
  refine l_same (tgt := 779) C dL_law_198 (by decide) ?_
  exact nx M2 e2 d2 h2
set_option maxRecDepth 20000 in
set_option maxHeartbeats 4000000 in
theorem lc_end {E : Ev} {base : Nat} {κ : Kp} {Q : State → Prop} {b L : Nat} {xs : Nat → Int32} {cells slots : Nat} (C : Bx E base κ cL_law 4 RL room_1) (S : Sc κ base b L xs) (hcs : cells ≤ room_1.cells ∧ slots ≤ room_1.slots) {i : Int} {M : Mm} {e d : Nat} (hi : 0 ≤ i ∧ i ≤ (L : Int) - 6) (nx : ∀ (M : Mm) (e d : Nat), Cpl M e d → Gl E base κ Q 4 779 (lvL E b i) [] M cells slots) (h : Cpl M e d) : Gl E base κ Q 4 203 (lvL E b i) [] M cells slots := by
  refine l_aload C dL_law_203 rfl ?_
  refine l_arg C S dL_law_204 dL_law_205 dL_law_206 dL_law_207 dL_law_208 rfl rfl (by omega) (by omega) ?_
  obtain ⟨P1, ct1, k1⟩ := pr_end E h (sx xs (i + 1)) (sx_rg xs (i + 1))
  refine l_call (a := 0) (As := [zi (sx xs (i + 1))]) (rest := []) C dL_law_209 cy_X10_end cv_X10_end lk_L_18 ct1 ⟨by decide, by decide⟩ (by decide) (by decide) rfl rfl rfl (by decide) hcs (fun z M1 a => ?_)
  obtain ⟨P2, ct2, k2⟩ := k1 z M1 a
  refine l_aload C dL_law_212 rfl ?_
  refine l_arg C S dL_law_213 dL_law_214 dL_law_215 dL_law_216 dL_law_217 rfl rfl (by omega) (by omega) ?_
  refine l_call (a := 66) (As := [zi (sx xs (i + 1))]) (rest := [zi z]) C dL_law_218 cy_X11_end cv_X11_end lk_L_22 ct2 ⟨by decide, by decide⟩ (by decide) (by decide) rfl rfl rfl (Nat.le_of_ble_eq_true rfl) hcs (fun z2 M2 b2 => ?_)
  obtain ⟨rfl, e2, d2, h2⟩ := k2 z2 M2 b2
  refine l_same (tgt := 779) C dL_law_221 (by decide) ?_
  exact nx M2 e2 d2 h2
set_option maxRecDepth 20000 in
set_option maxHeartbeats 4000000 in
theorem lc_stop {E : Ev} {base : Nat} {κ : Kp} {Q : State → Prop} {b L : Nat} {xs : Nat → Int32} {cells slots : Nat} (C : Bx E base κ cL_law 4 RL room_1) (S : Sc κ base b L xs) (hcs : cells ≤ room_1.cells ∧ slots ≤ room_1.slots) {i : Int} {M : Mm} {e d : Nat} (hi : 0 ≤ i ∧ i ≤ (L : Int) - 6) (nx : ∀ (M : Mm) (e d : Nat), Cpl M e d → Gl E base κ Q 4 779 (lvL E b i) [] M cells slots) (h : Cpl M e d) : Gl E base κ Q 4 226 (lvL E b i) [] M cells slots := by
  refine l_aload C dL_law_226 rfl ?_
  obtain ⟨P1, ct1, k1⟩ := pr_stop E h  
  refine l_call (a := 0) (As := []) (rest := []) C dL_law_227 cy_X10_stop cv_X10_stop lk_L_23 ct1 ⟨by decide, by decide⟩ (by decide) (by decide) rfl rfl rfl (by decide) hcs (fun z M1 a => ?_)
  obtain ⟨P2, ct2, k2⟩ := k1 z M1 a
  refine l_aload C dL_law_230 rfl ?_
  refine l_call (a := 66) (As := []) (rest := [zi z]) C dL_law_231 cy_X11_stop cv_X11_stop lk_L_27 ct2 ⟨by decide, by decide⟩ (by decide) (by decide) rfl rfl rfl (Nat.le_of_ble_eq_true rfl) hcs (fun z2 M2 b2 => ?_)
  obtain ⟨rfl, e2, d2, h2⟩ := k2 z2 M2 b2
  refine l_same (tgt := 779) C dL_law_234 (by decide) ?_
  exact nx M2 e2 d2 h2
set_option maxRecDepth 20000 in
set_option maxHeartbeats 4000000 in
theorem lc_sign {E : Ev} {base : Nat} {κ : Kp} {Q : State → Prop} {b L : Nat} {xs : Nat → Int32} {cells slots : Nat} (C : Bx E base κ cL_law 4 RL room_1) (S : Sc κ base b L xs) (hcs : cells ≤ room_1.cells ∧ slots ≤ room_1.slots) {i : Int} {M : Mm} {e d : Nat} (hi : 0 ≤ i ∧ i ≤ (L : Int) - 6) (nx : ∀ (M : Mm) (e d : Nat), Cpl M e d → Gl E base κ Q 4 779 (lvL E b i) [] M cells slots) (h : Cpl M e d) : Gl E base κ Q 4 239 (lvL E b i) [] M cells slots := by
  refine l_aload C dL_law_239 rfl ?_
  refine l_arg C S dL_law_240 dL_law_241 dL_law_242 dL_law_243 dL_law_244 rfl rfl (by omega) (by omega) ?_
  obtain ⟨P1, ct1, k1⟩ := pr_sign E h (sx xs (i + 1)) (sx_rg xs (i + 1))
  refine l_call (a := 0) (As := [zi (sx xs (i + 1))]) (rest := []) C dL_law_245 cy_X10_sign cv_X10_sign lk_L_28 ct1 ⟨by decide, by decide⟩ (by decide) (by decide) rfl rfl rfl (by decide) hcs (fun z M1 a => ?_)
  obtain ⟨P2, ct2, k2⟩ := k1 z M1 a
  refine l_aload C dL_law_248 rfl ?_
  refine l_arg C S dL_law_249 dL_law_250 dL_law_251 dL_law_252 dL_law_253 rfl rfl (by omega) (by omega) ?_
  refine l_call (a := 66) (As := [zi (sx xs (i + 1))]) (rest := [zi z]) C dL_law_254 cy_X11_sign cv_X11_sign lk_L_31 ct2 ⟨by decide, by decide⟩ (by decide) (by decide) rfl rfl rfl (Nat.le_of_ble_eq_true rfl) hcs (fun z2 M2 b2 => ?_)
  obtain ⟨rfl, e2, d2, h2⟩ := k2 z2 M2 b2
  refine l_same (tgt := 779) C dL_law_257 (by decide) ?_
  exact nx M2 e2 d2 h2
set_option maxRecDepth 20000 in
set_option maxHeartbeats 4000000 in
theorem lc_ending {E : Ev} {base : Nat} {κ : Kp} {Q : State → Prop} {b L : Nat} {xs : Nat → Int32} {cells slots : Nat} (C : Bx E base κ cL_law 4 RL room_1) (S : Sc κ base b L xs) (hcs : cells ≤ room_1.cells ∧ slots ≤ room_1.slots) {i : Int} {M : Mm} {e d : Nat} (hi : 0 ≤ i ∧ i ≤ (L : Int) - 6) (nx : ∀ (M : Mm) (e d : Nat), Cpl M e d → Gl E base κ Q 4 779 (lvL E b i) [] M cells slots) (h : Cpl M e d) : Gl E base κ Q 4 262 (lvL E b i) [] M cells slots := by
  refine l_aload C dL_law_262 rfl ?_
  obtain ⟨P1, ct1, k1⟩ := pr_ending E h  
  refine l_call (a := 0) (As := []) (rest := []) C dL_law_263 cy_X10_ending cv_X10_ending lk_L_32 ct1 ⟨by decide, by decide⟩ (by decide) (by decide) rfl rfl rfl (by decide) hcs (fun z M1 a => ?_)
  obtain ⟨P2, ct2, k2⟩ := k1 z M1 a
  refine l_aload C dL_law_266 rfl ?_
  refine l_call (a := 66) (As := []) (rest := [zi z]) C dL_law_267 cy_X11_ending cv_X11_ending lk_L_35 ct2 ⟨by decide, by decide⟩ (by decide) (by decide) rfl rfl rfl (Nat.le_of_ble_eq_true rfl) hcs (fun z2 M2 b2 => ?_)
  obtain ⟨rfl, e2, d2, h2⟩ := k2 z2 M2 b2
  refine l_same (tgt := 779) C dL_law_270 (by decide) ?_
  exact nx M2 e2 d2 h2
set_option maxRecDepth 20000 in
set_option maxHeartbeats 4000000 in
theorem lc_weight {E : Ev} {base : Nat} {κ : Kp} {Q : State → Prop} {b L : Nat} {xs : Nat → Int32} {cells slots : Nat} (C : Bx E base κ cL_law 4 RL room_1) (S : Sc κ base b L xs) (hcs : cells ≤ room_1.cells ∧ slots ≤ room_1.slots) {i : Int} {M : Mm} {e d : Nat} (hi : 0 ≤ i ∧ i ≤ (L : Int) - 6) (nx : ∀ (M : Mm) (e d : Nat), Cpl M e d → Gl E base κ Q 4 779 (lvL E b i) [] M cells slots) (h : Cpl M e d) : Gl E base κ Q 4 275 (lvL E b i) [] M cells slots := by
  refine l_aload C dL_law_275 rfl ?_
  refine l_arg C S dL_law_276 dL_law_277 dL_law_278 dL_law_279 dL_law_280 rfl rfl (by omega) (by omega) ?_
  refine l_arg C S dL_law_281 dL_law_282 dL_law_283 dL_law_284 dL_law_285 rfl rfl (by omega) (by omega) ?_
  obtain ⟨P1, ct1, k1⟩ := pr_weight E h (sx xs (i + 1)) (sx xs (i + 2)) (sx_rg xs (i + 1)) (sx_rg xs (i + 2))
  refine l_call (a := 0) (As := [zi (sx xs (i + 1)), zi (sx xs (i + 2))]) (rest := []) C dL_law_286 cy_X10_weight cv_X10_weight lk_L_36 ct1 ⟨by decide, by decide⟩ (by decide) (by decide) rfl rfl rfl (by decide) hcs (fun z M1 a => ?_)
  obtain ⟨P2, ct2, k2⟩ := k1 z M1 a
  refine l_aload C dL_law_289 rfl ?_
  refine l_arg C S dL_law_290 dL_law_291 dL_law_292 dL_law_293 dL_law_294 rfl rfl (by omega) (by omega) ?_
  refine l_arg C S dL_law_295 dL_law_296 dL_law_297 dL_law_298 dL_law_299 rfl rfl (by omega) (by omega) ?_
  refine l_call (a := 66) (As := [zi (sx xs (i + 1)), zi (sx xs (i + 2))]) (rest := [zi z]) C dL_law_300 cy_X11_weight cv_X11_weight lk_L_40 ct2 ⟨by decide, by decide⟩ (by decide) (by decide) rfl rfl rfl (Nat.le_of_ble_eq_true rfl) hcs (fun z2 M2 b2 => ?_)
  obtain ⟨rfl, e2, d2, h2⟩ := k2 z2 M2 b2
  refine l_same (tgt := 779) C dL_law_303 (by decide) ?_
  exact nx M2 e2 d2 h2
set_option maxRecDepth 20000 in
set_option maxHeartbeats 4000000 in
theorem lc_read {E : Ev} {base : Nat} {κ : Kp} {Q : State → Prop} {b L : Nat} {xs : Nat → Int32} {cells slots : Nat} (C : Bx E base κ cL_law 4 RL room_1) (S : Sc κ base b L xs) (hcs : cells ≤ room_1.cells ∧ slots ≤ room_1.slots) {i : Int} {M : Mm} {e d : Nat} (hi : 0 ≤ i ∧ i ≤ (L : Int) - 6) (nx : ∀ (M : Mm) (e d : Nat), Cpl M e d → Gl E base κ Q 4 779 (lvL E b i) [] M cells slots) (h : Cpl M e d) : Gl E base κ Q 4 308 (lvL E b i) [] M cells slots := by
  refine l_aload C dL_law_308 rfl ?_
  obtain ⟨P1, ct1, k1⟩ := pr_read E h  
  refine l_call (a := 0) (As := []) (rest := []) C dL_law_309 cy_X10_read cv_X10_read lk_L_41 ct1 ⟨by decide, by decide⟩ (by decide) (by decide) rfl rfl rfl (by decide) hcs (fun z M1 a => ?_)
  obtain ⟨P2, ct2, k2⟩ := k1 z M1 a
  refine l_aload C dL_law_312 rfl ?_
  refine l_call (a := 66) (As := []) (rest := [zi z]) C dL_law_313 cy_X11_read cv_X11_read lk_L_44 ct2 ⟨by decide, by decide⟩ (by decide) (by decide) rfl rfl rfl (Nat.le_of_ble_eq_true rfl) hcs (fun z2 M2 b2 => ?_)
  obtain ⟨rfl, e2, d2, h2⟩ := k2 z2 M2 b2
  refine l_same (tgt := 779) C dL_law_316 (by decide) ?_
  exact nx M2 e2 d2 h2
set_option maxRecDepth 20000 in
set_option maxHeartbeats 4000000 in
theorem lc_fault {E : Ev} {base : Nat} {κ : Kp} {Q : State → Prop} {b L : Nat} {xs : Nat → Int32} {cells slots : Nat} (C : Bx E base κ cL_law 4 RL room_1) (S : Sc κ base b L xs) (hcs : cells ≤ room_1.cells ∧ slots ≤ room_1.slots) {i : Int} {M : Mm} {e d : Nat} (hi : 0 ≤ i ∧ i ≤ (L : Int) - 6) (nx : ∀ (M : Mm) (e d : Nat), Cpl M e d → Gl E base κ Q 4 779 (lvL E b i) [] M cells slots) (h : Cpl M e d) : Gl E base κ Q 4 321 (lvL E b i) [] M cells slots := by
  refine l_aload C dL_law_321 rfl ?_
  refine l_arg C S dL_law_322 dL_law_323 dL_law_324 dL_law_325 dL_law_326 rfl rfl (by omega) (by omega) ?_
  obtain ⟨P1, ct1, k1⟩ := pr_fault E h (sx xs (i + 1)) (sx_rg xs (i + 1))
  refine l_call (a := 0) (As := [zi (sx xs (i + 1))]) (rest := []) C dL_law_327 cy_X10_fault cv_X10_fault lk_L_45 ct1 ⟨by decide, by decide⟩ (by decide) (by decide) rfl rfl rfl (by decide) hcs (fun z M1 a => ?_)
  obtain ⟨P2, ct2, k2⟩ := k1 z M1 a
  refine l_aload C dL_law_330 rfl ?_
  refine l_arg C S dL_law_331 dL_law_332 dL_law_333 dL_law_334 dL_law_335 rfl rfl (by omega) (by omega) ?_
  refine l_call (a := 66) (As := [zi (sx xs (i + 1))]) (rest := [zi z]) C dL_law_336 cy_X11_fault cv_X11_fault lk_L_48 ct2 ⟨by decide, by decide⟩ (by decide) (by decide) rfl rfl rfl (Nat.le_of_ble_eq_true rfl) hcs (fun z2 M2 b2 => ?_)
  obtain ⟨rfl, e2, d2, h2⟩ := k2 z2 M2 b2
  refine l_same (tgt := 779) C dL_law_339 (by decide) ?_
  exact nx M2 e2 d2 h2
set_option maxRecDepth 20000 in
set_option maxHeartbeats 4000000 in
theorem lc_sentence {E : Ev} {base : Nat} {κ : Kp} {Q : State → Prop} {b L : Nat} {xs : Nat → Int32} {cells slots : Nat} (C : Bx E base κ cL_law 4 RL room_1) (S : Sc κ base b L xs) (hcs : cells ≤ room_1.cells ∧ slots ≤ room_1.slots) {i : Int} {M : Mm} {e d : Nat} (hi : 0 ≤ i ∧ i ≤ (L : Int) - 6) (nx : ∀ (M : Mm) (e d : Nat), Cpl M e d → Gl E base κ Q 4 779 (lvL E b i) [] M cells slots) (h : Cpl M e d) : Gl E base κ Q 4 344 (lvL E b i) [] M cells slots := by
  refine l_aload C dL_law_344 rfl ?_
  refine l_arg C S dL_law_345 dL_law_346 dL_law_347 dL_law_348 dL_law_349 rfl rfl (by omega) (by omega) ?_
  refine l_arg C S dL_law_350 dL_law_351 dL_law_352 dL_law_353 dL_law_354 rfl rfl (by omega) (by omega) ?_
  obtain ⟨P1, ct1, k1⟩ := pr_sentence E h (sx xs (i + 1)) (sx xs (i + 2)) (sx_rg xs (i + 1)) (sx_rg xs (i + 2))
  refine l_call (a := 0) (As := [zi (sx xs (i + 1)), zi (sx xs (i + 2))]) (rest := []) C dL_law_355 cy_X10_sentence cv_X10_sentence lk_L_49 ct1 ⟨by decide, by decide⟩ (by decide) (by decide) rfl rfl rfl (by decide) hcs (fun z M1 a => ?_)
  obtain ⟨P2, ct2, k2⟩ := k1 z M1 a
  refine l_aload C dL_law_358 rfl ?_
  refine l_arg C S dL_law_359 dL_law_360 dL_law_361 dL_law_362 dL_law_363 rfl rfl (by omega) (by omega) ?_
  refine l_arg C S dL_law_364 dL_law_365 dL_law_366 dL_law_367 dL_law_368 rfl rfl (by omega) (by omega) ?_
  refine l_call (a := 66) (As := [zi (sx xs (i + 1)), zi (sx xs (i + 2))]) (rest := [zi z]) C dL_law_369 cy_X11_sentence cv_X11_sentence lk_L_52 ct2 ⟨by decide, by decide⟩ (by decide) (by decide) rfl rfl rfl (Nat.le_of_ble_eq_true rfl) hcs (fun z2 M2 b2 => ?_)
  obtain ⟨rfl, e2, d2, h2⟩ := k2 z2 M2 b2
  refine l_same (tgt := 779) C dL_law_372 (by decide) ?_
  exact nx M2 e2 d2 h2
set_option maxRecDepth 20000 in
set_option maxHeartbeats 4000000 in
theorem lc_word {E : Ev} {base : Nat} {κ : Kp} {Q : State → Prop} {b L : Nat} {xs : Nat → Int32} {cells slots : Nat} (C : Bx E base κ cL_law 4 RL room_1) (S : Sc κ base b L xs) (hcs : cells ≤ room_1.cells ∧ slots ≤ room_1.slots) {i : Int} {M : Mm} {e d : Nat} (hi : 0 ≤ i ∧ i ≤ (L : Int) - 6) (nx : ∀ (M : Mm) (e d : Nat), Cpl M e d → Gl E base κ Q 4 779 (lvL E b i) [] M cells slots) (h : Cpl M e d) : Gl E base κ Q 4 377 (lvL E b i) [] M cells slots := by
  refine l_aload C dL_law_377 rfl ?_
  refine l_arg C S dL_law_378 dL_law_379 dL_law_380 dL_law_381 dL_law_382 rfl rfl (by omega) (by omega) ?_
  refine l_arg C S dL_law_383 dL_law_384 dL_law_385 dL_law_386 dL_law_387 rfl rfl (by omega) (by omega) ?_
  refine l_arg C S dL_law_388 dL_law_389 dL_law_390 dL_law_391 dL_law_392 rfl rfl (by omega) (by omega) ?_
  obtain ⟨P1, ct1, k1⟩ := pr_word E h (sx xs (i + 1)) (sx xs (i + 2)) (sx xs (i + 3)) (sx_rg xs (i + 1)) (sx_rg xs (i + 2)) (sx_rg xs (i + 3))
  refine l_call (a := 0) (As := [zi (sx xs (i + 1)), zi (sx xs (i + 2)), zi (sx xs (i + 3))]) (rest := []) C dL_law_393 cy_X10_word cv_X10_word lk_L_53 ct1 ⟨by decide, by decide⟩ (by decide) (by decide) rfl rfl rfl (by decide) hcs (fun z M1 a => ?_)
  obtain ⟨P2, ct2, k2⟩ := k1 z M1 a
  refine l_aload C dL_law_396 rfl ?_
  refine l_arg C S dL_law_397 dL_law_398 dL_law_399 dL_law_400 dL_law_401 rfl rfl (by omega) (by omega) ?_
  refine l_arg C S dL_law_402 dL_law_403 dL_law_404 dL_law_405 dL_law_406 rfl rfl (by omega) (by omega) ?_
  refine l_arg C S dL_law_407 dL_law_408 dL_law_409 dL_law_410 dL_law_411 rfl rfl (by omega) (by omega) ?_
  refine l_call (a := 66) (As := [zi (sx xs (i + 1)), zi (sx xs (i + 2)), zi (sx xs (i + 3))]) (rest := [zi z]) C dL_law_412 cy_X11_word cv_X11_word lk_L_57 ct2 ⟨by decide, by decide⟩ (by decide) (by decide) rfl rfl rfl (Nat.le_of_ble_eq_true rfl) hcs (fun z2 M2 b2 => ?_)
  obtain ⟨rfl, e2, d2, h2⟩ := k2 z2 M2 b2
  refine l_same (tgt := 779) C dL_law_415 (by decide) ?_
  exact nx M2 e2 d2 h2
set_option maxRecDepth 20000 in
set_option maxHeartbeats 4000000 in
theorem lc_shared {E : Ev} {base : Nat} {κ : Kp} {Q : State → Prop} {b L : Nat} {xs : Nat → Int32} {cells slots : Nat} (C : Bx E base κ cL_law 4 RL room_1) (S : Sc κ base b L xs) (hcs : cells ≤ room_1.cells ∧ slots ≤ room_1.slots) {i : Int} {M : Mm} {e d : Nat} (hi : 0 ≤ i ∧ i ≤ (L : Int) - 6) (nx : ∀ (M : Mm) (e d : Nat), Cpl M e d → Gl E base κ Q 4 779 (lvL E b i) [] M cells slots) (h : Cpl M e d) : Gl E base κ Q 4 420 (lvL E b i) [] M cells slots := by
  refine l_aload C dL_law_420 rfl ?_
  refine l_arg C S dL_law_421 dL_law_422 dL_law_423 dL_law_424 dL_law_425 rfl rfl (by omega) (by omega) ?_
  refine l_arg C S dL_law_426 dL_law_427 dL_law_428 dL_law_429 dL_law_430 rfl rfl (by omega) (by omega) ?_
  obtain ⟨P1, ct1, k1⟩ := pr_shared E h (sx xs (i + 1)) (sx xs (i + 2)) (sx_rg xs (i + 1)) (sx_rg xs (i + 2))
  refine l_call (a := 0) (As := [zi (sx xs (i + 1)), zi (sx xs (i + 2))]) (rest := []) C dL_law_431 cy_X10_shared cv_X10_shared lk_L_58 ct1 ⟨by decide, by decide⟩ (by decide) (by decide) rfl rfl rfl (by decide) hcs (fun z M1 a => ?_)
  obtain ⟨P2, ct2, k2⟩ := k1 z M1 a
  refine l_aload C dL_law_434 rfl ?_
  refine l_arg C S dL_law_435 dL_law_436 dL_law_437 dL_law_438 dL_law_439 rfl rfl (by omega) (by omega) ?_
  refine l_arg C S dL_law_440 dL_law_441 dL_law_442 dL_law_443 dL_law_444 rfl rfl (by omega) (by omega) ?_
  refine l_call (a := 66) (As := [zi (sx xs (i + 1)), zi (sx xs (i + 2))]) (rest := [zi z]) C dL_law_445 cy_X11_shared cv_X11_shared lk_L_61 ct2 ⟨by decide, by decide⟩ (by decide) (by decide) rfl rfl rfl (Nat.le_of_ble_eq_true rfl) hcs (fun z2 M2 b2 => ?_)
  obtain ⟨rfl, e2, d2, h2⟩ := k2 z2 M2 b2
  refine l_same (tgt := 779) C dL_law_448 (by decide) ?_
  exact nx M2 e2 d2 h2
set_option maxRecDepth 20000 in
set_option maxHeartbeats 4000000 in
theorem lc_cost {E : Ev} {base : Nat} {κ : Kp} {Q : State → Prop} {b L : Nat} {xs : Nat → Int32} {cells slots : Nat} (C : Bx E base κ cL_law 4 RL room_1) (S : Sc κ base b L xs) (hcs : cells ≤ room_1.cells ∧ slots ≤ room_1.slots) {i : Int} {M : Mm} {e d : Nat} (hi : 0 ≤ i ∧ i ≤ (L : Int) - 6) (nx : ∀ (M : Mm) (e d : Nat), Cpl M e d → Gl E base κ Q 4 779 (lvL E b i) [] M cells slots) (h : Cpl M e d) : Gl E base κ Q 4 453 (lvL E b i) [] M cells slots := by
  refine l_aload C dL_law_453 rfl ?_
  refine l_arg C S dL_law_454 dL_law_455 dL_law_456 dL_law_457 dL_law_458 rfl rfl (by omega) (by omega) ?_
  refine l_arg C S dL_law_459 dL_law_460 dL_law_461 dL_law_462 dL_law_463 rfl rfl (by omega) (by omega) ?_
  obtain ⟨P1, ct1, k1⟩ := pr_cost E h (sx xs (i + 1)) (sx xs (i + 2)) (sx_rg xs (i + 1)) (sx_rg xs (i + 2))
  refine l_call (a := 0) (As := [zi (sx xs (i + 1)), zi (sx xs (i + 2))]) (rest := []) C dL_law_464 cy_X10_cost cv_X10_cost lk_L_62 ct1 ⟨by decide, by decide⟩ (by decide) (by decide) rfl rfl rfl (by decide) hcs (fun z M1 a => ?_)
  obtain ⟨P2, ct2, k2⟩ := k1 z M1 a
  refine l_aload C dL_law_467 rfl ?_
  refine l_arg C S dL_law_468 dL_law_469 dL_law_470 dL_law_471 dL_law_472 rfl rfl (by omega) (by omega) ?_
  refine l_arg C S dL_law_473 dL_law_474 dL_law_475 dL_law_476 dL_law_477 rfl rfl (by omega) (by omega) ?_
  refine l_call (a := 66) (As := [zi (sx xs (i + 1)), zi (sx xs (i + 2))]) (rest := [zi z]) C dL_law_478 cy_X11_cost cv_X11_cost lk_L_65 ct2 ⟨by decide, by decide⟩ (by decide) (by decide) rfl rfl rfl (Nat.le_of_ble_eq_true rfl) hcs (fun z2 M2 b2 => ?_)
  obtain ⟨rfl, e2, d2, h2⟩ := k2 z2 M2 b2
  refine l_same (tgt := 779) C dL_law_481 (by decide) ?_
  exact nx M2 e2 d2 h2
set_option maxRecDepth 20000 in
set_option maxHeartbeats 4000000 in
theorem lc_tree {E : Ev} {base : Nat} {κ : Kp} {Q : State → Prop} {b L : Nat} {xs : Nat → Int32} {cells slots : Nat} (C : Bx E base κ cL_law 4 RL room_1) (S : Sc κ base b L xs) (hcs : cells ≤ room_1.cells ∧ slots ≤ room_1.slots) {i : Int} {M : Mm} {e d : Nat} (hi : 0 ≤ i ∧ i ≤ (L : Int) - 6) (nx : ∀ (M : Mm) (e d : Nat), Cpl M e d → Gl E base κ Q 4 779 (lvL E b i) [] M cells slots) (h : Cpl M e d) : Gl E base κ Q 4 486 (lvL E b i) [] M cells slots := by
  refine l_aload C dL_law_486 rfl ?_
  obtain ⟨P1, ct1, k1⟩ := pr_tree E h  
  refine l_call (a := 0) (As := []) (rest := []) C dL_law_487 cy_X10_tree cv_X10_tree lk_L_66 ct1 ⟨by decide, by decide⟩ (by decide) (by decide) rfl rfl rfl (by decide) hcs (fun z M1 a => ?_)
  obtain ⟨P2, ct2, k2⟩ := k1 z M1 a
  refine l_aload C dL_law_490 rfl ?_
  refine l_call (a := 66) (As := []) (rest := [zi z]) C dL_law_491 cy_X11_tree cv_X11_tree lk_L_69 ct2 ⟨by decide, by decide⟩ (by decide) (by decide) rfl rfl rfl (Nat.le_of_ble_eq_true rfl) hcs (fun z2 M2 b2 => ?_)
  obtain ⟨rfl, e2, d2, h2⟩ := k2 z2 M2 b2
  refine l_same (tgt := 779) C dL_law_494 (by decide) ?_
  exact nx M2 e2 d2 h2
set_option maxRecDepth 20000 in
set_option maxHeartbeats 4000000 in
theorem lc_next {E : Ev} {base : Nat} {κ : Kp} {Q : State → Prop} {b L : Nat} {xs : Nat → Int32} {cells slots : Nat} (C : Bx E base κ cL_law 4 RL room_1) (S : Sc κ base b L xs) (hcs : cells ≤ room_1.cells ∧ slots ≤ room_1.slots) {i : Int} {M : Mm} {e d : Nat} (hi : 0 ≤ i ∧ i ≤ (L : Int) - 6) (nx : ∀ (M : Mm) (e d : Nat), Cpl M e d → Gl E base κ Q 4 779 (lvL E b i) [] M cells slots) (h : Cpl M e d) : Gl E base κ Q 4 499 (lvL E b i) [] M cells slots := by
  refine l_aload C dL_law_499 rfl ?_
  obtain ⟨P1, ct1, k1⟩ := pr_next E h  
  refine l_call (a := 0) (As := []) (rest := []) C dL_law_500 cy_X10_next cv_X10_next lk_L_70 ct1 ⟨by decide, by decide⟩ (by decide) (by decide) rfl rfl rfl (by decide) hcs (fun z M1 a => ?_)
  obtain ⟨P2, ct2, k2⟩ := k1 z M1 a
  refine l_aload C dL_law_503 rfl ?_
  refine l_call (a := 66) (As := []) (rest := [zi z]) C dL_law_504 cy_X11_next cv_X11_next lk_L_73 ct2 ⟨by decide, by decide⟩ (by decide) (by decide) rfl rfl rfl (Nat.le_of_ble_eq_true rfl) hcs (fun z2 M2 b2 => ?_)
  obtain ⟨rfl, e2, d2, h2⟩ := k2 z2 M2 b2
  refine l_same (tgt := 779) C dL_law_507 (by decide) ?_
  exact nx M2 e2 d2 h2
set_option maxRecDepth 20000 in
set_option maxHeartbeats 4000000 in
theorem lc_finding {E : Ev} {base : Nat} {κ : Kp} {Q : State → Prop} {b L : Nat} {xs : Nat → Int32} {cells slots : Nat} (C : Bx E base κ cL_law 4 RL room_1) (S : Sc κ base b L xs) (hcs : cells ≤ room_1.cells ∧ slots ≤ room_1.slots) {i : Int} {M : Mm} {e d : Nat} (hi : 0 ≤ i ∧ i ≤ (L : Int) - 6) (nx : ∀ (M : Mm) (e d : Nat), Cpl M e d → Gl E base κ Q 4 779 (lvL E b i) [] M cells slots) (h : Cpl M e d) : Gl E base κ Q 4 512 (lvL E b i) [] M cells slots := by
  refine l_aload C dL_law_512 rfl ?_
  refine l_arg C S dL_law_513 dL_law_514 dL_law_515 dL_law_516 dL_law_517 rfl rfl (by omega) (by omega) ?_
  obtain ⟨P1, ct1, k1⟩ := pr_finding E h (sx xs (i + 1)) (sx_rg xs (i + 1))
  refine l_call (a := 0) (As := [zi (sx xs (i + 1))]) (rest := []) C dL_law_518 cy_X10_finding cv_X10_finding lk_L_74 ct1 ⟨by decide, by decide⟩ (by decide) (by decide) rfl rfl rfl (by decide) hcs (fun z M1 a => ?_)
  obtain ⟨P2, ct2, k2⟩ := k1 z M1 a
  refine l_aload C dL_law_521 rfl ?_
  refine l_arg C S dL_law_522 dL_law_523 dL_law_524 dL_law_525 dL_law_526 rfl rfl (by omega) (by omega) ?_
  refine l_call (a := 66) (As := [zi (sx xs (i + 1))]) (rest := [zi z]) C dL_law_527 cy_X11_finding cv_X11_finding lk_L_77 ct2 ⟨by decide, by decide⟩ (by decide) (by decide) rfl rfl rfl (Nat.le_of_ble_eq_true rfl) hcs (fun z2 M2 b2 => ?_)
  obtain ⟨rfl, e2, d2, h2⟩ := k2 z2 M2 b2
  refine l_same (tgt := 779) C dL_law_530 (by decide) ?_
  exact nx M2 e2 d2 h2
set_option maxRecDepth 20000 in
set_option maxHeartbeats 4000000 in
theorem lc_marks {E : Ev} {base : Nat} {κ : Kp} {Q : State → Prop} {b L : Nat} {xs : Nat → Int32} {cells slots : Nat} (C : Bx E base κ cL_law 4 RL room_1) (S : Sc κ base b L xs) (hcs : cells ≤ room_1.cells ∧ slots ≤ room_1.slots) {i : Int} {M : Mm} {e d : Nat} (hi : 0 ≤ i ∧ i ≤ (L : Int) - 6) (nx : ∀ (M : Mm) (e d : Nat), Cpl M e d → Gl E base κ Q 4 779 (lvL E b i) [] M cells slots) (h : Cpl M e d) : Gl E base κ Q 4 535 (lvL E b i) [] M cells slots := by
  refine l_aload C dL_law_535 rfl ?_
  refine l_arg C S dL_law_536 dL_law_537 dL_law_538 dL_law_539 dL_law_540 rfl rfl (by omega) (by omega) ?_
  refine l_arg C S dL_law_541 dL_law_542 dL_law_543 dL_law_544 dL_law_545 rfl rfl (by omega) (by omega) ?_
  refine l_arg C S dL_law_546 dL_law_547 dL_law_548 dL_law_549 dL_law_550 rfl rfl (by omega) (by omega) ?_
  refine l_arg C S dL_law_551 dL_law_552 dL_law_553 dL_law_554 dL_law_555 rfl rfl (by omega) (by omega) ?_
  refine l_arg C S dL_law_556 dL_law_557 dL_law_558 dL_law_559 dL_law_560 rfl rfl (by omega) (by omega) ?_
  obtain ⟨P1, ct1, k1⟩ := pr_marks E h (sx xs (i + 1)) (sx xs (i + 2)) (sx xs (i + 3)) (sx xs (i + 4)) (sx xs (i + 5)) (sx_rg xs (i + 1)) (sx_rg xs (i + 2)) (sx_rg xs (i + 3)) (sx_rg xs (i + 4)) (sx_rg xs (i + 5))
  refine l_call (a := 0) (As := [zi (sx xs (i + 1)), zi (sx xs (i + 2)), zi (sx xs (i + 3)), zi (sx xs (i + 4)), zi (sx xs (i + 5))]) (rest := []) C dL_law_561 cy_X10_marks cv_X10_marks lk_L_78 ct1 ⟨by decide, by decide⟩ (by decide) (by decide) rfl rfl rfl (by decide) hcs (fun z M1 a => ?_)
  obtain ⟨P2, ct2, k2⟩ := k1 z M1 a
  refine l_aload C dL_law_564 rfl ?_
  refine l_arg C S dL_law_565 dL_law_566 dL_law_567 dL_law_568 dL_law_569 rfl rfl (by omega) (by omega) ?_
  refine l_arg C S dL_law_570 dL_law_571 dL_law_572 dL_law_573 dL_law_574 rfl rfl (by omega) (by omega) ?_
  refine l_arg C S dL_law_575 dL_law_576 dL_law_577 dL_law_578 dL_law_579 rfl rfl (by omega) (by omega) ?_
  refine l_arg C S dL_law_580 dL_law_581 dL_law_582 dL_law_583 dL_law_584 rfl rfl (by omega) (by omega) ?_
  refine l_arg C S dL_law_585 dL_law_586 dL_law_587 dL_law_588 dL_law_589 rfl rfl (by omega) (by omega) ?_
  refine l_call (a := 66) (As := [zi (sx xs (i + 1)), zi (sx xs (i + 2)), zi (sx xs (i + 3)), zi (sx xs (i + 4)), zi (sx xs (i + 5))]) (rest := [zi z]) C dL_law_590 cy_X11_marks cv_X11_marks lk_L_81 ct2 ⟨by decide, by decide⟩ (by decide) (by decide) rfl rfl rfl (Nat.le_of_ble_eq_true rfl) hcs (fun z2 M2 b2 => ?_)
  obtain ⟨rfl, e2, d2, h2⟩ := k2 z2 M2 b2
  refine l_same (tgt := 779) C dL_law_593 (by decide) ?_
  exact nx M2 e2 d2 h2
set_option maxRecDepth 20000 in
set_option maxHeartbeats 4000000 in
theorem lc_pair {E : Ev} {base : Nat} {κ : Kp} {Q : State → Prop} {b L : Nat} {xs : Nat → Int32} {cells slots : Nat} (C : Bx E base κ cL_law 4 RL room_1) (S : Sc κ base b L xs) (hcs : cells ≤ room_1.cells ∧ slots ≤ room_1.slots) {i : Int} {M : Mm} {e d : Nat} (hi : 0 ≤ i ∧ i ≤ (L : Int) - 6) (nx : ∀ (M : Mm) (e d : Nat), Cpl M e d → Gl E base κ Q 4 779 (lvL E b i) [] M cells slots) (h : Cpl M e d) : Gl E base κ Q 4 598 (lvL E b i) [] M cells slots := by
  refine l_aload C dL_law_598 rfl ?_
  refine l_arg C S dL_law_599 dL_law_600 dL_law_601 dL_law_602 dL_law_603 rfl rfl (by omega) (by omega) ?_
  refine l_arg C S dL_law_604 dL_law_605 dL_law_606 dL_law_607 dL_law_608 rfl rfl (by omega) (by omega) ?_
  obtain ⟨P1, ct1, k1⟩ := pr_pair E h (sx xs (i + 1)) (sx xs (i + 2)) (sx_rg xs (i + 1)) (sx_rg xs (i + 2))
  refine l_call (a := 0) (As := [zi (sx xs (i + 1)), zi (sx xs (i + 2))]) (rest := []) C dL_law_609 cy_X10_pair cv_X10_pair lk_L_82 ct1 ⟨by decide, by decide⟩ (by decide) (by decide) rfl rfl rfl (by decide) hcs (fun z M1 a => ?_)
  obtain ⟨P2, ct2, k2⟩ := k1 z M1 a
  refine l_aload C dL_law_612 rfl ?_
  refine l_arg C S dL_law_613 dL_law_614 dL_law_615 dL_law_616 dL_law_617 rfl rfl (by omega) (by omega) ?_
  refine l_arg C S dL_law_618 dL_law_619 dL_law_620 dL_law_621 dL_law_622 rfl rfl (by omega) (by omega) ?_
  refine l_call (a := 66) (As := [zi (sx xs (i + 1)), zi (sx xs (i + 2))]) (rest := [zi z]) C dL_law_623 cy_X11_pair cv_X11_pair lk_L_85 ct2 ⟨by decide, by decide⟩ (by decide) (by decide) rfl rfl rfl (Nat.le_of_ble_eq_true rfl) hcs (fun z2 M2 b2 => ?_)
  obtain ⟨rfl, e2, d2, h2⟩ := k2 z2 M2 b2
  refine l_same (tgt := 779) C dL_law_626 (by decide) ?_
  exact nx M2 e2 d2 h2
set_option maxRecDepth 20000 in
set_option maxHeartbeats 4000000 in
theorem lc_order {E : Ev} {base : Nat} {κ : Kp} {Q : State → Prop} {b L : Nat} {xs : Nat → Int32} {cells slots : Nat} (C : Bx E base κ cL_law 4 RL room_1) (S : Sc κ base b L xs) (hcs : cells ≤ room_1.cells ∧ slots ≤ room_1.slots) {i : Int} {M : Mm} {e d : Nat} (hi : 0 ≤ i ∧ i ≤ (L : Int) - 6) (nx : ∀ (M : Mm) (e d : Nat), Cpl M e d → Gl E base κ Q 4 779 (lvL E b i) [] M cells slots) (h : Cpl M e d) : Gl E base κ Q 4 631 (lvL E b i) [] M cells slots := by
  refine l_aload C dL_law_631 rfl ?_
  refine l_arg C S dL_law_632 dL_law_633 dL_law_634 dL_law_635 dL_law_636 rfl rfl (by omega) (by omega) ?_
  obtain ⟨P1, ct1, k1⟩ := pr_order E h (sx xs (i + 1)) (sx_rg xs (i + 1))
  refine l_call (a := 0) (As := [zi (sx xs (i + 1))]) (rest := []) C dL_law_637 cy_X10_order cv_X10_order lk_L_86 ct1 ⟨by decide, by decide⟩ (by decide) (by decide) rfl rfl rfl (by decide) hcs (fun z M1 a => ?_)
  obtain ⟨P2, ct2, k2⟩ := k1 z M1 a
  refine l_aload C dL_law_640 rfl ?_
  refine l_arg C S dL_law_641 dL_law_642 dL_law_643 dL_law_644 dL_law_645 rfl rfl (by omega) (by omega) ?_
  refine l_call (a := 66) (As := [zi (sx xs (i + 1))]) (rest := [zi z]) C dL_law_646 cy_X11_order cv_X11_order lk_L_89 ct2 ⟨by decide, by decide⟩ (by decide) (by decide) rfl rfl rfl (Nat.le_of_ble_eq_true rfl) hcs (fun z2 M2 b2 => ?_)
  obtain ⟨rfl, e2, d2, h2⟩ := k2 z2 M2 b2
  refine l_same (tgt := 779) C dL_law_649 (by decide) ?_
  exact nx M2 e2 d2 h2
set_option maxRecDepth 20000 in
set_option maxHeartbeats 4000000 in
theorem lc_ordered {E : Ev} {base : Nat} {κ : Kp} {Q : State → Prop} {b L : Nat} {xs : Nat → Int32} {cells slots : Nat} (C : Bx E base κ cL_law 4 RL room_1) (S : Sc κ base b L xs) (hcs : cells ≤ room_1.cells ∧ slots ≤ room_1.slots) {i : Int} {M : Mm} {e d : Nat} (hi : 0 ≤ i ∧ i ≤ (L : Int) - 6) (nx : ∀ (M : Mm) (e d : Nat), Cpl M e d → Gl E base κ Q 4 779 (lvL E b i) [] M cells slots) (h : Cpl M e d) : Gl E base κ Q 4 654 (lvL E b i) [] M cells slots := by
  refine l_aload C dL_law_654 rfl ?_
  refine l_arg C S dL_law_655 dL_law_656 dL_law_657 dL_law_658 dL_law_659 rfl rfl (by omega) (by omega) ?_
  obtain ⟨P1, ct1, k1⟩ := pr_ordered E h (sx xs (i + 1)) (sx_rg xs (i + 1))
  refine l_call (a := 0) (As := [zi (sx xs (i + 1))]) (rest := []) C dL_law_660 cy_X10_ordered cv_X10_ordered lk_L_90 ct1 ⟨by decide, by decide⟩ (by decide) (by decide) rfl rfl rfl (by decide) hcs (fun z M1 a => ?_)
  obtain ⟨P2, ct2, k2⟩ := k1 z M1 a
  refine l_aload C dL_law_663 rfl ?_
  refine l_arg C S dL_law_664 dL_law_665 dL_law_666 dL_law_667 dL_law_668 rfl rfl (by omega) (by omega) ?_
  refine l_call (a := 66) (As := [zi (sx xs (i + 1))]) (rest := [zi z]) C dL_law_669 cy_X11_ordered cv_X11_ordered lk_L_93 ct2 ⟨by decide, by decide⟩ (by decide) (by decide) rfl rfl rfl (Nat.le_of_ble_eq_true rfl) hcs (fun z2 M2 b2 => ?_)
  obtain ⟨rfl, e2, d2, h2⟩ := k2 z2 M2 b2
  refine l_same (tgt := 779) C dL_law_672 (by decide) ?_
  exact nx M2 e2 d2 h2
set_option maxRecDepth 20000 in
set_option maxHeartbeats 4000000 in
theorem lc_stands {E : Ev} {base : Nat} {κ : Kp} {Q : State → Prop} {b L : Nat} {xs : Nat → Int32} {cells slots : Nat} (C : Bx E base κ cL_law 4 RL room_1) (S : Sc κ base b L xs) (hcs : cells ≤ room_1.cells ∧ slots ≤ room_1.slots) {i : Int} {M : Mm} {e d : Nat} (hi : 0 ≤ i ∧ i ≤ (L : Int) - 6) (nx : ∀ (M : Mm) (e d : Nat), Cpl M e d → Gl E base κ Q 4 779 (lvL E b i) [] M cells slots) (h : Cpl M e d) : Gl E base κ Q 4 677 (lvL E b i) [] M cells slots := by
  refine l_aload C dL_law_677 rfl ?_
  refine l_arg C S dL_law_678 dL_law_679 dL_law_680 dL_law_681 dL_law_682 rfl rfl (by omega) (by omega) ?_
  obtain ⟨P1, ct1, k1⟩ := pr_stands E h (sx xs (i + 1)) (sx_rg xs (i + 1))
  refine l_call (a := 0) (As := [zi (sx xs (i + 1))]) (rest := []) C dL_law_683 cy_X10_stands cv_X10_stands lk_L_94 ct1 ⟨by decide, by decide⟩ (by decide) (by decide) rfl rfl rfl (by decide) hcs (fun z M1 a => ?_)
  obtain ⟨P2, ct2, k2⟩ := k1 z M1 a
  refine l_aload C dL_law_686 rfl ?_
  refine l_arg C S dL_law_687 dL_law_688 dL_law_689 dL_law_690 dL_law_691 rfl rfl (by omega) (by omega) ?_
  refine l_call (a := 66) (As := [zi (sx xs (i + 1))]) (rest := [zi z]) C dL_law_692 cy_X11_stands cv_X11_stands lk_L_97 ct2 ⟨by decide, by decide⟩ (by decide) (by decide) rfl rfl rfl (Nat.le_of_ble_eq_true rfl) hcs (fun z2 M2 b2 => ?_)
  obtain ⟨rfl, e2, d2, h2⟩ := k2 z2 M2 b2
  refine l_same (tgt := 779) C dL_law_695 (by decide) ?_
  exact nx M2 e2 d2 h2
set_option maxRecDepth 20000 in
set_option maxHeartbeats 4000000 in
theorem lc_arrange {E : Ev} {base : Nat} {κ : Kp} {Q : State → Prop} {b L : Nat} {xs : Nat → Int32} {cells slots : Nat} (C : Bx E base κ cL_law 4 RL room_1) (S : Sc κ base b L xs) (hcs : cells ≤ room_1.cells ∧ slots ≤ room_1.slots) {i : Int} {M : Mm} {e d : Nat} (hi : 0 ≤ i ∧ i ≤ (L : Int) - 6) (nx : ∀ (M : Mm) (e d : Nat), Cpl M e d → Gl E base κ Q 4 779 (lvL E b i) [] M cells slots) (h : Cpl M e d) : Gl E base κ Q 4 700 (lvL E b i) [] M cells slots := by
  refine l_aload C dL_law_700 rfl ?_
  refine l_arg C S dL_law_701 dL_law_702 dL_law_703 dL_law_704 dL_law_705 rfl rfl (by omega) (by omega) ?_
  obtain ⟨P1, ct1, k1⟩ := pr_arrange E h (sx xs (i + 1)) (sx_rg xs (i + 1))
  refine l_call (a := 0) (As := [zi (sx xs (i + 1))]) (rest := []) C dL_law_706 cy_X10_arrange cv_X10_arrange lk_L_98 ct1 ⟨by decide, by decide⟩ (by decide) (by decide) rfl rfl rfl (by decide) hcs (fun z M1 a => ?_)
  obtain ⟨P2, ct2, k2⟩ := k1 z M1 a
  refine l_aload C dL_law_709 rfl ?_
  refine l_arg C S dL_law_710 dL_law_711 dL_law_712 dL_law_713 dL_law_714 rfl rfl (by omega) (by omega) ?_
  refine l_call (a := 66) (As := [zi (sx xs (i + 1))]) (rest := [zi z]) C dL_law_715 cy_X11_arrange cv_X11_arrange lk_L_101 ct2 ⟨by decide, by decide⟩ (by decide) (by decide) rfl rfl rfl (Nat.le_of_ble_eq_true rfl) hcs (fun z2 M2 b2 => ?_)
  obtain ⟨rfl, e2, d2, h2⟩ := k2 z2 M2 b2
  refine l_same (tgt := 779) C dL_law_718 (by decide) ?_
  exact nx M2 e2 d2 h2
set_option maxRecDepth 20000 in
set_option maxHeartbeats 4000000 in
theorem lc_move {E : Ev} {base : Nat} {κ : Kp} {Q : State → Prop} {b L : Nat} {xs : Nat → Int32} {cells slots : Nat} (C : Bx E base κ cL_law 4 RL room_1) (S : Sc κ base b L xs) (hcs : cells ≤ room_1.cells ∧ slots ≤ room_1.slots) {i : Int} {M : Mm} {e d : Nat} (hi : 0 ≤ i ∧ i ≤ (L : Int) - 6) (nx : ∀ (M : Mm) (e d : Nat), Cpl M e d → Gl E base κ Q 4 779 (lvL E b i) [] M cells slots) (h : Cpl M e d) : Gl E base κ Q 4 723 (lvL E b i) [] M cells slots := by
  refine l_aload C dL_law_723 rfl ?_
  refine l_arg C S dL_law_724 dL_law_725 dL_law_726 dL_law_727 dL_law_728 rfl rfl (by omega) (by omega) ?_
  refine l_arg C S dL_law_729 dL_law_730 dL_law_731 dL_law_732 dL_law_733 rfl rfl (by omega) (by omega) ?_
  obtain ⟨P1, ct1, k1⟩ := pr_move E h (sx xs (i + 1)) (sx xs (i + 2)) (sx_rg xs (i + 1)) (sx_rg xs (i + 2))
  refine l_call (a := 0) (As := [zi (sx xs (i + 1)), zi (sx xs (i + 2))]) (rest := []) C dL_law_734 cy_X10_move cv_X10_move lk_L_102 ct1 ⟨by decide, by decide⟩ (by decide) (by decide) rfl rfl rfl (by decide) hcs (fun z M1 a => ?_)
  obtain ⟨P2, ct2, k2⟩ := k1 z M1 a
  refine l_aload C dL_law_737 rfl ?_
  refine l_arg C S dL_law_738 dL_law_739 dL_law_740 dL_law_741 dL_law_742 rfl rfl (by omega) (by omega) ?_
  refine l_arg C S dL_law_743 dL_law_744 dL_law_745 dL_law_746 dL_law_747 rfl rfl (by omega) (by omega) ?_
  refine l_call (a := 66) (As := [zi (sx xs (i + 1)), zi (sx xs (i + 2))]) (rest := [zi z]) C dL_law_748 cy_X11_move cv_X11_move lk_L_105 ct2 ⟨by decide, by decide⟩ (by decide) (by decide) rfl rfl rfl (Nat.le_of_ble_eq_true rfl) hcs (fun z2 M2 b2 => ?_)
  obtain ⟨rfl, e2, d2, h2⟩ := k2 z2 M2 b2
  refine l_same (tgt := 779) C dL_law_751 (by decide) ?_
  exact nx M2 e2 d2 h2
set_option maxRecDepth 20000 in
set_option maxHeartbeats 4000000 in
theorem lc_count {E : Ev} {base : Nat} {κ : Kp} {Q : State → Prop} {b L : Nat} {xs : Nat → Int32} {cells slots : Nat} (C : Bx E base κ cL_law 4 RL room_1) (S : Sc κ base b L xs) (hcs : cells ≤ room_1.cells ∧ slots ≤ room_1.slots) {i : Int} {M : Mm} {e d : Nat} (hi : 0 ≤ i ∧ i ≤ (L : Int) - 6) (nx : ∀ (M : Mm) (e d : Nat), Cpl M e d → Gl E base κ Q 4 779 (lvL E b i) [] M cells slots) (h : Cpl M e d) : Gl E base κ Q 4 756 (lvL E b i) [] M cells slots := by
  refine l_aload C dL_law_756 rfl ?_
  refine l_arg C S dL_law_757 dL_law_758 dL_law_759 dL_law_760 dL_law_761 rfl rfl (by omega) (by omega) ?_
  obtain ⟨P1, ct1, k1⟩ := pr_count E h (sx xs (i + 1)) (sx_rg xs (i + 1))
  refine l_call (a := 0) (As := [zi (sx xs (i + 1))]) (rest := []) C dL_law_762 cy_X10_count cv_X10_count lk_L_106 ct1 ⟨by decide, by decide⟩ (by decide) (by decide) rfl rfl rfl (by decide) hcs (fun z M1 a => ?_)
  obtain ⟨P2, ct2, k2⟩ := k1 z M1 a
  refine l_aload C dL_law_765 rfl ?_
  refine l_arg C S dL_law_766 dL_law_767 dL_law_768 dL_law_769 dL_law_770 rfl rfl (by omega) (by omega) ?_
  refine l_call (a := 66) (As := [zi (sx xs (i + 1))]) (rest := [zi z]) C dL_law_771 cy_X11_count cv_X11_count lk_L_109 ct2 ⟨by decide, by decide⟩ (by decide) (by decide) rfl rfl rfl (Nat.le_of_ble_eq_true rfl) hcs (fun z2 M2 b2 => ?_)
  obtain ⟨rfl, e2, d2, h2⟩ := k2 z2 M2 b2
  refine l_same (tgt := 779) C dL_law_774 (by decide) ?_
  exact nx M2 e2 d2 h2
set_option maxRecDepth 20000 in
set_option maxHeartbeats 4000000 in
theorem law_loop {E : Ev} {base : Nat} {κ : Kp} {Q : State → Prop} {b L : Nat} {xs : Nat → Int32} {cells slots : Nat} (C : Bx E base κ cL_law 4 RL room_1) (S : Sc κ base b L xs) (hcs : cells ≤ room_1.cells ∧ slots ≤ room_1.slots) (fin : ∀ (i : Int) (M : Mm), Gl E base κ Q 4 785 (lvL E b i) [] M cells slots) : ∀ (n9 : Nat) (i : Int) (M : Mm) (e d : Nat), ((L : Int) + 6 - i).toNat < n9 → 0 ≤ i → i ≤ (L : Int) + 6 → Cpl M e d → Gl E base κ Q 4 18 (lvL E b i) [] M cells slots := by
  intro n9
  induction n9 with
  | zero => intro i M e d hm; exact absurd hm (Nat.not_lt_zero _)
  | succ n9 ih =>
    intro i M e d hm hi0 hi1 h
    have hL := S.2.2.2
    refine l_iload C dL_law_18 rfl ?_
    refine l_aload C dL_law_19 rfl ?_
    refine l_slen C S dL_law_20 ?_
    refine l_bipush C dL_law_21 (by decide) ?_
    refine l_isub C dL_law_23 ?_
    refine l_gt (tgt := 785) C dL_law_24 (by decide) (by omega) (by omega) (fun _ => fin i M) (fun c => ?_)
    · refine l_aload C dL_law_27 rfl ?_
      refine l_iload C dL_law_28 rfl ?_
      refine l_sld C S dL_law_29 hi0 (by omega) ?_
      refine l_bipush C dL_law_30 (by decide) ?_
      refine l_iand C dL_law_32 ?_
      have hr := zand_rg (sx xs i) 31
      have nx : ∀ (M : Mm) (e d : Nat), Cpl M e d → Gl E base κ Q 4 779 (lvL E b i) [] M cells slots := by
        intro M e d h
        refine l_iinc (lv' := lvL E b (i + 6)) C dL_law_779 rfl (by decide) rfl rfl rfl ?_
        refine l_goto (tgt := 18) C dL_law_782 (by decide) ?_
        exact ih (i + 6) M e d (by omega) (by omega) (by omega) h
      rcases (show zand (sx xs i) 31 = 0 ∨ zand (sx xs i) 31 = 1 ∨ zand (sx xs i) 31 = 2 ∨ zand (sx xs i) 31 = 3 ∨ zand (sx xs i) 31 = 4 ∨ zand (sx xs i) 31 = 5 ∨ zand (sx xs i) 31 = 6 ∨ zand (sx xs i) 31 = 7 ∨ zand (sx xs i) 31 = 8 ∨ zand (sx xs i) 31 = 9 ∨ zand (sx xs i) 31 = 10 ∨ zand (sx xs i) 31 = 11 ∨ zand (sx xs i) 31 = 12 ∨ zand (sx xs i) 31 = 13 ∨ zand (sx xs i) 31 = 14 ∨ zand (sx xs i) 31 = 15 ∨ zand (sx xs i) 31 = 16 ∨ zand (sx xs i) 31 = 17 ∨ zand (sx xs i) 31 = 18 ∨ zand (sx xs i) 31 = 19 ∨ zand (sx xs i) 31 = 20 ∨ zand (sx xs i) 31 = 21 ∨ zand (sx xs i) 31 = 22 ∨ (zand (sx xs i) 31 < 0 ∨ 22 < zand (sx xs i) 31) by omega) with hv | hv | hv | hv | hv | hv | hv | hv | hv | hv | hv | hv | hv | hv | hv | hv | hv | hv | hv | hv | hv | hv | hv | hv
      · exact l_tab (off := 107) (tgt := 140) C dL_law_33 hr (by omega) (by omega) (by rw [hv]; rfl) (by decide) (lc_feed C S hcs (by omega) nx h)
      · exact l_tab (off := 170) (tgt := 203) C dL_law_33 hr (by omega) (by omega) (by rw [hv]; rfl) (by decide) (lc_end C S hcs (by omega) nx h)
      · exact l_tab (off := 193) (tgt := 226) C dL_law_33 hr (by omega) (by omega) (by rw [hv]; rfl) (by decide) (lc_stop C S hcs (by omega) nx h)
      · exact l_tab (off := 206) (tgt := 239) C dL_law_33 hr (by omega) (by omega) (by rw [hv]; rfl) (by decide) (lc_sign C S hcs (by omega) nx h)
      · exact l_tab (off := 229) (tgt := 262) C dL_law_33 hr (by omega) (by omega) (by rw [hv]; rfl) (by decide) (lc_ending C S hcs (by omega) nx h)
      · exact l_tab (off := 242) (tgt := 275) C dL_law_33 hr (by omega) (by omega) (by rw [hv]; rfl) (by decide) (lc_weight C S hcs (by omega) nx h)
      · exact l_tab (off := 275) (tgt := 308) C dL_law_33 hr (by omega) (by omega) (by rw [hv]; rfl) (by decide) (lc_read C S hcs (by omega) nx h)
      · exact l_tab (off := 288) (tgt := 321) C dL_law_33 hr (by omega) (by omega) (by rw [hv]; rfl) (by decide) (lc_fault C S hcs (by omega) nx h)
      · exact l_tab (off := 311) (tgt := 344) C dL_law_33 hr (by omega) (by omega) (by rw [hv]; rfl) (by decide) (lc_sentence C S hcs (by omega) nx h)
      · exact l_tab (off := 344) (tgt := 377) C dL_law_33 hr (by omega) (by omega) (by rw [hv]; rfl) (by decide) (lc_word C S hcs (by omega) nx h)
      · exact l_tab (off := 387) (tgt := 420) C dL_law_33 hr (by omega) (by omega) (by rw [hv]; rfl) (by decide) (lc_shared C S hcs (by omega) nx h)
      · exact l_tab (off := 420) (tgt := 453) C dL_law_33 hr (by omega) (by omega) (by rw [hv]; rfl) (by decide) (lc_cost C S hcs (by omega) nx h)
      · exact l_tab (off := 453) (tgt := 486) C dL_law_33 hr (by omega) (by omega) (by rw [hv]; rfl) (by decide) (lc_tree C S hcs (by omega) nx h)
      · exact l_tab (off := 466) (tgt := 499) C dL_law_33 hr (by omega) (by omega) (by rw [hv]; rfl) (by decide) (lc_next C S hcs (by omega) nx h)
      · exact l_tab (off := 479) (tgt := 512) C dL_law_33 hr (by omega) (by omega) (by rw [hv]; rfl) (by decide) (lc_finding C S hcs (by omega) nx h)
      · exact l_tab (off := 502) (tgt := 535) C dL_law_33 hr (by omega) (by omega) (by rw [hv]; rfl) (by decide) (lc_marks C S hcs (by omega) nx h)
      · exact l_tab (off := 565) (tgt := 598) C dL_law_33 hr (by omega) (by omega) (by rw [hv]; rfl) (by decide) (lc_pair C S hcs (by omega) nx h)
      · exact l_tab (off := 598) (tgt := 631) C dL_law_33 hr (by omega) (by omega) (by rw [hv]; rfl) (by decide) (lc_order C S hcs (by omega) nx h)
      · exact l_tab (off := 621) (tgt := 654) C dL_law_33 hr (by omega) (by omega) (by rw [hv]; rfl) (by decide) (lc_ordered C S hcs (by omega) nx h)
      · exact l_tab (off := 644) (tgt := 677) C dL_law_33 hr (by omega) (by omega) (by rw [hv]; rfl) (by decide) (lc_stands C S hcs (by omega) nx h)
      · exact l_tab (off := 667) (tgt := 700) C dL_law_33 hr (by omega) (by omega) (by rw [hv]; rfl) (by decide) (lc_arrange C S hcs (by omega) nx h)
      · exact l_tab (off := 690) (tgt := 723) C dL_law_33 hr (by omega) (by omega) (by rw [hv]; rfl) (by decide) (lc_move C S hcs (by omega) nx h)
      · exact l_tab (off := 723) (tgt := 756) C dL_law_33 hr (by omega) (by omega) (by rw [hv]; rfl) (by decide) (lc_count C S hcs (by omega) nx h)
      · exact l_tabO (tgt := 779) C dL_law_33 hr hv (by decide) (nx M e d h)
