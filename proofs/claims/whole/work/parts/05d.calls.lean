section FC
variable {E : Ev} {κ : Kp} {post : Option Value → Mm → Prop} {cc : ByteArray} {nL : Nat} {own : String} {ret : Option FieldType} {ht pc : Nat} {lv : List (Option Value)} {st : List Value} {M : Mm}
/-- the locals at a method's entry -/
def sltv : Slot → Option Value
  | .val v => some v
  | _ => none
def ent (vs : List Value) (n : Nat) : List (Option Value) := (lg_sl vs ++ List.replicate (n - (lg_sl vs).length) Slot.unset).map sltv
theorem Lh_ent {vs : List Value} {n : Nat} (h : (lg_sl vs).length ≤ n) : Lh ((lg_sl vs ++ List.replicate (n - (lg_sl vs).length) Slot.unset).toArray) n (ent vs n) := by
  have h0 := lv_entry vs h
  refine ⟨h0.1, h0.2.1, by simp [ent]; omega, fun i v hv => ?_⟩
  rw [List.getElem?_toArray]
  simp only [ent, List.getElem?_map] at hv
  cases hs : (lg_sl vs ++ List.replicate (n - (lg_sl vs).length) Slot.unset)[i]? with
  | none => rw [hs] at hv; cases hv
  | some x =>
    rw [hs] at hv
    cases x <;> simp [sltv] at hv
    subst hv; rfl
theorem Ct.of {y : MethodName} {args : List Value} {lv0 : List (Option Value)} (hy : plainName y.cls = true) (hown : y.cls = own) (hn : (lg_sl args).length ≤ nL) (hlv : ent args nL = lv0) (body : ∀ κ : Kp, Cx E κ cc nL own ret ht → Gm E κ post nL 0 lv0 [] M) : Ct E y cc nL ret ht args M post := by
  intro sz
  refine Met.ofW (cc := cc) (maxL := nL) (ret := ret) hy rfl ?_
  intro p e s m args' below meth c s₁ B hml hv
  obtain ⟨rfl, hsz, hP, hKw, hD⟩ := hv
  subst hsz; subst hown; subst hlv
  have hts := atoms_spec (ws := .code y cc nL ret :: BG) B.pre
  have G := body (p, e, rmH ht, s, m, args.toArray, below, meth, c) ⟨B.exec, B.bytes, hml, findClass_of_methodNamed B.named, fun w hw => hts w (List.mem_cons_of_mem _ hw), hKw, hD, B.returns, B.notSynchronized, rfl⟩
  rw [lg_entry_eq]
  exact G _ s.heap [] (Lh_ent hn) hP va_S.rf
theorem goodBG {w : Cond} (h : w ∈ BG) : GoodIn BG (w :: BG) := by
  intro v hv
  have : v ∈ BG := by
    rcases List.mem_cons.mp hv with rfl | q
    · exact h
    · exact q
  exact ⟨this, good_of_word (List.mem_filter.mp this).2⟩
theorem s_run {rest : List Value} {post' : Option Value → Mm → Prop} {a : Array Value}
    (hr : ∀ (ls : Array Slot) (H : Heap) (locs : List Loc), Lh ls nL lv → Wp E M H → va_S (Ad E (kS κ).heap.size) (kS κ).heap H locs → va_Run κ.1 E.1 κ.2.1 κ.2.2.1 (kS κ) κ.2.2.2.2.1 κ.2.2.2.2.2.1 κ.2.2.2.2.2.2.1 κ.2.2.2.2.2.2.2.1 κ.2.2.2.2.2.2.2.2 H locs 0 0 0 0 (F0 κ.2.2.2.2.1 pc ls st) rest (Qx E H.size post' a) (Ad E H.size))
    (kk : ∀ r M', post' r M' → Gm E κ post nL (pc + 3) lv (r.toList ++ rest) M') : Gm E κ post nL pc lv st M := by
  intro ls H locs hl hP hS T hT X
  obtain ⟨v, st₀, t, T', L, h0, X', hL, e1, e2, ⟨⟨r, M', hv, hp, hW'⟩, hz, hk⟩, stp⟩ := hr ls H locs hl hP hS T hT X
  cases hv
  rw [h0] at hz hk
  have sub : ∀ q, Ad E H.size q → Ad E (kS κ).heap.size q := by
    rintro q (z | z)
    · exact Or.inl z
    · exact Or.inr (Nat.le_trans hS.1 z)
  obtain ⟨t2, a1, b1⟩ := kk v M' hp ls T'.heap (locs ++ L) hl (by rw [e1]; exact hW') ⟨Nat.le_trans hS.1 (by rw [e1]; exact hz), fun q h1 h2 => by
      rw [e1, hk q (Nat.lt_of_lt_of_le h1 hS.1) (fun z => h2 (sub q z))]; exact hS.2.1 q h1 h2, fun q hq => by
      rcases List.mem_append.mp hq with h | h
      · exact hS.2.2 q h
      · exact sub _ (hL q h)⟩ T' rfl X'
  exact ⟨t2, stp t2 a1, b1⟩
theorem blindPc {args : List Value} {sz : Nat} : FrameBlind (va_Pc args (fun U => U.heap.size = sz ∧ Wp E M U.heap ∧ Kw E U ∧ Dd E)) := by
  intro a U g mk q
  obtain ⟨q0, q1, q2, q3, q4⟩ := q
  exact ⟨q0, q1, q2, ⟨va_K.moved (u := U) (U := U.calling g mk a) (Vm.Alike.refl U.vm) q3.1, NW_same (s := U) (U := U.calling g mk a) rfl q3.2⟩, q4⟩
theorem s_callV (C : Cx E κ cc nL own ret ht) {y : MethodName} {bytes : ByteArray} {maxL n ht' a index : Nat} {ret' : Option FieldType} {As rest : List Value} {post' : Option Value → Mm → Prop} (hd : decode cc pc = .ok (.invokevirtual index, 3)) (hy : Cy y bytes maxL ret' n) (hv : Cv y) (hlk : Lk own index y) (hct : Ct E y bytes maxL ret' ht' (zr E a :: As) M post') (hh : ht' + 1 ≤ ht) (ha : a < NID) (hka : kd a < 12) (hcl : (vwCl[kd a]?).map (fun q => q.1) = some y.cls) (hn : As.length = n) (hst : st = As.reverse ++ zr E a :: rest) (hcat : (rest.map fun v => v.category).sum ≤ 8)
    (kk : ∀ r M', post' r M' → Gm E κ post nL (pc + 3) lv (r.toList ++ rest) M') : Gm E κ post nL pc lv st M := by
  obtain ⟨hx, hb, hml, hown, hts, hKw, hD, hr, hlks, hR⟩ := C
  obtain ⟨y1, y2, y3, y4⟩ := hy
  refine s_run (rest := rest) (post' := post') (a := (Value.ref (aD E a) :: As).toArray) (fun ls H locs hl hP hS => ?_) kk
  have hpre : PreV (kS κ) H y.cls (aD E a) (va_Pc (zr E a :: As) (fun U => U.heap.size = H.size ∧ Wp E M U.heap ∧ Kw E U ∧ Dd E)) As := by
    refine ⟨blindPc, ?_, fun U hU hW => ⟨rfl, by rw [hU], by rw [hU]; exact hP, hKw.warm hW, hD⟩⟩
    cases hq : vwCl[kd a]? with
    | none => rw [hq] at hcl; cases hcl
    | some q =>
      rw [hq] at hcl
      have e : q.1 = y.cls := Option.some.inj hcl
      rw [← e]
      exact va_recv hKw.1 hP.1 hq (q0 := a) (fs := (List.range (nf (kd a))).map (fv (aD E) M a)) (by rw [wl_get ha]; simp only [cE, if_pos hka])
  have hroom : (rmH ht').frames + 1 ≤ (rmH ht).frames ∧ 8 + (maxL + 11) + (rmH ht').locals ≤ (rmH ht).locals := by
    simp only [rmH]; omega
  rw [← hR] at hroom
  rcases hlk with h | ⟨host, h⟩
  · exact va_runV (As := As) (rest := rest) ⟨hx, hb, hml, hown, hts⟩ (hct H.size) ⟨callB_of (ws := .code y bytes maxL ret' :: BG) (ws' := BG) n hts (goodBG y1) rfl rfl rfl (hts _ y2) (hts _ h) y3 hroom, hts _ hv.1, hts _ hv.2⟩ hpre rfl hn hl.1 hst (lv_room hcat) hd ⟨Nat.zero_le _, Nat.zero_le _⟩
  · exact va_runVN (As := As) (rest := rest) (C := y.cls) ⟨hx, hb, hml, hown, hts⟩ (hct H.size) ⟨va_cnB (ws := .code y bytes maxL ret' :: BG) (ws' := BG) n hts (goodBG y1) rfl rfl rfl (hKw.2 _ h) (hts _ y2) y3 hroom, hts _ hv.1, hts _ hv.2⟩ hpre rfl hn hl.1 hst (lv_room hcat) hd ⟨Nat.zero_le _, Nat.zero_le _⟩
theorem s_callS (C : Cx E κ cc nL own ret ht) {y : MethodName} {bytes : ByteArray} {maxL n ht' index : Nat} {ret' : Option FieldType} {As rest : List Value} {post' : Option Value → Mm → Prop} (hd : decode cc pc = .ok (.invokestatic index, 3)) (hy : Cy y bytes maxL ret' n) (hs : Cs y) (hlk : Lk own index y) (hct : Ct E y bytes maxL ret' ht' As M post') (hh : ht' + 1 ≤ ht) (hn : As.length = n) (hst : st = As.reverse ++ rest) (hcat : (rest.map fun v => v.category).sum ≤ 8)
    (kk : ∀ r M', post' r M' → Gm E κ post nL (pc + 3) lv (r.toList ++ rest) M') : Gm E κ post nL pc lv st M := by
  obtain ⟨hx, hb, hml, hown, hts, hKw, hD, hr, hlks, hR⟩ := C
  obtain ⟨y1, y2, y3, y4⟩ := hy
  refine s_run (rest := rest) (post' := post') (a := As.toArray) (fun ls H locs hl hP hS => ?_) kk
  have hpre : PreS (kS κ) H (va_Pc As (fun U => U.heap.size = H.size ∧ Wp E M U.heap ∧ Kw E U ∧ Dd E)) As :=
    ⟨blindPc, fun U hU hW => ⟨rfl, by rw [hU], by rw [hU]; exact hP, hKw.warm hW, hD⟩⟩
  have hroom : (rmH ht').frames + 1 ≤ (rmH ht).frames ∧ 8 + (maxL + 11) + (rmH ht').locals ≤ (rmH ht).locals := by
    simp only [rmH]; omega
  rw [← hR] at hroom
  rcases hlk with h | ⟨host, h⟩
  · exact va_runS (As := As) (rest := rest) ⟨hx, hb, hml, hown, hts⟩ (hct H.size) ⟨callB_of (ws := .code y bytes maxL ret' :: BG) (ws' := BG) n hts (goodBG y1) rfl rfl rfl (hts _ y2) (hts _ h) y3 hroom, hts _ hs⟩ hpre rfl hn hl.1 hst (lv_room hcat) hd ⟨Nat.zero_le _, Nat.zero_le _⟩
  · exact va_runSN (As := As) (rest := rest) ⟨hx, hb, hml, hown, hts⟩ (hct H.size) ⟨va_cnB (ws := .code y bytes maxL ret' :: BG) (ws' := BG) n hts (goodBG y1) rfl rfl rfl (hKw.2 _ h) (hts _ y2) y3 hroom, hts _ hs, trivial⟩ hpre rfl hn hl.1 hst (lv_room hcat) hd ⟨Nat.zero_le _, Nat.zero_le _⟩
/-- an answer that is a number; nothing answered -/
def pI (Q : Int → Mm → Prop) : Option Value → Mm → Prop := fun r M' => ∃ z, r = some (zi z) ∧ Q z M'
def pV (Q : Mm → Prop) : Option Value → Mm → Prop := fun r M' => r = none ∧ Q M'
theorem k_I {Q : Int → Mm → Prop} {rest : List Value} (kk : ∀ z M', Q z M' → Gm E κ post nL pc lv (zi z :: rest) M') : ∀ r M', pI Q r M' → Gm E κ post nL pc lv (r.toList ++ rest) M' := by
  rintro r M' ⟨z, rfl, h⟩
  exact kk z M' h
theorem k_V {Q : Mm → Prop} {rest : List Value} (kk : ∀ M', Q M' → Gm E κ post nL pc lv rest M') : ∀ r M', pV Q r M' → Gm E κ post nL pc lv (r.toList ++ rest) M' := by
  rintro r M' ⟨rfl, h⟩
  exact kk M' h
theorem s_callV0 (C : Cx E κ cc nL own ret ht) {y : MethodName} {bytes : ByteArray} {maxL ht' a index : Nat} {ret' : Option FieldType} {rest : List Value} {post' : Option Value → Mm → Prop} (hd : decode cc pc = .ok (.invokevirtual index, 3)) (hy : Cy y bytes maxL ret' 0) (hv : Cv y) (hlk : Lk own index y) (hct : Ct E y bytes maxL ret' ht' [zr E a] M post') (hh : ht' + 1 ≤ ht) (ha : a < NID) (hka : kd a < 12) (hcl : (vwCl[kd a]?).map (fun q => q.1) = some y.cls) (hcat : (rest.map fun v => v.category).sum ≤ 8)
    (kk : ∀ r M', post' r M' → Gm E κ post nL (pc + 3) lv (r.toList ++ rest) M') : Gm E κ post nL pc lv (zr E a :: rest) M := s_callV (As := []) C hd hy hv hlk hct hh ha hka hcl rfl rfl hcat kk
theorem s_callS0 (C : Cx E κ cc nL own ret ht) {y : MethodName} {bytes : ByteArray} {maxL ht' index : Nat} {ret' : Option FieldType} {rest : List Value} {post' : Option Value → Mm → Prop} (hd : decode cc pc = .ok (.invokestatic index, 3)) (hy : Cy y bytes maxL ret' 0) (hv : Cs y) (hlk : Lk own index y) (hct : Ct E y bytes maxL ret' ht' [] M post') (hh : ht' + 1 ≤ ht) (hcat : (rest.map fun v => v.category).sum ≤ 8)
    (kk : ∀ r M', post' r M' → Gm E κ post nL (pc + 3) lv (r.toList ++ rest) M') : Gm E κ post nL pc lv (rest) M := s_callS (As := []) C hd hy hv hlk hct hh rfl rfl hcat kk
theorem s_callV1 (C : Cx E κ cc nL own ret ht) {y : MethodName} {bytes : ByteArray} {maxL ht' a index : Nat} {ret' : Option FieldType} {rest : List Value} {post' : Option Value → Mm → Prop} {x1 : Value} (hd : decode cc pc = .ok (.invokevirtual index, 3)) (hy : Cy y bytes maxL ret' 1) (hv : Cv y) (hlk : Lk own index y) (hct : Ct E y bytes maxL ret' ht' [zr E a, x1] M post') (hh : ht' + 1 ≤ ht) (ha : a < NID) (hka : kd a < 12) (hcl : (vwCl[kd a]?).map (fun q => q.1) = some y.cls) (hcat : (rest.map fun v => v.category).sum ≤ 8)
    (kk : ∀ r M', post' r M' → Gm E κ post nL (pc + 3) lv (r.toList ++ rest) M') : Gm E κ post nL pc lv (x1 :: zr E a :: rest) M := s_callV (As := [x1]) C hd hy hv hlk hct hh ha hka hcl rfl rfl hcat kk
theorem s_callS1 (C : Cx E κ cc nL own ret ht) {y : MethodName} {bytes : ByteArray} {maxL ht' index : Nat} {ret' : Option FieldType} {rest : List Value} {post' : Option Value → Mm → Prop} {x1 : Value} (hd : decode cc pc = .ok (.invokestatic index, 3)) (hy : Cy y bytes maxL ret' 1) (hv : Cs y) (hlk : Lk own index y) (hct : Ct E y bytes maxL ret' ht' [x1] M post') (hh : ht' + 1 ≤ ht) (hcat : (rest.map fun v => v.category).sum ≤ 8)
    (kk : ∀ r M', post' r M' → Gm E κ post nL (pc + 3) lv (r.toList ++ rest) M') : Gm E κ post nL pc lv (x1 :: rest) M := s_callS (As := [x1]) C hd hy hv hlk hct hh rfl rfl hcat kk
theorem s_callV2 (C : Cx E κ cc nL own ret ht) {y : MethodName} {bytes : ByteArray} {maxL ht' a index : Nat} {ret' : Option FieldType} {rest : List Value} {post' : Option Value → Mm → Prop} {x1 x2 : Value} (hd : decode cc pc = .ok (.invokevirtual index, 3)) (hy : Cy y bytes maxL ret' 2) (hv : Cv y) (hlk : Lk own index y) (hct : Ct E y bytes maxL ret' ht' [zr E a, x1, x2] M post') (hh : ht' + 1 ≤ ht) (ha : a < NID) (hka : kd a < 12) (hcl : (vwCl[kd a]?).map (fun q => q.1) = some y.cls) (hcat : (rest.map fun v => v.category).sum ≤ 8)
    (kk : ∀ r M', post' r M' → Gm E κ post nL (pc + 3) lv (r.toList ++ rest) M') : Gm E κ post nL pc lv (x2 :: x1 :: zr E a :: rest) M := s_callV (As := [x1, x2]) C hd hy hv hlk hct hh ha hka hcl rfl rfl hcat kk
theorem s_callS2 (C : Cx E κ cc nL own ret ht) {y : MethodName} {bytes : ByteArray} {maxL ht' index : Nat} {ret' : Option FieldType} {rest : List Value} {post' : Option Value → Mm → Prop} {x1 x2 : Value} (hd : decode cc pc = .ok (.invokestatic index, 3)) (hy : Cy y bytes maxL ret' 2) (hv : Cs y) (hlk : Lk own index y) (hct : Ct E y bytes maxL ret' ht' [x1, x2] M post') (hh : ht' + 1 ≤ ht) (hcat : (rest.map fun v => v.category).sum ≤ 8)
    (kk : ∀ r M', post' r M' → Gm E κ post nL (pc + 3) lv (r.toList ++ rest) M') : Gm E κ post nL pc lv (x2 :: x1 :: rest) M := s_callS (As := [x1, x2]) C hd hy hv hlk hct hh rfl rfl hcat kk
theorem s_callV3 (C : Cx E κ cc nL own ret ht) {y : MethodName} {bytes : ByteArray} {maxL ht' a index : Nat} {ret' : Option FieldType} {rest : List Value} {post' : Option Value → Mm → Prop} {x1 x2 x3 : Value} (hd : decode cc pc = .ok (.invokevirtual index, 3)) (hy : Cy y bytes maxL ret' 3) (hv : Cv y) (hlk : Lk own index y) (hct : Ct E y bytes maxL ret' ht' [zr E a, x1, x2, x3] M post') (hh : ht' + 1 ≤ ht) (ha : a < NID) (hka : kd a < 12) (hcl : (vwCl[kd a]?).map (fun q => q.1) = some y.cls) (hcat : (rest.map fun v => v.category).sum ≤ 8)
    (kk : ∀ r M', post' r M' → Gm E κ post nL (pc + 3) lv (r.toList ++ rest) M') : Gm E κ post nL pc lv (x3 :: x2 :: x1 :: zr E a :: rest) M := s_callV (As := [x1, x2, x3]) C hd hy hv hlk hct hh ha hka hcl rfl rfl hcat kk
theorem s_callS3 (C : Cx E κ cc nL own ret ht) {y : MethodName} {bytes : ByteArray} {maxL ht' index : Nat} {ret' : Option FieldType} {rest : List Value} {post' : Option Value → Mm → Prop} {x1 x2 x3 : Value} (hd : decode cc pc = .ok (.invokestatic index, 3)) (hy : Cy y bytes maxL ret' 3) (hv : Cs y) (hlk : Lk own index y) (hct : Ct E y bytes maxL ret' ht' [x1, x2, x3] M post') (hh : ht' + 1 ≤ ht) (hcat : (rest.map fun v => v.category).sum ≤ 8)
    (kk : ∀ r M', post' r M' → Gm E κ post nL (pc + 3) lv (r.toList ++ rest) M') : Gm E κ post nL pc lv (x3 :: x2 :: x1 :: rest) M := s_callS (As := [x1, x2, x3]) C hd hy hv hlk hct hh rfl rfl hcat kk
theorem s_callV4 (C : Cx E κ cc nL own ret ht) {y : MethodName} {bytes : ByteArray} {maxL ht' a index : Nat} {ret' : Option FieldType} {rest : List Value} {post' : Option Value → Mm → Prop} {x1 x2 x3 x4 : Value} (hd : decode cc pc = .ok (.invokevirtual index, 3)) (hy : Cy y bytes maxL ret' 4) (hv : Cv y) (hlk : Lk own index y) (hct : Ct E y bytes maxL ret' ht' [zr E a, x1, x2, x3, x4] M post') (hh : ht' + 1 ≤ ht) (ha : a < NID) (hka : kd a < 12) (hcl : (vwCl[kd a]?).map (fun q => q.1) = some y.cls) (hcat : (rest.map fun v => v.category).sum ≤ 8)
    (kk : ∀ r M', post' r M' → Gm E κ post nL (pc + 3) lv (r.toList ++ rest) M') : Gm E κ post nL pc lv (x4 :: x3 :: x2 :: x1 :: zr E a :: rest) M := s_callV (As := [x1, x2, x3, x4]) C hd hy hv hlk hct hh ha hka hcl rfl rfl hcat kk
theorem s_callS4 (C : Cx E κ cc nL own ret ht) {y : MethodName} {bytes : ByteArray} {maxL ht' index : Nat} {ret' : Option FieldType} {rest : List Value} {post' : Option Value → Mm → Prop} {x1 x2 x3 x4 : Value} (hd : decode cc pc = .ok (.invokestatic index, 3)) (hy : Cy y bytes maxL ret' 4) (hv : Cs y) (hlk : Lk own index y) (hct : Ct E y bytes maxL ret' ht' [x1, x2, x3, x4] M post') (hh : ht' + 1 ≤ ht) (hcat : (rest.map fun v => v.category).sum ≤ 8)
    (kk : ∀ r M', post' r M' → Gm E κ post nL (pc + 3) lv (r.toList ++ rest) M') : Gm E κ post nL pc lv (x4 :: x3 :: x2 :: x1 :: rest) M := s_callS (As := [x1, x2, x3, x4]) C hd hy hv hlk hct hh rfl rfl hcat kk
theorem s_callV5 (C : Cx E κ cc nL own ret ht) {y : MethodName} {bytes : ByteArray} {maxL ht' a index : Nat} {ret' : Option FieldType} {rest : List Value} {post' : Option Value → Mm → Prop} {x1 x2 x3 x4 x5 : Value} (hd : decode cc pc = .ok (.invokevirtual index, 3)) (hy : Cy y bytes maxL ret' 5) (hv : Cv y) (hlk : Lk own index y) (hct : Ct E y bytes maxL ret' ht' [zr E a, x1, x2, x3, x4, x5] M post') (hh : ht' + 1 ≤ ht) (ha : a < NID) (hka : kd a < 12) (hcl : (vwCl[kd a]?).map (fun q => q.1) = some y.cls) (hcat : (rest.map fun v => v.category).sum ≤ 8)
    (kk : ∀ r M', post' r M' → Gm E κ post nL (pc + 3) lv (r.toList ++ rest) M') : Gm E κ post nL pc lv (x5 :: x4 :: x3 :: x2 :: x1 :: zr E a :: rest) M := s_callV (As := [x1, x2, x3, x4, x5]) C hd hy hv hlk hct hh ha hka hcl rfl rfl hcat kk
theorem s_callS5 (C : Cx E κ cc nL own ret ht) {y : MethodName} {bytes : ByteArray} {maxL ht' index : Nat} {ret' : Option FieldType} {rest : List Value} {post' : Option Value → Mm → Prop} {x1 x2 x3 x4 x5 : Value} (hd : decode cc pc = .ok (.invokestatic index, 3)) (hy : Cy y bytes maxL ret' 5) (hv : Cs y) (hlk : Lk own index y) (hct : Ct E y bytes maxL ret' ht' [x1, x2, x3, x4, x5] M post') (hh : ht' + 1 ≤ ht) (hcat : (rest.map fun v => v.category).sum ≤ 8)
    (kk : ∀ r M', post' r M' → Gm E κ post nL (pc + 3) lv (r.toList ++ rest) M') : Gm E κ post nL pc lv (x5 :: x4 :: x3 :: x2 :: x1 :: rest) M := s_callS (As := [x1, x2, x3, x4, x5]) C hd hy hv hlk hct hh rfl rfl hcat kk
theorem s_callV6 (C : Cx E κ cc nL own ret ht) {y : MethodName} {bytes : ByteArray} {maxL ht' a index : Nat} {ret' : Option FieldType} {rest : List Value} {post' : Option Value → Mm → Prop} {x1 x2 x3 x4 x5 x6 : Value} (hd : decode cc pc = .ok (.invokevirtual index, 3)) (hy : Cy y bytes maxL ret' 6) (hv : Cv y) (hlk : Lk own index y) (hct : Ct E y bytes maxL ret' ht' [zr E a, x1, x2, x3, x4, x5, x6] M post') (hh : ht' + 1 ≤ ht) (ha : a < NID) (hka : kd a < 12) (hcl : (vwCl[kd a]?).map (fun q => q.1) = some y.cls) (hcat : (rest.map fun v => v.category).sum ≤ 8)
    (kk : ∀ r M', post' r M' → Gm E κ post nL (pc + 3) lv (r.toList ++ rest) M') : Gm E κ post nL pc lv (x6 :: x5 :: x4 :: x3 :: x2 :: x1 :: zr E a :: rest) M := s_callV (As := [x1, x2, x3, x4, x5, x6]) C hd hy hv hlk hct hh ha hka hcl rfl rfl hcat kk
theorem s_callS6 (C : Cx E κ cc nL own ret ht) {y : MethodName} {bytes : ByteArray} {maxL ht' index : Nat} {ret' : Option FieldType} {rest : List Value} {post' : Option Value → Mm → Prop} {x1 x2 x3 x4 x5 x6 : Value} (hd : decode cc pc = .ok (.invokestatic index, 3)) (hy : Cy y bytes maxL ret' 6) (hv : Cs y) (hlk : Lk own index y) (hct : Ct E y bytes maxL ret' ht' [x1, x2, x3, x4, x5, x6] M post') (hh : ht' + 1 ≤ ht) (hcat : (rest.map fun v => v.category).sum ≤ 8)
    (kk : ∀ r M', post' r M' → Gm E κ post nL (pc + 3) lv (r.toList ++ rest) M') : Gm E κ post nL pc lv (x6 :: x5 :: x4 :: x3 :: x2 :: x1 :: rest) M := s_callS (As := [x1, x2, x3, x4, x5, x6]) C hd hy hv hlk hct hh rfl rfl hcat kk
/-- a number answered, nothing changed -/
def pP (M : Mm) (Q : Int → Prop) : Option Value → Mm → Prop := fun r M' => ∃ z, r = some (zi z) ∧ M' = M ∧ Q z
theorem k_P {Q : Int → Prop} {rest : List Value} (kk : ∀ z, Q z → Gm E κ post nL pc lv (zi z :: rest) M) : ∀ r M', pP M Q r M' → Gm E κ post nL pc lv (r.toList ++ rest) M' := by
  rintro r M' ⟨z, rfl, rfl, h⟩
  exact kk z h
theorem s_min (C : Cx E κ cc nL own ret ht) {index : Nat} {x y : Int} (hd : decode cc pc = .ok (.invokestatic index, 3)) (hl : Cond.methodLink own index Lib.Math.min.name ∈ BG) (h1 : Cond.static Lib.Math.min.name ∈ BG) (h2 : Cond.initialized "java/lang/Math" ∈ BG) (h3 : Cond.code Lib.Math.min.name Lib.Math.min.code 2 (some .int) ∈ BG) (hh : 1 ≤ ht) (hcat : (st.map fun v => v.category).sum ≤ 8) (hx : rg x) (hy : rg y) (k : Gm E κ post nL (pc + 3) lv (zi (min x y) :: st) M) : Gm E κ post nL pc lv (zi y :: zi x :: st) M := by
  intro ls H locs h hP hS
  obtain ⟨hx0, hb, hml, hown, hts, hKw, hD, hr, hlks, hR⟩ := C
  refine va_mmin hx0 hb (by rw [hml, h.1]) hown (hts _ hl) (hts _ h1) (hts _ h2) (hts _ h3) (by rw [hR]; exact hh) (by rw [hR]; simp only [rmH]; omega) (by rw [hR]; exact Nat.zero_le _) (by rw [hR]; exact Nat.zero_le _) hd ?_
  have e : (if Int32.ofInt y < Int32.ofInt x then Int32.ofInt y else Int32.ofInt x) = Int32.ofInt (min x y) := by
    by_cases c : y < x
    · rw [if_pos ((ofInt_lt hy hx).mpr c), show min x y = y by omega]
    · rw [if_neg (fun q => c ((ofInt_lt hy hx).mp q)), show min x y = x by omega]
  rw [e]
  exact k ls H locs h hP hS
theorem s_abs (C : Cx E κ cc nL own ret ht) {index : Nat} {x : Int} (hd : decode cc pc = .ok (.invokestatic index, 3)) (hl : Cond.methodLink own index Lib.Math.abs.name ∈ BG) (h1 : Cond.static Lib.Math.abs.name ∈ BG) (h2 : Cond.initialized "java/lang/Math" ∈ BG) (h3 : Cond.code Lib.Math.abs.name Lib.Math.abs.code 1 (some .int) ∈ BG) (hh : 1 ≤ ht) (hcat : (st.map fun v => v.category).sum ≤ 8) (hx : rg x) (k : Gm E κ post nL (pc + 3) lv (zi (max x (-x)) :: st) M) : Gm E κ post nL pc lv (zi x :: st) M := by
  intro ls H locs h hP hS
  obtain ⟨hx0, hb, hml, hown, hts, hKw, hD, hr, hlks, hR⟩ := C
  refine va_mabs hx0 hb (by rw [hml, h.1]) hown (hts _ hl) (hts _ h1) (hts _ h2) (hts _ h3) (by rw [hR]; exact hh) (by rw [hR]; simp only [rmH]; omega) (by rw [hR]; exact Nat.zero_le _) (by rw [hR]; exact Nat.zero_le _) hd ?_
  have h0 : (0 : Int32) = Int32.ofInt 0 := rfl
  have e : (if 0 ≤ Int32.ofInt x then Int32.ofInt x else -Int32.ofInt x) = Int32.ofInt (max x (-x)) := by
    rw [h0]
    by_cases c : x < 0
    · rw [if_neg (fun q => by have := (ofInt_le (by decide) hx).mp q; omega), ← Int32.ofInt_neg, show max x (-x) = -x by omega]
    · rw [if_pos ((ofInt_le (by decide) hx).mpr (by omega)), show max x (-x) = x by omega]
  first | (rw [e]; exact k ls H locs h hP hS) | (simp only [Int32.not_lt] at *; rw [e]; exact k ls H locs h hP hS) | (have k2 := k ls H locs h hP hS; unfold zi at k2; rw [← e] at k2; simpa using k2)
def mcopy (M : Mm) (a0 : Nat) (sp : Int) (a1 : Nat) (dp n : Int) : Mm := fun a => if a = a1 then (fun k => if dp ≤ k ∧ k < dp + n then M a0 (sp + (k - dp)) else M a1 k) else M a
theorem mcopy_ne {M : Mm} {a0 a1 a : Nat} {sp dp n : Int} (h : a ≠ a1) : mcopy M a0 sp a1 dp n a = M a := by simp [mcopy, h]
theorem mcopy_at {M : Mm} {a0 a1 : Nat} {sp dp n k : Int} : mcopy M a0 sp a1 dp n a1 k = if dp ≤ k ∧ k < dp + n then M a0 (sp + (k - dp)) else M a1 k := by simp [mcopy]
theorem s_copy (C : Cx E κ cc nL own ret ht) {index a0 a1 n0 n1 : Nat} {sp dp n : Int} (hd : decode cc pc = .ok (.invokestatic index, 3)) (hl : Cond.methodLink own index arraycopyName ∈ BG) (w1 : Cond.native arraycopyName ∈ BG) (w2 : Cond.static arraycopyName ∈ BG) (w3 : Cond.initialized "java/lang/System" ∈ BG) (hh : 1 ≤ ht) (hcat : (st.map fun v => v.category).sum + (nativeFrameWords "java/lang/System" "arraycopy" 5 + 11) ≤ 40)
    (ha0 : a0 < NID) (hk0 : kd a0 = 20) (hn0 : ln a0 = n0) (ha1 : a1 < NID) (hk1 : kd a1 = 20) (hn1 : ln a1 = n1) (g1 : 0 ≤ sp) (g2 : 0 ≤ dp) (g3 : 0 ≤ n) (g4 : sp + n ≤ (n0 : Int)) (g5 : dp + n ≤ (n1 : Int)) (g6 : n0 < 100000) (g7 : n1 < 100000)
    (kk : Gm E κ post nL (pc + 3) lv st (mcopy M a0 sp a1 dp n)) : Gm E κ post nL pc lv (zi n :: zi dp :: zr E a1 :: zi sp :: zr E a0 :: st) M := by
  intro ls H locs h hP hS
  obtain ⟨hx0, hb, hml, hown, hts, hKw, hD, hr, hlks, hR⟩ := C
  subst hn0; subst hn1
  have q1 := vp_in_zi (x := sp) (n := 200000) g1 (by omega) (by omega)
  have q2 := vp_in_zi (x := dp) (n := 200000) g2 (by omega) (by omega)
  have q3 := vp_in_zi (x := n) (n := 200000) g3 (by omega) (by omega)
  refine va_copyi (D := E.2.1) (cl := vwCl) (tys := tyE E) (ty := .int) hx0 hb (by rw [hml, h.1]) hown (hts _ hl) (hts _ w1) (hts _ w2) (hts _ w3) hKw.1 hP.1 (hD.D M _) hS a0 a1 0 0 (by rw [wl_get ha0, cE_i (Or.inl hk0), hk0]) (by rw [wl_get ha1, cE_i (Or.inl hk1), hk1]) rfl rfl rfl (fun q => q1.1 (Or.inl q)) (fun q => q2.1 (Or.inl q)) (fun q => q3.1 (Or.inl q)) (by rw [q1.2, q3.2]; omega) (by rw [q2.2, q3.2]; omega) (fun _ _ => rfl) (by rw [hR]; exact hh) (by rw [hR]; simp only [rmH]; omega) hd (fun H1 locs1 z1 _ z3 => kk ls H1 locs1 h ?_ z3)
  rw [q1.2, q2.2, q3.2] at z1
  have ec : va_cpy (fun k : Nat => Int32.ofInt (M a0 (k : Int))) (fun k : Nat => Int32.ofInt (M a1 (k : Int))) sp.toNat dp.toNat n.toNat = (fun k : Nat => Int32.ofInt (mcopy M a0 sp a1 dp n a1 (k : Int))) := by
    funext k
    simp only [va_cpy, mcopy_at]
    by_cases c : dp.toNat ≤ k ∧ k < dp.toNat + n.toNat
    · rw [if_pos c, if_pos (by omega)]
      congr 2
      omega
    · rw [if_neg c, if_neg (by omega)]
  have eo : ∀ j, j ≠ a1 → cE (aD E) (cY E) (mcopy M a0 sp a1 dp n) j = cE (aD E) (cY E) M j := by
    intro j hj
    have h1 : mcopy M a0 sp a1 dp n j = M j := mcopy_ne hj
    have h2 : fv (aD E) (mcopy M a0 sp a1 dp n) j = fv (aD E) M j := by
      funext q
      simp only [fv, h1]
    simp only [cE, h1, h2]
  rw [ec, wl_set ha1 (M' := mcopy M a0 sp a1 dp n) (by rw [cE_i (Or.inl hk1), hk1]) eo] at z1
  refine ⟨z1, fun b j => ?_⟩
  by_cases hb1 : b = a1
  · subst hb1
    rw [mcopy_at]
    split
    · exact (Ok_i hk1).mpr ((Ok_i hk0).mp (hP.2 _ _))
    · exact hP.2 _ _
  · rw [mcopy_ne hb1]; exact hP.2 b j
theorem s_alen (C : Cx E κ cc nL own ret ht) {a n : Nat} (hd : decode cc pc = .ok (.arraylength, 1)) (ha : a < NID) (hka : kd a = 20 ∨ kd a = 21) (hn : ln a = n) (kk : Gm E κ post nL (pc + 1) lv (zi (n : Int) :: st) M) : Gm E κ post nL pc lv (zr E a :: st) M := by
  intro ls H locs h hP hS
  obtain ⟨hx0, hb, hml, hown, hts, hKw, hD, hr, hlks, hR⟩ := C
  subst hn
  have e : Int32.ofNat (ln a) = Int32.ofInt (ln a : Int) := by first | rfl | exact (Int32.ofInt_natCast _).symm | exact (Int32.ofInt_eq_ofNat).symm | exact Int32.ofNat_eq_ofInt _
  rcases hka with hka | hka
  · exact va_alen (D := E.2.1) (cl := vwCl) (tys := tyE E) hx0 hb hKw.1 hP.1 a 0 (by rw [wl_get ha, cE_i (Or.inl hka), hka]) rfl e hd (kk ls H locs h hP hS)
  · exact va_alen (D := E.2.1) (cl := vwCl) (tys := tyE E) hx0 hb hKw.1 hP.1 a 1 (by rw [wl_get ha, cE_l hka]) rfl e hd (kk ls H locs h hP hS)
end FC
