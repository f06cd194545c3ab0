section FC
variable {E : Ev} {κ : Kp} {post : Option Value → Mm → Prop} {cc : ByteArray} {nL : Nat} {own : String} {ret : Option FieldType} {ht pc : Nat} {lv : List (Option Value)} {st : List Value} {M : Mm}
/-- the locals at a method's entry -/
def sltv : Slot → Option Value
  | .val v => some v
  | _ => none
def ent (vs : List Value) (n : Nat) : List (Option Value) := (lg_sl vs ++ List.replicate (n - (lg_sl vs).length) Slot.unset).map sltv
theorem Lh_ent {vs : List Value} {n : Nat} (h : (lg_sl vs).length ≤ n) : Lh ((lg_sl vs ++ List.replicate (n - (lg_sl vs).length) Slot.unset).toArray) n (ent vs n) := by
  have h0 := lv_entry vs h
  refine ⟨h0.1, h0.2.1, by simp [ent]; omega, fun i v hv => ?_⟩
  rw [List.getElem?_toArray]
  simp only [ent, List.getElem?_map] at hv
  cases hs : (lg_sl vs ++ List.replicate (n - (lg_sl vs).length) Slot.unset)[i]? with
  | none => rw [hs] at hv; cases hv
  | some x =>
    rw [hs] at hv
    cases x <;> simp [sltv] at hv
    subst hv; rfl
theorem Ct.of {y : MethodName} {args : List Value} {lv0 : List (Option Value)} (hy : plainName y.cls = true) (hown : y.cls = own) (hn : (lg_sl args).length ≤ nL) (hlv : ent args nL = lv0) (body : ∀ κ : Kp, Cx E κ cc nL own ret ht → Gm E κ post nL 0 lv0 [] M) : Ct E y cc nL ret ht args M post := by
  intro sz
  refine Met.ofW (cc := cc) (maxL := nL) (ret := ret) hy rfl ?_
  intro p e s m args' below meth c s₁ B hml hv
  obtain ⟨rfl, hsz, hP, hKw, hD⟩ := hv
  subst hsz; subst hown; subst hlv
  have hts := atoms_spec (ws := .code y cc nL ret :: BG) B.pre
  have G := body (p, e, rmH ht, s, m, args.toArray, below, meth, c) ⟨B.exec, B.bytes, hml, findClass_of_methodNamed B.named, fun w hw => hts w (List.mem_cons_of_mem _ hw), hKw, hD, B.returns, B.notSynchronized, rfl⟩
  rw [lg_entry_eq]
  exact G _ s.heap [] (Lh_ent hn) hP va_S.rf
theorem goodBG {w : Cond} (h : w ∈ BG) : GoodIn BG (w :: BG) := by
  intro v hv
  have : v ∈ BG := by
    rcases List.mem_cons.mp hv with rfl | q
    · exact h
    · exact q
  exact ⟨this, good_of_word (List.mem_filter.mp this).2⟩
theorem s_run {rest : List Value} {post' : Option Value → Mm → Prop} {a : Array Value}
    (hr : ∀ (ls : Array Slot) (H : Heap) (locs : List Loc), Lh ls nL lv → Wp E M H → va_S (Ad E (kS κ).heap.size) (kS κ).heap H locs → va_Run κ.1 E.1 κ.2.1 κ.2.2.1 (kS κ) κ.2.2.2.2.1 κ.2.2.2.2.2.1 κ.2.2.2.2.2.2.1 κ.2.2.2.2.2.2.2.1 κ.2.2.2.2.2.2.2.2 H locs 0 0 0 0 (F0 κ.2.2.2.2.1 pc ls st) rest (Qx E H.size post' a) (Ad E H.size))
    (kk : ∀ r M', post' r M' → Gm E κ post nL (pc + 3) lv (r.toList ++ rest) M') : Gm E κ post nL pc lv st M := by
  intro ls H locs hl hP hS T hT X
  obtain ⟨v, st₀, t, T', L, h0, X', hL, e1, e2, ⟨⟨r, M', hv, hp, hW'⟩, hz, hk⟩, stp⟩ := hr ls H locs hl hP hS T hT X
  cases hv
  rw [h0] at hz hk
  have sub : ∀ q, Ad E H.size q → Ad E (kS κ).heap.size q := by
    rintro q (z | z)
    · exact Or.inl z
    · exact Or.inr (Nat.le_trans hS.1 z)
  obtain ⟨t2, a1, b1⟩ := kk v M' hp ls T'.heap (locs ++ L) hl (by rw [e1]; exact hW') ⟨Nat.le_trans hS.1 (by rw [e1]; exact hz), fun q h1 h2 => by
      rw [e1, hk q (Nat.lt_of_lt_of_le h1 hS.1) (fun z => h2 (sub q z))]; exact hS.2.1 q h1 h2, fun q hq => by
      rcases List.mem_append.mp hq with h | h
      · exact hS.2.2 q h
      · exact sub _ (hL q h)⟩ T' rfl X'
  exact ⟨t2, stp t2 a1, b1⟩
theorem blindPc {args : List Value} {sz : Nat} : FrameBlind (va_Pc args (fun U => U.heap.size = sz ∧ Wp E M U.heap ∧ Kw E U ∧ Dd E)) := by
  intro a U g mk q
  obtain ⟨q0, q1, q2, q3, q4⟩ := q
  exact ⟨q0, q1, q2, ⟨va_K.moved (u := U) (U := U.calling g mk a) (Vm.Alike.refl U.vm) q3.1, NW_same (s := U) (U := U.calling g mk a) rfl q3.2⟩, q4⟩
theorem s_callV (C : Cx E κ cc nL own ret ht) {y : MethodName} {bytes : ByteArray} {maxL n ht' a index : Nat} {ret' : Option FieldType} {As rest : List Value} {post' : Option Value → Mm → Prop} (hd : decode cc pc = .ok (.invokevirtual index, 3)) (hy : Cy y bytes maxL ret' n) (hv : Cv y) (hlk : Lk own index y) (hct : Ct E y bytes maxL ret' ht' (zr E a :: As) M post') (hh : ht' + 1 ≤ ht) (ha : a < NID) (hka : kd a < 12) (hcl : (vwCl[kd a]?).map (fun q => q.1) = some y.cls) (hn : As.length = n) (hst : st = As.reverse ++ zr E a :: rest) (hcat : (rest.map fun v => v.category).sum ≤ 8)
    (kk : ∀ r M', post' r M' → Gm E κ post nL (pc + 3) lv (r.toList ++ rest) M') : Gm E κ post nL pc lv st M := by
  obtain ⟨hx, hb, hml, hown, hts, hKw, hD, hr, hlks, hR⟩ := C
  obtain ⟨y1, y2, y3, y4⟩ := hy
  refine s_run (rest := rest) (post' := post') (a := (Value.ref (aD E a) :: As).toArray) (fun ls H locs hl hP hS => ?_) kk
  have hpre : PreV (kS κ) H y.cls (aD E a) (va_Pc (zr E a :: As) (fun U => U.heap.size = H.size ∧ Wp E M U.heap ∧ Kw E U ∧ Dd E)) As := by
    refine ⟨blindPc, ?_, fun U hU hW => ⟨rfl, by rw [hU], by rw [hU]; exact hP, hKw.warm hW, hD⟩⟩
    cases hq : vwCl[kd a]? with
    | none => rw [hq] at hcl; cases hcl
    | some q =>
      rw [hq] at hcl
      have e : q.1 = y.cls := Option.some.inj hcl
      rw [← e]
      exact va_recv hKw.1 hP.1 hq (q0 := a) (fs := (List.range (nf (kd a))).map (fv (aD E) M a)) (by rw [wl_get ha]; simp only [cE, if_pos hka])
  have hroom : (rmH ht').frames + 1 ≤ (rmH ht).frames ∧ 8 + (maxL + 11) + (rmH ht').locals ≤ (rmH ht).locals := by
    simp only [rmH]; omega
  rw [← hR] at hroom
  rcases hlk with h | ⟨host, h⟩
  · exact va_runV (As := As) (rest := rest) ⟨hx, hb, hml, hown, hts⟩ (hct H.size) ⟨callB_of (ws := .code y bytes maxL ret' :: BG) (ws' := BG) n hts (goodBG y1) rfl rfl rfl (hts _ y2) (hts _ h) y3 hroom, hts _ hv.1, hts _ hv.2⟩ hpre rfl hn hl.1 hst (lv_room hcat) hd ⟨Nat.zero_le _, Nat.zero_le _⟩
  · exact va_runVN (As := As) (rest := rest) (C := y.cls) ⟨hx, hb, hml, hown, hts⟩ (hct H.size) ⟨va_cnB (ws := .code y bytes maxL ret' :: BG) (ws' := BG) n hts (goodBG y1) rfl rfl rfl (hKw.2 _ h) (hts _ y2) y3 hroom, hts _ hv.1, hts _ hv.2⟩ hpre rfl hn hl.1 hst (lv_room hcat) hd ⟨Nat.zero_le _, Nat.zero_le _⟩
theorem s_callS (C : Cx E κ cc nL own ret ht) {y : MethodName} {bytes : ByteArray} {maxL n ht' index : Nat} {ret' : Option FieldType} {As rest : List Value} {post' : Option Value → Mm → Prop} (hd : decode cc pc = .ok (.invokestatic index, 3)) (hy : Cy y bytes maxL ret' n) (hs : Cs y) (hlk : Lk own index y) (hct : Ct E y bytes maxL ret' ht' As M post') (hh : ht' + 1 ≤ ht) (hn : As.length = n) (hst : st = As.reverse ++ rest) (hcat : (rest.map fun v => v.category).sum ≤ 8)
    (kk : ∀ r M', post' r M' → Gm E κ post nL (pc + 3) lv (r.toList ++ rest) M') : Gm E κ post nL pc lv st M := by
  obtain ⟨hx, hb, hml, hown, hts, hKw, hD, hr, hlks, hR⟩ := C
  obtain ⟨y1, y2, y3, y4⟩ := hy
  refine s_run (rest := rest) (post' := post') (a := As.toArray) (fun ls H locs hl hP hS => ?_) kk
  have hpre : PreS (kS κ) H (va_Pc As (fun U => U.heap.size = H.size ∧ Wp E M U.heap ∧ Kw E U ∧ Dd E)) As :=
    ⟨blindPc, fun U hU hW => ⟨rfl, by rw [hU], by rw [hU]; exact hP, hKw.warm hW, hD⟩⟩
  have hroom : (rmH ht').frames + 1 ≤ (rmH ht).frames ∧ 8 + (maxL + 11) + (rmH ht').locals ≤ (rmH ht).locals := by
    simp only [rmH]; omega
  rw [← hR] at hroom
  rcases hlk with h | ⟨host, h⟩
  · exact va_runS (As := As) (rest := rest) ⟨hx, hb, hml, hown, hts⟩ (hct H.size) ⟨callB_of (ws := .code y bytes maxL ret' :: BG) (ws' := BG) n hts (goodBG y1) rfl rfl rfl (hts _ y2) (hts _ h) y3 hroom, hts _ hs⟩ hpre rfl hn hl.1 hst (lv_room hcat) hd ⟨Nat.zero_le _, Nat.zero_le _⟩
  · exact va_runSN (As := As) (rest := rest) ⟨hx, hb, hml, hown, hts⟩ (hct H.size) ⟨va_cnB (ws := .code y bytes maxL ret' :: BG) (ws' := BG) n hts (goodBG y1) rfl rfl rfl (hKw.2 _ h) (hts _ y2) y3 hroom, hts _ hs, trivial⟩ hpre rfl hn hl.1 hst (lv_room hcat) hd ⟨Nat.zero_le _, Nat.zero_le _⟩
/-- an answer that is a number; nothing answered -/
def pI (Q : Int → Mm → Prop) : Option Value → Mm → Prop := fun r M' => ∃ z, r = some (zi z) ∧ Q z M'
def pV (Q : Mm → Prop) : Option Value → Mm → Prop := fun r M' => r = none ∧ Q M'
theorem k_I {Q : Int → Mm → Prop} {rest : List Value} (kk : ∀ z M', Q z M' → Gm E κ post nL pc lv (zi z :: rest) M') : ∀ r M', pI Q r M' → Gm E κ post nL pc lv (r.toList ++ rest) M' := by
  rintro r M' ⟨z, rfl, h⟩
  exact kk z M' h
theorem k_V {Q : Mm → Prop} {rest : List Value} (kk : ∀ M', Q M' → Gm E κ post nL pc lv rest M') : ∀ r M', pV Q r M' → Gm E κ post nL pc lv (r.toList ++ rest) M' := by
  rintro r M' ⟨rfl, h⟩
  exact kk M' h
theorem s_callV0 (C : Cx E κ cc nL own ret ht) {y : MethodName} {bytes : ByteArray} {maxL ht' a index : Nat} {ret' : Option FieldType} {rest : List Value} {post' : Option Value → Mm → Prop} (hd : decode cc pc = .ok (.invokevirtual index, 3)) (hy : Cy y bytes maxL ret' 0) (hv : Cv y) (hlk : Lk own index y) (hct : Ct E y bytes maxL ret' ht' [zr E a] M post') (hh : ht' + 1 ≤ ht) (ha : a < NID) (hka : kd a < 12) (hcl : (vwCl[kd a]?).map (fun q => q.1) = some y.cls) (hcat : (rest.map fun v => v.category).sum ≤ 8)
    (kk : ∀ r M', post' r M' → Gm E κ post nL (pc + 3) lv (r.toList ++ rest) M') : Gm E κ post nL pc lv (zr E a :: rest) M := s_callV (As := []) C hd hy hv hlk hct hh ha hka hcl rfl rfl hcat kk
theorem s_callS0 (C : Cx E κ cc nL own ret ht) {y : MethodName} {bytes : ByteArray} {maxL ht' index : Nat} {ret' : Option FieldType} {rest : List Value} {post' : Option Value → Mm → Prop} (hd : decode cc pc = .ok (.invokestatic index, 3)) (hy : Cy y bytes maxL ret' 0) (hv : Cs y) (hlk : Lk own index y) (hct : Ct E y bytes maxL ret' ht' [] M post') (hh : ht' + 1 ≤ ht) (hcat : (rest.map fun v => v.category).sum ≤ 8)
    (kk : ∀ r M', post' r M' → Gm E κ post nL (pc + 3) lv (r.toList ++ rest) M') : Gm E κ post nL pc lv (rest) M := s_callS (As := []) C hd hy hv hlk hct hh rfl rfl hcat kk
theorem s_callV1 (C : Cx E κ cc nL own ret ht) {y : MethodName} {bytes : ByteArray} {maxL ht' a index : Nat} {ret' : Option FieldType} {rest : List Value} {post' : Option Value → Mm → Prop} {x1 : Value} (hd : decode cc pc = .ok (.invokevirtual index, 3)) (hy : Cy y bytes maxL ret' 1) (hv : Cv y) (hlk : Lk own index y) (hct : Ct E y bytes maxL ret' ht' [zr E a, x1] M post') (hh : ht' + 1 ≤ ht) (ha : a < NID) (hka : kd a < 12) (hcl : (vwCl[kd a]?).map (fun q => q.1) = some y.cls) (hcat : (rest.map fun v => v.category).sum ≤ 8)
    (kk : ∀ r M', post' r M' → Gm E κ post nL (pc + 3) lv (r.toList ++ rest) M') : Gm E κ post nL pc lv (x1 :: zr E a :: rest) M := s_callV (As := [x1]) C hd hy hv hlk hct hh ha hka hcl rfl rfl hcat kk
theorem s_callS1 (C : Cx E κ cc nL own ret ht) {y : MethodName} {bytes : ByteArray} {maxL ht' index : Nat} {ret' : Option FieldType} {rest : List Value} {post' : Option Value → Mm → Prop} {x1 : Value} (hd : decode cc pc = .ok (.invokestatic index, 3)) (hy : Cy y bytes maxL ret' 1) (hv : Cs y) (hlk : Lk own index y) (hct : Ct E y bytes maxL ret' ht' [x1] M post') (hh : ht' + 1 ≤ ht) (hcat : (rest.map fun v => v.category).sum ≤ 8)
    (kk : ∀ r M', post' r M' → Gm E κ post nL (pc + 3) lv (r.toList ++ rest) M') : Gm E κ post nL pc lv (x1 :: rest) M := s_callS (As := [x1]) C hd hy hv hlk hct hh rfl rfl hcat kk
theorem s_callV2 (C : Cx E κ cc nL own ret ht) {y : MethodName} {bytes : ByteArray} {maxL ht' a index : Nat} {ret' : Option FieldType} {rest : List Value} {post' : Option Value → Mm → Prop} {x1 x2 : Value} (hd : decode cc pc = .ok (.invokevirtual index, 3)) (hy : Cy y bytes maxL ret' 2) (hv : Cv y) (hlk : Lk own index y) (hct : Ct E y bytes maxL ret' ht' [zr E a, x1, x2] M post') (hh : ht' + 1 ≤ ht) (ha : a < NID) (hka : kd a < 12) (hcl : (vwCl[kd a]?).map (fun q => q.1) = some y.cls) (hcat : (rest.map fun v => v.category).sum ≤ 8)
    (kk : ∀ r M', post' r M' → Gm E κ post nL (pc + 3) lv (r.toList ++ rest) M') : Gm E κ post nL pc lv (x2 :: x1 :: zr E a :: rest) M := s_callV (As := [x1, x2]) C hd hy hv hlk hct hh ha hka hcl rfl rfl hcat kk
theorem s_callS2 (C : Cx E κ cc nL own ret ht) {y : MethodName} {bytes : ByteArray} {maxL ht' index : Nat} {ret' : Option FieldType} {rest : List Value} {post' : Option Value → Mm → Prop} {x1 x2 : Value} (hd : decode cc pc = .ok (.invokestatic index, 3)) (hy : Cy y bytes maxL ret' 2) (hv : Cs y) (hlk : Lk own index y) (hct : Ct E y bytes maxL ret' ht' [x1, x2] M post') (hh : ht' + 1 ≤ ht) (hcat : (rest.map fun v => v.category).sum ≤ 8)
    (kk : ∀ r M', post' r M' → Gm E κ post nL (pc + 3) lv (r.toList ++ rest) M') : Gm E κ post nL pc lv (x2 :: x1 :: rest) M := s_callS (As := [x1, x2]) C hd hy hv hlk hct hh rfl rfl hcat kk
theorem s_callV3 (C : Cx E κ cc nL own ret ht) {y : MethodName} {bytes : ByteArray} {maxL ht' a index : Nat} {ret' : Option FieldType} {rest : List Value} {post' : Option Value → Mm → Prop} {x1 x2 x3 : Value} (hd : decode cc pc = .ok (.invokevirtual index, 3)) (hy : Cy y bytes maxL ret' 3) (hv : Cv y) (hlk : Lk own index y) (hct : Ct E y bytes maxL ret' ht' [zr E a, x1, x2, x3] M post') (hh : ht' + 1 ≤ ht) (ha : a < NID) (hka : kd a < 12) (hcl : (vwCl[kd a]?).map (fun q => q.1) = some y.cls) (hcat : (rest.map fun v => v.category).sum ≤ 8)
    (kk : ∀ r M', post' r M' → Gm E κ post nL (pc + 3) lv (r.toList ++ rest) M') : Gm E κ post nL pc lv (x3 :: x2 :: x1 :: zr E a :: rest) M := s_callV (As := [x1, x2, x3]) C hd hy hv hlk hct hh ha hka hcl rfl rfl hcat kk
theorem s_callS3 (C : Cx E κ cc nL own ret ht) {y : MethodName} {bytes : ByteArray} {maxL ht' index : Nat} {ret' : Option FieldType} {rest : List Value} {post' : Option Value → Mm → Prop} {x1 x2 x3 : Value} (hd : decode cc pc = .ok (.invokestatic index, 3)) (hy : Cy y bytes maxL ret' 3) (hv : Cs y) (hlk : Lk own index y) (hct : Ct E y bytes maxL ret' ht' [x1, x2, x3] M post') (hh : ht' + 1 ≤ ht) (hcat : (rest.map fun v => v.category).sum ≤ 8)
    (kk : ∀ r M', post' r M' → Gm E κ post nL (pc + 3) lv (r.toList ++ rest) M') : Gm E κ post nL pc lv (x3 :: x2 :: x1 :: rest) M := s_callS (As := [x1, x2, x3]) C hd hy hv hlk hct hh rfl rfl hcat kk
theorem s_callV4 (C : Cx E κ cc nL own ret ht) {y : MethodName} {bytes : ByteArray} {maxL ht' a index : Nat} {ret' : Option FieldType} {rest : List Value} {post' : Option Value → Mm → Prop} {x1 x2 x3 x4 : Value} (hd : decode cc pc = .ok (.invokevirtual index, 3)) (hy : Cy y bytes maxL ret' 4) (hv : Cv y) (hlk : Lk own index y) (hct : Ct E y bytes maxL ret' ht' [zr E a, x1, x2, x3, x4] M post') (hh : ht' + 1 ≤ ht) (ha : a < NID) (hka : kd a < 12) (hcl : (vwCl[kd a]?).map (fun q => q.1) = some y.cls) (hcat : (rest.map fun v => v.category).sum ≤ 8)
    (kk : ∀ r M', post' r M' → Gm E κ post nL (pc + 3) lv (r.toList ++ rest) M') : Gm E κ post nL pc lv (x4 :: x3 :: x2 :: x1 :: zr E a :: rest) M := s_callV (As := [x1, x2, x3, x4]) C hd hy hv hlk hct hh ha hka hcl rfl rfl hcat kk
theorem s_callS4 (C : Cx E κ cc nL own ret ht) {y : MethodName} {bytes : ByteArray} {maxL ht' index : Nat} {ret' : Option FieldType} {rest : List Value} {post' : Option Value → Mm → Prop} {x1 x2 x3 x4 : Value} (hd : decode cc pc = .ok (.invokestatic index, 3)) (hy : Cy y bytes maxL ret' 4) (hv : Cs y) (hlk : Lk own index y) (hct : Ct E y bytes maxL ret' ht' [x1, x2, x3, x4] M post') (hh : ht' + 1 ≤ ht) (hcat : (rest.map fun v => v.category).sum ≤ 8)
    (kk : ∀ r M', post' r M' → Gm E κ post nL (pc + 3) lv (r.toList ++ rest) M') : Gm E κ post nL pc lv (x4 :: x3 :: x2 :: x1 :: rest) M := s_callS (As := [x1, x2, x3, x4]) C hd hy hv hlk hct hh rfl rfl hcat kk
theorem s_callV5 (C : Cx E κ cc nL own ret ht) {y : MethodName} {bytes : ByteArray} {maxL ht' a index : Nat} {ret' : Option FieldType} {rest : List Value} {post' : Option Value → Mm → Prop} {x1 x2 x3 x4 x5 : Value} (hd : decode cc pc = .ok (.invokevirtual index, 3)) (hy : Cy y bytes maxL ret' 5) (hv : Cv y) (hlk : Lk own index y) (hct : Ct E y bytes maxL ret' ht' [zr E a, x1, x2, x3, x4, x5] M post') (hh : ht' + 1 ≤ ht) (ha : a < NID) (hka : kd a < 12) (hcl : (vwCl[kd a]?).map (fun q => q.1) = some y.cls) (hcat : (rest.map fun v => v.category).sum ≤ 8)
    (kk : ∀ r M', post' r M' → Gm E κ post nL (pc + 3) lv (r.toList ++ rest) M') : Gm E κ post nL pc lv (x5 :: x4 :: x3 :: x2 :: x1 :: zr E a :: rest) M := s_callV (As := [x1, x2, x3, x4, x5]) C hd hy hv hlk hct hh ha hka hcl rfl rfl hcat kk
theorem s_callS5 (C : Cx E κ cc nL own ret ht) {y : MethodName} {bytes : ByteArray} {maxL ht' index : Nat} {ret' : Option FieldType} {rest : List Value} {post' : Option Value → Mm → Prop} {x1 x2 x3 x4 x5 : Value} (hd : decode cc pc = .ok (.invokestatic index, 3)) (hy : Cy y bytes maxL ret' 5) (hv : Cs y) (hlk : Lk own index y) (hct : Ct E y bytes maxL ret' ht' [x1, x2, x3, x4, x5] M post') (hh : ht' + 1 ≤ ht) (hcat : (rest.map fun v => v.category).sum ≤ 8)
    (kk : ∀ r M', post' r M' → Gm E κ post nL (pc + 3) lv (r.toList ++ rest) M') : Gm E κ post nL pc lv (x5 :: x4 :: x3 :: x2 :: x1 :: rest) M := s_callS (As := [x1, x2, x3, x4, x5]) C hd hy hv hlk hct hh rfl rfl hcat kk
theorem s_callV6 (C : Cx E κ cc nL own ret ht) {y : MethodName} {bytes : ByteArray} {maxL ht' a index : Nat} {ret' : Option FieldType} {rest : List Value} {post' : Option Value → Mm → Prop} {x1 x2 x3 x4 x5 x6 : Value} (hd : decode cc pc = .ok (.invokevirtual index, 3)) (hy : Cy y bytes maxL ret' 6) (hv : Cv y) (hlk : Lk own index y) (hct : Ct E y bytes maxL ret' ht' [zr E a, x1, x2, x3, x4, x5, x6] M post') (hh : ht' + 1 ≤ ht) (ha : a < NID) (hka : kd a < 12) (hcl : (vwCl[kd a]?).map (fun q => q.1) = some y.cls) (hcat : (rest.map fun v => v.category).sum ≤ 8)
    (kk : ∀ r M', post' r M' → Gm E κ post nL (pc + 3) lv (r.toList ++ rest) M') : Gm E κ post nL pc lv (x6 :: x5 :: x4 :: x3 :: x2 :: x1 :: zr E a :: rest) M := s_callV (As := [x1, x2, x3, x4, x5, x6]) C hd hy hv hlk hct hh ha hka hcl rfl rfl hcat kk
theorem s_callS6 (C : Cx E κ cc nL own ret ht) {y : MethodName} {bytes : ByteArray} {maxL ht' index : Nat} {ret' : Option FieldType} {rest : List Value} {post' : Option Value → Mm → Prop} {x1 x2 x3 x4 x5 x6 : Value} (hd : decode cc pc = .ok (.invokestatic index, 3)) (hy : Cy y bytes maxL ret' 6) (hv : Cs y) (hlk : Lk own index y) (hct : Ct E y bytes maxL ret' ht' [x1, x2, x3, x4, x5, x6] M post') (hh : ht' + 1 ≤ ht) (hcat : (rest.map fun v => v.category).sum ≤ 8)
    (kk : ∀ r M', post' r M' → Gm E κ post nL (pc + 3) lv (r.toList ++ rest) M') : Gm E κ post nL pc lv (x6 :: x5 :: x4 :: x3 :: x2 :: x1 :: rest) M := s_callS (As := [x1, x2, x3, x4, x5, x6]) C hd hy hv hlk hct hh rfl rfl hcat kk
/-- a number answered, nothing changed -/
def pP (M : Mm) (Q : Int → Prop) : Option Value → Mm → Prop := fun r M' => ∃ z, r = some (zi z) ∧ M' = M ∧ Q z
theorem k_P {Q : Int → Prop} {rest : List Value} (kk : ∀ z, Q z → Gm E κ post nL pc lv (zi z :: rest) M) : ∀ r M', pP M Q r M' → Gm E κ post nL pc lv (r.toList ++ rest) M' := by
  rintro r M' ⟨z, rfl, rfl, h⟩
  exact kk z h
theorem s_min (C : Cx E κ cc nL own ret ht) {index : Nat} {x y : Int} (hd : decode cc pc = .ok (.invokestatic index, 3)) (hl : Cond.methodLink own index Lib.Math.min.name ∈ BG) (h1 : Cond.static Lib.Math.min.name ∈ BG) (h2 : Cond.initialized "java/lang/Math" ∈ BG) (h3 : Cond.code Lib.Math.min.name Lib.Math.min.code 2 (some .int) ∈ BG) (hh : 1 ≤ ht) (hcat : (st.map fun v => v.category).sum ≤ 8) (hx : rg x) (hy : rg y) (k : Gm E κ post nL (pc + 3) lv (zi (if y < x then y else x) :: st) M) : Gm E κ post nL pc lv (zi y :: zi x :: st) M := by
  intro ls H locs h hP hS
  obtain ⟨hx0, hb, hml, hown, hts, hKw, hD, hr, hlks, hR⟩ := C
  refine va_mmin hx0 hb (by rw [hml, h.1]) hown (hts _ hl) (hts _ h1) (hts _ h2) (hts _ h3) (by rw [hR]; exact hh) (by rw [hR]; simp only [rmH]; omega) (by rw [hR]; exact Nat.zero_le _) (by rw [hR]; exact Nat.zero_le _) hd ?_
  have e : (if Int32.ofInt y < Int32.ofInt x then Int32.ofInt y else Int32.ofInt x) = Int32.ofInt (if y < x then y else x) := by
    by_cases c : y < x
    · rw [if_pos ((ofInt_lt hy hx).mpr c), if_pos c]
    · rw [if_neg (fun q => c ((ofInt_lt hy hx).mp q)), if_neg c]
  rw [e]
  exact k ls H locs h hP hS
end FC
