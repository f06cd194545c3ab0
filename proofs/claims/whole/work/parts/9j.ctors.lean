/-! CONSTRUCTORS -/
def CtB (E : Ev) (base : Nat) (y : MethodName) (cc : ByteArray) (nL ht mc ms : Nat) (args : List Value) (L L' : List va_E) : Prop :=
  Met E.1 y (.code y cc nL none :: BG) (rmB ht mc ms) (va_Pc args (fun U => Bw E base L U.heap ∧ Kw E U)) (va_Qv (fun _ : Unit => True) (fun _ t => Bw E base L' t.heap) (fun q => base ≤ q)) mc ms (fun q => base ≤ q)
abbrev Qb (E : Ev) (base : Nat) (κ : Kp) (mc ms : Nat) (L' : List va_E) : State → Prop := MQ κ.2.2.2.2.2.2.1 (va_Qv (fun _ : Unit => True) (fun _ t => Bw E base L' t.heap) (fun q => base ≤ q)) κ.2.2.2.2.2.1 (kS κ) mc ms (fun q => base ≤ q)
theorem CtB.of {E : Ev} {base : Nat} {y : MethodName} {cc : ByteArray} {nL ht mc ms : Nat} {args : List Value} {L L' : List va_E} {own : String} {lv0 : List (Option Value)} (hB : Bb E base) (hy : plainName y.cls = true) (hown : y.cls = own) (hnm : y.name = "<init>") (hn : (lg_sl args).length ≤ nL) (hlv : ent args nL = lv0)
    (body : ∀ κ : Kp, Bx E base κ cc nL own (rmB ht mc ms) → κ.2.2.2.2.2.2.2.1.name = "<init>" → κ.2.2.2.2.2.2.2.1.sig.returnType = none → κ.2.2.2.2.2.2.2.1.locks = false → Gb E base κ (Qb E base κ mc ms L') nL 0 lv0 [] L 0 0) : CtB E base y cc nL ht mc ms args L L' := by
  refine Met.ofW (cc := cc) (maxL := nL) (ret := none) hy rfl ?_
  intro p e s m args' below meth c s₁ B hml hv
  obtain ⟨rfl, hP, hKw⟩ := hv
  subst hown; subst hlv
  have hts := atoms_spec (ws := .code y cc nL none :: BG) B.pre
  have hin : meth.name = "<init>" := (name_of_methodNamed B.named B.method).1.trans hnm
  have G := body (p, e, rmB ht mc ms, s, m, args.toArray, below, meth, c) ⟨B.exec, B.bytes, hml, findClass_of_methodNamed B.named, fun w hw => hts w (List.mem_cons_of_mem _ hw), hKw, hB, by show base ≤ s.heap.size; rw [hP.1]; omega, rfl⟩ hin B.returns B.notSynchronized
  rw [lg_entry_eq]
  exact G _ s.heap [] (Lh_ent hn) hP va_S.rf
section FD
variable {E : Ev} {base : Nat} {κ : Kp} {Q : State → Prop} {cc : ByteArray} {nL : Nat} {own : String} {R : Room} {pc : Nat} {lv : List (Option Value)} {st : List Value} {L : List va_E} {cells slots : Nat}
theorem b_ret {mc ms : Nat} {L' : List va_E} (C : Bx E base κ cc nL own R) (hr : κ.2.2.2.2.2.2.2.1.sig.returnType = none) (hlk : κ.2.2.2.2.2.2.2.1.locks = false) (hd : decode cc pc = .ok (.return_, 1)) (hc : cells = mc) (hs : slots = ms) (hL : L = L') : Gb E base κ (Qb E base κ mc ms L') nL pc lv [] L cells slots := by
  intro ls H locs hl hP hS
  obtain ⟨hx, hb, hml, hown, hts, hKw, hB, hsz, hR⟩ := C
  subst hc; subst hs; subst hL
  exact W.vret hx hb hr (fun t ht _ => ⟨⟨(), rfl, trivial, by show Bw E base L t.heap; rw [ht]; exact hP⟩, hS.F ht⟩) (fun q hq => hS.2.2 q hq) hd
theorem blindB {args : List Value} : FrameBlind (va_Pc args (fun U => Bw E base L U.heap ∧ Kw E U)) := by
  intro a U g mk q
  obtain ⟨q0, q1, q3⟩ := q
  exact ⟨q0, q1, ⟨va_K.moved (u := U) (U := U.calling g mk a) (Vm.Alike.refl U.vm) q3.1, NW_same (s := U) (U := U.calling g mk a) rfl q3.2⟩⟩
theorem b_callI (C : Bx E base κ cc nL own R) {y : MethodName} {bytes : ByteArray} {maxL n ht' mc ms index a : Nat} {As rest : List Value} {L1 : List va_E} (hd : decode cc pc = .ok (.invokespecial index, 3)) (hy : Cy y bytes maxL none n) (hi : Cond.instanceMethod y ∈ BG) (hnm : y.name = "<init>") (hlk : Lk own index y) (hct : CtB E base y bytes maxL ht' mc ms (.ref a :: As) L L1) (hf : ht' + 1 ≤ R.frames ∧ 8 + (maxL + 11) + 40 * ht' ≤ R.locals) (hn : As.length = n) (hst : st = As.reverse ++ .ref a :: rest) (hcat : (rest.map fun v => v.category).sum ≤ 8) (hc : cells + mc ≤ R.cells) (hs : slots + ms ≤ R.slots)
    (kk : Gb E base κ Q nL (pc + 3) lv rest L1 (cells + mc) (slots + ms)) : Gb E base κ Q nL pc lv st L cells slots := by
  intro ls H locs hl hP hS
  obtain ⟨hx, hb, hml, hown, hts, hKw, hB, hsz, hR⟩ := C
  obtain ⟨y1, y2, y3, y4⟩ := hy
  subst hR
  have hpre : PreS (kS κ) H (va_Pc (.ref a :: As) (fun U => Bw E base L U.heap ∧ Kw E U)) (.ref a :: As) :=
    ⟨blindB, fun U hU hW => ⟨rfl, by rw [hU]; exact hP, hKw.warm hW⟩⟩
  have run : va_Run κ.1 E.1 κ.2.1 κ.2.2.1 (kS κ) κ.2.2.2.2.1 κ.2.2.2.2.2.1 κ.2.2.2.2.2.2.1 κ.2.2.2.2.2.2.2.1 κ.2.2.2.2.2.2.2.2 H locs cells slots mc ms (F0 κ.2.2.2.2.1 pc ls st) rest (va_Qv (fun _ : Unit => True) (fun _ t => Bw E base L1 t.heap) (fun q => base ≤ q) (Value.ref a :: As).toArray) (fun q => base ≤ q) := by
    rcases hlk with h | ⟨host, h⟩
    · exact va_runI (As := As) (rest := rest) ⟨hx, hb, hml, hown, hts⟩ hct (cwI n hts (goodBG y1) rfl rfl rfl (hts _ y2) (hts _ h) (hts _ hi) hnm y3 hf) hpre rfl hn hl.1 hst (lv_room hcat) hd ⟨hc, hs⟩
    · exact va_runIN (As := As) (rest := rest) ⟨hx, hb, hml, hown, hts⟩ hct ⟨va_cnB (ws := .code y bytes maxL none :: BG) (ws' := BG) n hts (goodBG y1) rfl rfl rfl (hKw.2 _ h) (hts _ y2) y3 hf, hnm, hts _ hi⟩ hpre rfl hn hl.1 hst (lv_room hcat) hd ⟨hc, hs⟩
  exact va_callv run hS (fun q _ h => h) (fun q h => h) (fun _ t H1 locs1 ht _ _ hBt _ _ hS1 => kk ls H1 locs1 hl (by rw [← ht]; exact hBt) hS1)
/-- an array is made and put into the object that is built -/
theorem b_arr (C : Bx E base κ cc nL own R) (hin0 : κ.2.2.2.2.2.2.2.1.name = "<init>") {P rest : List va_E} {fs : List Value} {o N t0 index ci k a w : Nat} {z : Int} {atype : ArrayType} {ty t : FieldType} {cA : ClassId} {a0 : vp_A} (ho : P.length = o) (hd : decode cc pc = .ok (.newarray atype, 2)) (hd2 : decode cc (pc + 2) = .ok (.putfield index, 3)) (hty : newarray.typeOf atype = ty) (harr : Cond.arrayClass ty ∈ BG) (ht : (tyE E)[t0]? = some (cA, ty)) (hra : ∀ U : State, va_RA U cA ty → U.vm.findClass ("[" ++ ty.toString) = some cA) (ha : vp_cell cA a0 = arrV cA N (fun _ => defaultValue ty)) (hn : ¬ Int32.ofInt z < 0) (hN : (Int32.ofInt z).toNatClampNeg = N) (hby : N * componentBytes ty ≤ 536870912) (hc : cells + 1 ≤ R.cells) (hs : slots + N ≤ R.slots)
    (hF : Fq own index ci k t) (hoa : aD E o = a) (hw : aD E (o + (1 + rest.length)) = w) (hlen : k < fs.length) (hnr : narrow t (.ref w) = .ref w) (hft : fits t (.ref w) = true)
    (kk : Gb E base κ Q nL (pc + 5) lv st (P ++ (.inr (ci, fs.set k (.ref w)) :: (rest ++ [.inl (cA, a0)]))) (cells + 1) (slots + N)) : Gb E base κ Q nL pc lv (zi z :: .ref a :: st) (P ++ (.inr (ci, fs) :: rest)) cells slots := by
  subst ho
  refine b_newa C hd hty harr ht hra ha hn hN hby hc hs (v := w) (by rw [← hw, List.length_append, List.length_cons, Nat.add_comm 1]) ?_
  refine b_put (o := P.length) (fs := fs) C hd2 hin0 hF hoa (by rw [List.append_assoc, List.getElem?_append_right (Nat.le_refl _), Nat.sub_self]; rfl) hlen hnr hft ?_
  have e : ((P ++ ((Sum.inr (ci, fs) : va_E) :: rest)) ++ [(Sum.inl (cA, a0) : va_E)]).set P.length (Sum.inr (ci, fs.set k (.ref w)) : va_E) = P ++ ((Sum.inr (ci, fs.set k (.ref w)) : va_E) :: (rest ++ [(Sum.inl (cA, a0) : va_E)])) := by
    rw [List.append_assoc, List.set_append_right _ _ (Nat.le_refl _), Nat.sub_self]; rfl
  rw [e]
  exact kk
/-- a number is put into the object that is built -/
theorem b_num (C : Bx E base κ cc nL own R) (hin0 : κ.2.2.2.2.2.2.2.1.name = "<init>") {P rest : List va_E} {fs : List Value} {o index ci k a : Nat} {v : Value} {t : FieldType} (ho : P.length = o) (hd : decode cc pc = .ok (.putfield index, 3)) (hF : Fq own index ci k t) (hoa : aD E o = a) (hlen : k < fs.length) (hnr : narrow t v = v) (hft : fits t v = true)
    (kk : Gb E base κ Q nL (pc + 3) lv st (P ++ (.inr (ci, fs.set k v) :: rest)) cells slots) : Gb E base κ Q nL pc lv (v :: .ref a :: st) (P ++ (.inr (ci, fs) :: rest)) cells slots := by
  subst ho
  refine b_put (o := P.length) (fs := fs) C hd hin0 hF hoa (by rw [List.getElem?_append_right (Nat.le_refl _), Nat.sub_self]; rfl) hlen hnr hft ?_
  rw [List.set_append_right _ _ (Nat.le_refl _), Nat.sub_self]
  exact kk
end FD
theorem oi_2 : Cond.instanceMethod Lib.objectInit ∈ BG := bg_of 122 rfl rfl
theorem oi_3 : Cond.code Lib.objectInit ⟨#[0xb1]⟩ 1 none ∈ BG := bg_of 123 rfl rfl
theorem ar_i : Cond.arrayClass .int ∈ BG := bg_of 141 rfl rfl
theorem ar_l : Cond.arrayClass .long ∈ BG := bg_of 289 rfl rfl
set_option maxRecDepth 100000 in
theorem ar_b : Cond.arrayClass .byte ∈ BG := bg_of 1086 rfl rfl
set_option maxRecDepth 100000 in
theorem ar_z : Cond.arrayClass .boolean ∈ BG := bg_of 1087 rfl rfl
theorem fq_X0_9 : Fq RX0 9 0 0 (.array .int) := ⟨TX0, tyX0, cl_X0, by decide, rfl, bg_of 343 rfl rfl, by decide +kernel⟩
theorem fq_X0_15 : Fq RX0 15 0 1 (.array .int) := ⟨TX0, tyX0, cl_X0, by decide, rfl, bg_of 345 rfl rfl, by decide +kernel⟩
theorem fq_X0_18 : Fq RX0 18 0 2 (.array .int) := ⟨TX0, tyX0, cl_X0, by decide, rfl, bg_of 347 rfl rfl, by decide +kernel⟩
theorem fq_X0_21 : Fq RX0 21 0 3 (.array .int) := ⟨TX0, tyX0, cl_X0, by decide, rfl, bg_of 349 rfl rfl, by decide +kernel⟩
theorem fq_X0_24 : Fq RX0 24 0 4 .int := ⟨TX0, tyX0, cl_X0, by decide, rfl, bg_of 351 rfl rfl, by decide +kernel⟩
set_option maxRecDepth 20000 in
set_option maxHeartbeats 4000000 in
theorem cb_X0 {E : Ev} {base : Nat} (hB : Bb E base) (P : List va_E) (o : Nat) (ho : P.length = o) : CtB E base yX0_init cX0_init 1 1 4 96 [.ref (aD E o)] (P ++ [.inr (0, [.null, .null, .null, .null, zi 0])]) (P ++ [.inr (0, [.ref (aD E (o + 1)), .ref (aD E (o + 2)), .ref (aD E (o + 3)), .ref (aD E (o + 4)), zi (-1)]), .inl (cY E 20, 24, .inl (fun _ => 0)), .inl (cY E 20, 24, .inl (fun _ => 0)), .inl (cY E 20, 24, .inl (fun _ => 0)), .inl (cY E 20, 24, .inl (fun _ => 0))]) := by
  refine CtB.of (own := RX0) (lv0 := [some (.ref (aD E o))]) hB (by decide) rfl rfl (Nat.le_of_ble_eq_true rfl) rfl (fun κ C hin hr hlk => ?_)
  refine b_aload (v := aD E o) C dX0_init_0 rfl ?_
  refine b_objInit C dX0_init_1 (bg_of 342 rfl rfl) oi_2 oi_3 (by decide) (by decide) ?_
  refine b_aload (v := aD E o) C dX0_init_4 rfl ?_
  refine b_bipush C dX0_init_5 (by decide) ?_
  refine b_arr (P := P) (t0 := 0) (N := 24) (ty := .int) (a0 := (24, .inl (fun _ => 0))) (w := aD E (o + 1)) C hin ho dX0_init_7 dX0_init_9 rfl ar_i rfl (fun _ h => h) rfl (by decide) (by decide) (by decide) (by decide) (by decide) fq_X0_9 rfl rfl (Nat.le_of_ble_eq_true rfl) rfl rfl ?_
  refine b_aload (v := aD E o) C dX0_init_12 rfl ?_
  refine b_bipush C dX0_init_13 (by decide) ?_
  refine b_arr (P := P) (t0 := 0) (N := 24) (ty := .int) (a0 := (24, .inl (fun _ => 0))) (w := aD E (o + 2)) C hin ho dX0_init_15 dX0_init_17 rfl ar_i rfl (fun _ h => h) rfl (by decide) (by decide) (by decide) (by decide) (by decide) fq_X0_15 rfl rfl (Nat.le_of_ble_eq_true rfl) rfl rfl ?_
  refine b_aload (v := aD E o) C dX0_init_20 rfl ?_
  refine b_bipush C dX0_init_21 (by decide) ?_
  refine b_arr (P := P) (t0 := 0) (N := 24) (ty := .int) (a0 := (24, .inl (fun _ => 0))) (w := aD E (o + 3)) C hin ho dX0_init_23 dX0_init_25 rfl ar_i rfl (fun _ h => h) rfl (by decide) (by decide) (by decide) (by decide) (by decide) fq_X0_18 rfl rfl (Nat.le_of_ble_eq_true rfl) rfl rfl ?_
  refine b_aload (v := aD E o) C dX0_init_28 rfl ?_
  refine b_bipush C dX0_init_29 (by decide) ?_
  refine b_arr (P := P) (t0 := 0) (N := 24) (ty := .int) (a0 := (24, .inl (fun _ => 0))) (w := aD E (o + 4)) C hin ho dX0_init_31 dX0_init_33 rfl ar_i rfl (fun _ h => h) rfl (by decide) (by decide) (by decide) (by decide) (by decide) fq_X0_21 rfl rfl (Nat.le_of_ble_eq_true rfl) rfl rfl ?_
  refine b_aload (v := aD E o) C dX0_init_36 rfl ?_
  refine b_iconst C dX0_init_37 ?_
  refine b_num (P := P) C hin ho dX0_init_38 fq_X0_24 rfl (Nat.le_of_ble_eq_true rfl) rfl rfl ?_
  exact b_ret C hr hlk dX0_init_41 rfl rfl rfl
theorem fq_X1_11 : Fq RX1 11 1 0 (.array .int) := ⟨TX1, tyX1, cl_X1, by decide, rfl, bg_of 316 rfl rfl, by decide +kernel⟩
theorem fq_X1_15 : Fq RX1 15 1 1 (.array .int) := ⟨TX1, tyX1, cl_X1, by decide, rfl, bg_of 318 rfl rfl, by decide +kernel⟩
theorem fq_X1_18 : Fq RX1 18 1 2 (.array .int) := ⟨TX1, tyX1, cl_X1, by decide, rfl, bg_of 320 rfl rfl, by decide +kernel⟩
theorem fq_X1_21 : Fq RX1 21 1 3 (.array .int) := ⟨TX1, tyX1, cl_X1, by decide, rfl, bg_of 321 rfl rfl, by decide +kernel⟩
theorem fq_X1_24 : Fq RX1 24 1 4 (.array .long) := ⟨TX1, tyX1, cl_X1, by decide, rfl, bg_of 322 rfl rfl, by decide +kernel⟩
theorem fq_X1_28 : Fq RX1 28 1 5 (.array .long) := ⟨TX1, tyX1, cl_X1, by decide, rfl, bg_of 323 rfl rfl, by decide +kernel⟩
set_option maxRecDepth 20000 in
set_option maxHeartbeats 4000000 in
theorem cb_X1 {E : Ev} {base : Nat} (hB : Bb E base) (P : List va_E) (o : Nat) (ho : P.length = o) : CtB E base yX1_init cX1_init 1 1 6 5212 [.ref (aD E o)] (P ++ [.inr (1, [.null, .null, .null, .null, .null, .null])]) (P ++ [.inr (1, [.ref (aD E (o + 1)), .ref (aD E (o + 2)), .ref (aD E (o + 3)), .ref (aD E (o + 4)), .ref (aD E (o + 5)), .ref (aD E (o + 6))]), .inl (cY E 20, 576, .inl (fun _ => 0)), .inl (cY E 20, 24, .inl (fun _ => 0)), .inl (cY E 20, 1153, .inl (fun _ => 0)), .inl (cY E 20, 1153, .inl (fun _ => 0)), .inl (cY E 21, 1153, .inr (.inl (fun _ => 0))), .inl (cY E 21, 1153, .inr (.inl (fun _ => 0)))]) := by
  refine CtB.of (own := RX1) (lv0 := [some (.ref (aD E o))]) hB (by decide) rfl rfl (Nat.le_of_ble_eq_true rfl) rfl (fun κ C hin hr hlk => ?_)
  refine b_aload (v := aD E o) C dX1_init_0 rfl ?_
  refine b_objInit C dX1_init_1 (bg_of 315 rfl rfl) oi_2 oi_3 (by decide) (by decide) ?_
  refine b_aload (v := aD E o) C dX1_init_4 rfl ?_
  refine b_sipush C dX1_init_5 (by decide) ?_
  refine b_arr (P := P) (t0 := 0) (N := 576) (ty := .int) (a0 := (576, .inl (fun _ => 0))) (w := aD E (o + 1)) C hin ho dX1_init_8 dX1_init_10 rfl ar_i rfl (fun _ h => h) rfl (by decide) (by decide) (by decide) (by decide) (by decide) fq_X1_11 rfl rfl (Nat.le_of_ble_eq_true rfl) rfl rfl ?_
  refine b_aload (v := aD E o) C dX1_init_13 rfl ?_
  refine b_bipush C dX1_init_14 (by decide) ?_
  refine b_arr (P := P) (t0 := 0) (N := 24) (ty := .int) (a0 := (24, .inl (fun _ => 0))) (w := aD E (o + 2)) C hin ho dX1_init_16 dX1_init_18 rfl ar_i rfl (fun _ h => h) rfl (by decide) (by decide) (by decide) (by decide) (by decide) fq_X1_15 rfl rfl (Nat.le_of_ble_eq_true rfl) rfl rfl ?_
  refine b_aload (v := aD E o) C dX1_init_21 rfl ?_
  refine b_sipush C dX1_init_22 (by decide) ?_
  refine b_arr (P := P) (t0 := 0) (N := 1153) (ty := .int) (a0 := (1153, .inl (fun _ => 0))) (w := aD E (o + 3)) C hin ho dX1_init_25 dX1_init_27 rfl ar_i rfl (fun _ h => h) rfl (by decide) (by decide) (by decide) (by decide) (by decide) fq_X1_18 rfl rfl (Nat.le_of_ble_eq_true rfl) rfl rfl ?_
  refine b_aload (v := aD E o) C dX1_init_30 rfl ?_
  refine b_sipush C dX1_init_31 (by decide) ?_
  refine b_arr (P := P) (t0 := 0) (N := 1153) (ty := .int) (a0 := (1153, .inl (fun _ => 0))) (w := aD E (o + 4)) C hin ho dX1_init_34 dX1_init_36 rfl ar_i rfl (fun _ h => h) rfl (by decide) (by decide) (by decide) (by decide) (by decide) fq_X1_21 rfl rfl (Nat.le_of_ble_eq_true rfl) rfl rfl ?_
  refine b_aload (v := aD E o) C dX1_init_39 rfl ?_
  refine b_sipush C dX1_init_40 (by decide) ?_
  refine b_arr (P := P) (t0 := 1) (N := 1153) (ty := .long) (a0 := (1153, .inr (.inl (fun _ => 0)))) (w := aD E (o + 5)) C hin ho dX1_init_43 dX1_init_45 rfl ar_l rfl (fun _ h => h) rfl (by decide) (by decide) (by decide) (by decide) (by decide) fq_X1_24 rfl rfl (Nat.le_of_ble_eq_true rfl) rfl rfl ?_
  refine b_aload (v := aD E o) C dX1_init_48 rfl ?_
  refine b_sipush C dX1_init_49 (by decide) ?_
  refine b_arr (P := P) (t0 := 1) (N := 1153) (ty := .long) (a0 := (1153, .inr (.inl (fun _ => 0)))) (w := aD E (o + 6)) C hin ho dX1_init_52 dX1_init_54 rfl ar_l rfl (fun _ h => h) rfl (by decide) (by decide) (by decide) (by decide) (by decide) fq_X1_28 rfl rfl (Nat.le_of_ble_eq_true rfl) rfl rfl ?_
  exact b_ret C hr hlk dX1_init_57 rfl rfl rfl
theorem fq_X2_9 : Fq RX2 9 2 0 (.array .int) := ⟨TX2, tyX2, cl_X2, by decide, rfl, bg_of 258 rfl rfl, by decide +kernel⟩
theorem fq_X2_15 : Fq RX2 15 2 1 (.array .int) := ⟨TX2, tyX2, cl_X2, by decide, rfl, bg_of 260 rfl rfl, by decide +kernel⟩
theorem fq_X2_18 : Fq RX2 18 2 2 (.array .int) := ⟨TX2, tyX2, cl_X2, by decide, rfl, bg_of 262 rfl rfl, by decide +kernel⟩
theorem fq_X2_21 : Fq RX2 21 2 3 (.array .long) := ⟨TX2, tyX2, cl_X2, by decide, rfl, bg_of 264 rfl rfl, by decide +kernel⟩
theorem fq_X2_25 : Fq RX2 25 2 4 (.array .int) := ⟨TX2, tyX2, cl_X2, by decide, rfl, bg_of 265 rfl rfl, by decide +kernel⟩
theorem fq_X2_28 : Fq RX2 28 2 5 (.array .int) := ⟨TX2, tyX2, cl_X2, by decide, rfl, bg_of 266 rfl rfl, by decide +kernel⟩
theorem fq_X2_31 : Fq RX2 31 2 6 (.array .int) := ⟨TX2, tyX2, cl_X2, by decide, rfl, bg_of 267 rfl rfl, by decide +kernel⟩
theorem fq_X2_34 : Fq RX2 34 2 7 (.array .int) := ⟨TX2, tyX2, cl_X2, by decide, rfl, bg_of 268 rfl rfl, by decide +kernel⟩
set_option maxRecDepth 20000 in
set_option maxHeartbeats 4000000 in
theorem cb_X2 {E : Ev} {base : Nat} (hB : Bb E base) (P : List va_E) (o : Nat) (ho : P.length = o) : CtB E base yX2_init cX2_init 1 1 8 4120 [.ref (aD E o)] (P ++ [.inr (2, [.null, .null, .null, .null, .null, .null, .null, .null, zi 0])]) (P ++ [.inr (2, [.ref (aD E (o + 1)), .ref (aD E (o + 2)), .ref (aD E (o + 3)), .ref (aD E (o + 4)), .ref (aD E (o + 5)), .ref (aD E (o + 6)), .ref (aD E (o + 7)), .ref (aD E (o + 8)), zi 0]), .inl (cY E 20, 24, .inl (fun _ => 0)), .inl (cY E 20, 24, .inl (fun _ => 0)), .inl (cY E 20, 576, .inl (fun _ => 0)), .inl (cY E 21, 360, .inr (.inl (fun _ => 0))), .inl (cY E 20, 960, .inl (fun _ => 0)), .inl (cY E 20, 960, .inl (fun _ => 0)), .inl (cY E 20, 960, .inl (fun _ => 0)), .inl (cY E 20, 256, .inl (fun _ => 0))]) := by
  refine CtB.of (own := RX2) (lv0 := [some (.ref (aD E o))]) hB (by decide) rfl rfl (Nat.le_of_ble_eq_true rfl) rfl (fun κ C hin hr hlk => ?_)
  refine b_aload (v := aD E o) C dX2_init_0 rfl ?_
  refine b_objInit C dX2_init_1 (bg_of 257 rfl rfl) oi_2 oi_3 (by decide) (by decide) ?_
  refine b_aload (v := aD E o) C dX2_init_4 rfl ?_
  refine b_bipush C dX2_init_5 (by decide) ?_
  refine b_arr (P := P) (t0 := 0) (N := 24) (ty := .int) (a0 := (24, .inl (fun _ => 0))) (w := aD E (o + 1)) C hin ho dX2_init_7 dX2_init_9 rfl ar_i rfl (fun _ h => h) rfl (by decide) (by decide) (by decide) (by decide) (by decide) fq_X2_9 rfl rfl (Nat.le_of_ble_eq_true rfl) rfl rfl ?_
  refine b_aload (v := aD E o) C dX2_init_12 rfl ?_
  refine b_bipush C dX2_init_13 (by decide) ?_
  refine b_arr (P := P) (t0 := 0) (N := 24) (ty := .int) (a0 := (24, .inl (fun _ => 0))) (w := aD E (o + 2)) C hin ho dX2_init_15 dX2_init_17 rfl ar_i rfl (fun _ h => h) rfl (by decide) (by decide) (by decide) (by decide) (by decide) fq_X2_15 rfl rfl (Nat.le_of_ble_eq_true rfl) rfl rfl ?_
  refine b_aload (v := aD E o) C dX2_init_20 rfl ?_
  refine b_sipush C dX2_init_21 (by decide) ?_
  refine b_arr (P := P) (t0 := 0) (N := 576) (ty := .int) (a0 := (576, .inl (fun _ => 0))) (w := aD E (o + 3)) C hin ho dX2_init_24 dX2_init_26 rfl ar_i rfl (fun _ h => h) rfl (by decide) (by decide) (by decide) (by decide) (by decide) fq_X2_18 rfl rfl (Nat.le_of_ble_eq_true rfl) rfl rfl ?_
  refine b_aload (v := aD E o) C dX2_init_29 rfl ?_
  refine b_sipush C dX2_init_30 (by decide) ?_
  refine b_arr (P := P) (t0 := 1) (N := 360) (ty := .long) (a0 := (360, .inr (.inl (fun _ => 0)))) (w := aD E (o + 4)) C hin ho dX2_init_33 dX2_init_35 rfl ar_l rfl (fun _ h => h) rfl (by decide) (by decide) (by decide) (by decide) (by decide) fq_X2_21 rfl rfl (Nat.le_of_ble_eq_true rfl) rfl rfl ?_
  refine b_aload (v := aD E o) C dX2_init_38 rfl ?_
  refine b_sipush C dX2_init_39 (by decide) ?_
  refine b_arr (P := P) (t0 := 0) (N := 960) (ty := .int) (a0 := (960, .inl (fun _ => 0))) (w := aD E (o + 5)) C hin ho dX2_init_42 dX2_init_44 rfl ar_i rfl (fun _ h => h) rfl (by decide) (by decide) (by decide) (by decide) (by decide) fq_X2_25 rfl rfl (Nat.le_of_ble_eq_true rfl) rfl rfl ?_
  refine b_aload (v := aD E o) C dX2_init_47 rfl ?_
  refine b_sipush C dX2_init_48 (by decide) ?_
  refine b_arr (P := P) (t0 := 0) (N := 960) (ty := .int) (a0 := (960, .inl (fun _ => 0))) (w := aD E (o + 6)) C hin ho dX2_init_51 dX2_init_53 rfl ar_i rfl (fun _ h => h) rfl (by decide) (by decide) (by decide) (by decide) (by decide) fq_X2_28 rfl rfl (Nat.le_of_ble_eq_true rfl) rfl rfl ?_
  refine b_aload (v := aD E o) C dX2_init_56 rfl ?_
  refine b_sipush C dX2_init_57 (by decide) ?_
  refine b_arr (P := P) (t0 := 0) (N := 960) (ty := .int) (a0 := (960, .inl (fun _ => 0))) (w := aD E (o + 7)) C hin ho dX2_init_60 dX2_init_62 rfl ar_i rfl (fun _ h => h) rfl (by decide) (by decide) (by decide) (by decide) (by decide) fq_X2_31 rfl rfl (Nat.le_of_ble_eq_true rfl) rfl rfl ?_
  refine b_aload (v := aD E o) C dX2_init_65 rfl ?_
  refine b_sipush C dX2_init_66 (by decide) ?_
  refine b_arr (P := P) (t0 := 0) (N := 256) (ty := .int) (a0 := (256, .inl (fun _ => 0))) (w := aD E (o + 8)) C hin ho dX2_init_69 dX2_init_71 rfl ar_i rfl (fun _ h => h) rfl (by decide) (by decide) (by decide) (by decide) (by decide) fq_X2_34 rfl rfl (Nat.le_of_ble_eq_true rfl) rfl rfl ?_
  exact b_ret C hr hlk dX2_init_74 rfl rfl rfl
theorem fq_X3_9 : Fq RX3 9 3 0 (.array .int) := ⟨TX3, tyX3, cl_X3, by decide, rfl, bg_of 389 rfl rfl, by decide +kernel⟩
theorem fq_X3_15 : Fq RX3 15 3 1 (.array .int) := ⟨TX3, tyX3, cl_X3, by decide, rfl, bg_of 391 rfl rfl, by decide +kernel⟩
theorem fq_X3_18 : Fq RX3 18 3 2 (.array .int) := ⟨TX3, tyX3, cl_X3, by decide, rfl, bg_of 393 rfl rfl, by decide +kernel⟩
theorem fq_X3_21 : Fq RX3 21 3 3 (.array .int) := ⟨TX3, tyX3, cl_X3, by decide, rfl, bg_of 395 rfl rfl, by decide +kernel⟩
theorem fq_X3_24 : Fq RX3 24 3 4 (.array .int) := ⟨TX3, tyX3, cl_X3, by decide, rfl, bg_of 396 rfl rfl, by decide +kernel⟩
theorem fq_X3_27 : Fq RX3 27 3 5 (.array .int) := ⟨TX3, tyX3, cl_X3, by decide, rfl, bg_of 397 rfl rfl, by decide +kernel⟩
theorem fq_X3_30 : Fq RX3 30 3 6 (.array .int) := ⟨TX3, tyX3, cl_X3, by decide, rfl, bg_of 399 rfl rfl, by decide +kernel⟩
set_option maxRecDepth 20000 in
set_option maxHeartbeats 4000000 in
theorem cb_X3 {E : Ev} {base : Nat} (hB : Bb E base) (P : List va_E) (o : Nat) (ho : P.length = o) : CtB E base yX3_init cX3_init 1 1 7 1084 [.ref (aD E o)] (P ++ [.inr (3, [.null, .null, .null, .null, .null, .null, .null, zi 0, zi 0, zi 0])]) (P ++ [.inr (3, [.ref (aD E (o + 1)), .ref (aD E (o + 2)), .ref (aD E (o + 3)), .ref (aD E (o + 4)), .ref (aD E (o + 5)), .ref (aD E (o + 6)), .ref (aD E (o + 7)), zi 0, zi 0, zi 0]), .inl (cY E 20, 10, .inl (fun _ => 0)), .inl (cY E 20, 10, .inl (fun _ => 0)), .inl (cY E 20, 10, .inl (fun _ => 0)), .inl (cY E 20, 10, .inl (fun _ => 0)), .inl (cY E 20, 1024, .inl (fun _ => 0)), .inl (cY E 20, 10, .inl (fun _ => 0)), .inl (cY E 20, 10, .inl (fun _ => 0))]) := by
  refine CtB.of (own := RX3) (lv0 := [some (.ref (aD E o))]) hB (by decide) rfl rfl (Nat.le_of_ble_eq_true rfl) rfl (fun κ C hin hr hlk => ?_)
  refine b_aload (v := aD E o) C dX3_init_0 rfl ?_
  refine b_objInit C dX3_init_1 (bg_of 388 rfl rfl) oi_2 oi_3 (by decide) (by decide) ?_
  refine b_aload (v := aD E o) C dX3_init_4 rfl ?_
  refine b_bipush C dX3_init_5 (by decide) ?_
  refine b_arr (P := P) (t0 := 0) (N := 10) (ty := .int) (a0 := (10, .inl (fun _ => 0))) (w := aD E (o + 1)) C hin ho dX3_init_7 dX3_init_9 rfl ar_i rfl (fun _ h => h) rfl (by decide) (by decide) (by decide) (by decide) (by decide) fq_X3_9 rfl rfl (Nat.le_of_ble_eq_true rfl) rfl rfl ?_
  refine b_aload (v := aD E o) C dX3_init_12 rfl ?_
  refine b_bipush C dX3_init_13 (by decide) ?_
  refine b_arr (P := P) (t0 := 0) (N := 10) (ty := .int) (a0 := (10, .inl (fun _ => 0))) (w := aD E (o + 2)) C hin ho dX3_init_15 dX3_init_17 rfl ar_i rfl (fun _ h => h) rfl (by decide) (by decide) (by decide) (by decide) (by decide) fq_X3_15 rfl rfl (Nat.le_of_ble_eq_true rfl) rfl rfl ?_
  refine b_aload (v := aD E o) C dX3_init_20 rfl ?_
  refine b_bipush C dX3_init_21 (by decide) ?_
  refine b_arr (P := P) (t0 := 0) (N := 10) (ty := .int) (a0 := (10, .inl (fun _ => 0))) (w := aD E (o + 3)) C hin ho dX3_init_23 dX3_init_25 rfl ar_i rfl (fun _ h => h) rfl (by decide) (by decide) (by decide) (by decide) (by decide) fq_X3_18 rfl rfl (Nat.le_of_ble_eq_true rfl) rfl rfl ?_
  refine b_aload (v := aD E o) C dX3_init_28 rfl ?_
  refine b_bipush C dX3_init_29 (by decide) ?_
  refine b_arr (P := P) (t0 := 0) (N := 10) (ty := .int) (a0 := (10, .inl (fun _ => 0))) (w := aD E (o + 4)) C hin ho dX3_init_31 dX3_init_33 rfl ar_i rfl (fun _ h => h) rfl (by decide) (by decide) (by decide) (by decide) (by decide) fq_X3_21 rfl rfl (Nat.le_of_ble_eq_true rfl) rfl rfl ?_
  refine b_aload (v := aD E o) C dX3_init_36 rfl ?_
  refine b_sipush C dX3_init_37 (by decide) ?_
  refine b_arr (P := P) (t0 := 0) (N := 1024) (ty := .int) (a0 := (1024, .inl (fun _ => 0))) (w := aD E (o + 5)) C hin ho dX3_init_40 dX3_init_42 rfl ar_i rfl (fun _ h => h) rfl (by decide) (by decide) (by decide) (by decide) (by decide) fq_X3_24 rfl rfl (Nat.le_of_ble_eq_true rfl) rfl rfl ?_
  refine b_aload (v := aD E o) C dX3_init_45 rfl ?_
  refine b_bipush C dX3_init_46 (by decide) ?_
  refine b_arr (P := P) (t0 := 0) (N := 10) (ty := .int) (a0 := (10, .inl (fun _ => 0))) (w := aD E (o + 6)) C hin ho dX3_init_48 dX3_init_50 rfl ar_i rfl (fun _ h => h) rfl (by decide) (by decide) (by decide) (by decide) (by decide) fq_X3_27 rfl rfl (Nat.le_of_ble_eq_true rfl) rfl rfl ?_
  refine b_aload (v := aD E o) C dX3_init_53 rfl ?_
  refine b_bipush C dX3_init_54 (by decide) ?_
  refine b_arr (P := P) (t0 := 0) (N := 10) (ty := .int) (a0 := (10, .inl (fun _ => 0))) (w := aD E (o + 7)) C hin ho dX3_init_56 dX3_init_58 rfl ar_i rfl (fun _ h => h) rfl (by decide) (by decide) (by decide) (by decide) (by decide) fq_X3_30 rfl rfl (Nat.le_of_ble_eq_true rfl) rfl rfl ?_
  exact b_ret C hr hlk dX3_init_61 rfl rfl rfl
theorem fq_X4_9 : Fq RX4 9 4 0 (.array .int) := ⟨TX4, tyX4, cl_X4, by decide, rfl, bg_of 370 rfl rfl, by decide +kernel⟩
theorem fq_X4_15 : Fq RX4 15 4 1 (.array .int) := ⟨TX4, tyX4, cl_X4, by decide, rfl, bg_of 372 rfl rfl, by decide +kernel⟩
set_option maxRecDepth 20000 in
set_option maxHeartbeats 4000000 in
theorem cb_X4 {E : Ev} {base : Nat} (hB : Bb E base) (P : List va_E) (o : Nat) (ho : P.length = o) : CtB E base yX4_init cX4_init 1 1 2 40 [.ref (aD E o)] (P ++ [.inr (4, [.null, .null, zi 0])]) (P ++ [.inr (4, [.ref (aD E (o + 1)), .ref (aD E (o + 2)), zi 0]), .inl (cY E 20, 20, .inl (fun _ => 0)), .inl (cY E 20, 20, .inl (fun _ => 0))]) := by
  refine CtB.of (own := RX4) (lv0 := [some (.ref (aD E o))]) hB (by decide) rfl rfl (Nat.le_of_ble_eq_true rfl) rfl (fun κ C hin hr hlk => ?_)
  refine b_aload (v := aD E o) C dX4_init_0 rfl ?_
  refine b_objInit C dX4_init_1 (bg_of 369 rfl rfl) oi_2 oi_3 (by decide) (by decide) ?_
  refine b_aload (v := aD E o) C dX4_init_4 rfl ?_
  refine b_bipush C dX4_init_5 (by decide) ?_
  refine b_arr (P := P) (t0 := 0) (N := 20) (ty := .int) (a0 := (20, .inl (fun _ => 0))) (w := aD E (o + 1)) C hin ho dX4_init_7 dX4_init_9 rfl ar_i rfl (fun _ h => h) rfl (by decide) (by decide) (by decide) (by decide) (by decide) fq_X4_9 rfl rfl (Nat.le_of_ble_eq_true rfl) rfl rfl ?_
  refine b_aload (v := aD E o) C dX4_init_12 rfl ?_
  refine b_bipush C dX4_init_13 (by decide) ?_
  refine b_arr (P := P) (t0 := 0) (N := 20) (ty := .int) (a0 := (20, .inl (fun _ => 0))) (w := aD E (o + 2)) C hin ho dX4_init_15 dX4_init_17 rfl ar_i rfl (fun _ h => h) rfl (by decide) (by decide) (by decide) (by decide) (by decide) fq_X4_15 rfl rfl (Nat.le_of_ble_eq_true rfl) rfl rfl ?_
  exact b_ret C hr hlk dX4_init_20 rfl rfl rfl
theorem fq_X5_9 : Fq RX5 9 5 0 (.array .int) := ⟨TX5, tyX5, cl_X5, by decide, rfl, bg_of 296 rfl rfl, by decide +kernel⟩
theorem fq_X5_15 : Fq RX5 15 5 1 (.array .int) := ⟨TX5, tyX5, cl_X5, by decide, rfl, bg_of 298 rfl rfl, by decide +kernel⟩
set_option maxRecDepth 20000 in
set_option maxHeartbeats 4000000 in
theorem cb_X5 {E : Ev} {base : Nat} (hB : Bb E base) (P : List va_E) (o : Nat) (ho : P.length = o) : CtB E base yX5_init cX5_init 1 1 2 48 [.ref (aD E o)] (P ++ [.inr (5, [.null, .null, zi 0, zi 0])]) (P ++ [.inr (5, [.ref (aD E (o + 1)), .ref (aD E (o + 2)), zi 0, zi 0]), .inl (cY E 20, 24, .inl (fun _ => 0)), .inl (cY E 20, 24, .inl (fun _ => 0))]) := by
  refine CtB.of (own := RX5) (lv0 := [some (.ref (aD E o))]) hB (by decide) rfl rfl (Nat.le_of_ble_eq_true rfl) rfl (fun κ C hin hr hlk => ?_)
  refine b_aload (v := aD E o) C dX5_init_0 rfl ?_
  refine b_objInit C dX5_init_1 (bg_of 295 rfl rfl) oi_2 oi_3 (by decide) (by decide) ?_
  refine b_aload (v := aD E o) C dX5_init_4 rfl ?_
  refine b_bipush C dX5_init_5 (by decide) ?_
  refine b_arr (P := P) (t0 := 0) (N := 24) (ty := .int) (a0 := (24, .inl (fun _ => 0))) (w := aD E (o + 1)) C hin ho dX5_init_7 dX5_init_9 rfl ar_i rfl (fun _ h => h) rfl (by decide) (by decide) (by decide) (by decide) (by decide) fq_X5_9 rfl rfl (Nat.le_of_ble_eq_true rfl) rfl rfl ?_
  refine b_aload (v := aD E o) C dX5_init_12 rfl ?_
  refine b_bipush C dX5_init_13 (by decide) ?_
  refine b_arr (P := P) (t0 := 0) (N := 24) (ty := .int) (a0 := (24, .inl (fun _ => 0))) (w := aD E (o + 2)) C hin ho dX5_init_15 dX5_init_17 rfl ar_i rfl (fun _ h => h) rfl (by decide) (by decide) (by decide) (by decide) (by decide) fq_X5_15 rfl rfl (Nat.le_of_ble_eq_true rfl) rfl rfl ?_
  exact b_ret C hr hlk dX5_init_20 rfl rfl rfl
theorem fq_X6_9 : Fq RX6 9 6 1 .int := ⟨TX6, tyX6, cl_X6, by decide, rfl, bg_of 179 rfl rfl, by decide +kernel⟩
set_option maxRecDepth 20000 in
set_option maxHeartbeats 4000000 in
theorem cb_X6 {E : Ev} {base : Nat} (hB : Bb E base) (P : List va_E) (o : Nat) (ho : P.length = o) : CtB E base yX6_init cX6_init 1 1 0 0 [.ref (aD E o)] (P ++ [.inr (6, [zi 0, zi 0, zi 0, zi 0, zi 0, zi 0, zi 0])]) (P ++ [.inr (6, [zi 0, zi (-1), zi 0, zi 0, zi 0, zi 0, zi 0])]) := by
  refine CtB.of (own := RX6) (lv0 := [some (.ref (aD E o))]) hB (by decide) rfl rfl (Nat.le_of_ble_eq_true rfl) rfl (fun κ C hin hr hlk => ?_)
  refine b_aload (v := aD E o) C dX6_init_0 rfl ?_
  refine b_objInit C dX6_init_1 (bg_of 176 rfl rfl) oi_2 oi_3 (by decide) (by decide) ?_
  refine b_aload (v := aD E o) C dX6_init_4 rfl ?_
  refine b_iconst C dX6_init_5 ?_
  refine b_num (P := P) C hin ho dX6_init_6 fq_X6_9 rfl (Nat.le_of_ble_eq_true rfl) rfl rfl ?_
  exact b_ret C hr hlk dX6_init_9 rfl rfl rfl
theorem fq_X7_9 : Fq RX7 9 7 0 (.array .int) := ⟨TX7, tyX7, cl_X7, by decide, rfl, bg_of 130 rfl rfl, by decide +kernel⟩
set_option maxRecDepth 20000 in
set_option maxHeartbeats 4000000 in
theorem cb_X7 {E : Ev} {base : Nat} (hB : Bb E base) (P : List va_E) (o : Nat) (ho : P.length = o) : CtB E base yX7_init cX7_init 1 1 1 3000 [.ref (aD E o)] (P ++ [.inr (7, [.null, zi 0])]) (P ++ [.inr (7, [.ref (aD E (o + 1)), zi 0]), .inl (cY E 20, 3000, .inl (fun _ => 0))]) := by
  refine CtB.of (own := RX7) (lv0 := [some (.ref (aD E o))]) hB (by decide) rfl rfl (Nat.le_of_ble_eq_true rfl) rfl (fun κ C hin hr hlk => ?_)
  refine b_aload (v := aD E o) C dX7_init_0 rfl ?_
  refine b_objInit C dX7_init_1 (bg_of 129 rfl rfl) oi_2 oi_3 (by decide) (by decide) ?_
  refine b_aload (v := aD E o) C dX7_init_4 rfl ?_
  refine b_sipush C dX7_init_5 (by decide) ?_
  refine b_arr (P := P) (t0 := 0) (N := 3000) (ty := .int) (a0 := (3000, .inl (fun _ => 0))) (w := aD E (o + 1)) C hin ho dX7_init_8 dX7_init_10 rfl ar_i rfl (fun _ h => h) rfl (by decide) (by decide) (by decide) (by decide) (by decide) fq_X7_9 rfl rfl (Nat.le_of_ble_eq_true rfl) rfl rfl ?_
  exact b_ret C hr hlk dX7_init_13 rfl rfl rfl
theorem fq_X8_9 : Fq RX8 9 8 0 (.array .int) := ⟨TX8, tyX8, cl_X8, by decide, rfl, bg_of 207 rfl rfl, by decide +kernel⟩
theorem fq_X8_15 : Fq RX8 15 8 1 (.array .int) := ⟨TX8, tyX8, cl_X8, by decide, rfl, bg_of 211 rfl rfl, by decide +kernel⟩
theorem fq_X8_18 : Fq RX8 18 8 2 (.array .int) := ⟨TX8, tyX8, cl_X8, by decide, rfl, bg_of 215 rfl rfl, by decide +kernel⟩
theorem fq_X8_21 : Fq RX8 21 8 3 (.array .int) := ⟨TX8, tyX8, cl_X8, by decide, rfl, bg_of 219 rfl rfl, by decide +kernel⟩
theorem fq_X8_24 : Fq RX8 24 8 4 (.array .int) := ⟨TX8, tyX8, cl_X8, by decide, rfl, bg_of 223 rfl rfl, by decide +kernel⟩
theorem fq_X8_27 : Fq RX8 27 8 5 (.array .int) := ⟨TX8, tyX8, cl_X8, by decide, rfl, bg_of 227 rfl rfl, by decide +kernel⟩
set_option maxRecDepth 20000 in
set_option maxHeartbeats 4000000 in
theorem cb_X8 {E : Ev} {base : Nat} (hB : Bb E base) (P : List va_E) (o : Nat) (ho : P.length = o) : CtB E base yX8_init cX8_init 1 1 6 4992 [.ref (aD E o)] (P ++ [.inr (8, [.null, .null, .null, .null, .null, .null, zi 0, zi 0])]) (P ++ [.inr (8, [.ref (aD E (o + 1)), .ref (aD E (o + 2)), .ref (aD E (o + 3)), .ref (aD E (o + 4)), .ref (aD E (o + 5)), .ref (aD E (o + 6)), zi 0, zi 0]), .inl (cY E 20, 3000, .inl (fun _ => 0)), .inl (cY E 20, 960, .inl (fun _ => 0)), .inl (cY E 20, 960, .inl (fun _ => 0)), .inl (cY E 20, 24, .inl (fun _ => 0)), .inl (cY E 20, 24, .inl (fun _ => 0)), .inl (cY E 20, 24, .inl (fun _ => 0))]) := by
  refine CtB.of (own := RX8) (lv0 := [some (.ref (aD E o))]) hB (by decide) rfl rfl (Nat.le_of_ble_eq_true rfl) rfl (fun κ C hin hr hlk => ?_)
  refine b_aload (v := aD E o) C dX8_init_0 rfl ?_
  refine b_objInit C dX8_init_1 (bg_of 206 rfl rfl) oi_2 oi_3 (by decide) (by decide) ?_
  refine b_aload (v := aD E o) C dX8_init_4 rfl ?_
  refine b_sipush C dX8_init_5 (by decide) ?_
  refine b_arr (P := P) (t0 := 0) (N := 3000) (ty := .int) (a0 := (3000, .inl (fun _ => 0))) (w := aD E (o + 1)) C hin ho dX8_init_8 dX8_init_10 rfl ar_i rfl (fun _ h => h) rfl (by decide) (by decide) (by decide) (by decide) (by decide) fq_X8_9 rfl rfl (Nat.le_of_ble_eq_true rfl) rfl rfl ?_
  refine b_aload (v := aD E o) C dX8_init_13 rfl ?_
  refine b_sipush C dX8_init_14 (by decide) ?_
  refine b_arr (P := P) (t0 := 0) (N := 960) (ty := .int) (a0 := (960, .inl (fun _ => 0))) (w := aD E (o + 2)) C hin ho dX8_init_17 dX8_init_19 rfl ar_i rfl (fun _ h => h) rfl (by decide) (by decide) (by decide) (by decide) (by decide) fq_X8_15 rfl rfl (Nat.le_of_ble_eq_true rfl) rfl rfl ?_
  refine b_aload (v := aD E o) C dX8_init_22 rfl ?_
  refine b_sipush C dX8_init_23 (by decide) ?_
  refine b_arr (P := P) (t0 := 0) (N := 960) (ty := .int) (a0 := (960, .inl (fun _ => 0))) (w := aD E (o + 3)) C hin ho dX8_init_26 dX8_init_28 rfl ar_i rfl (fun _ h => h) rfl (by decide) (by decide) (by decide) (by decide) (by decide) fq_X8_18 rfl rfl (Nat.le_of_ble_eq_true rfl) rfl rfl ?_
  refine b_aload (v := aD E o) C dX8_init_31 rfl ?_
  refine b_bipush C dX8_init_32 (by decide) ?_
  refine b_arr (P := P) (t0 := 0) (N := 24) (ty := .int) (a0 := (24, .inl (fun _ => 0))) (w := aD E (o + 4)) C hin ho dX8_init_34 dX8_init_36 rfl ar_i rfl (fun _ h => h) rfl (by decide) (by decide) (by decide) (by decide) (by decide) fq_X8_21 rfl rfl (Nat.le_of_ble_eq_true rfl) rfl rfl ?_
  refine b_aload (v := aD E o) C dX8_init_39 rfl ?_
  refine b_bipush C dX8_init_40 (by decide) ?_
  refine b_arr (P := P) (t0 := 0) (N := 24) (ty := .int) (a0 := (24, .inl (fun _ => 0))) (w := aD E (o + 5)) C hin ho dX8_init_42 dX8_init_44 rfl ar_i rfl (fun _ h => h) rfl (by decide) (by decide) (by decide) (by decide) (by decide) fq_X8_24 rfl rfl (Nat.le_of_ble_eq_true rfl) rfl rfl ?_
  refine b_aload (v := aD E o) C dX8_init_47 rfl ?_
  refine b_bipush C dX8_init_48 (by decide) ?_
  refine b_arr (P := P) (t0 := 0) (N := 24) (ty := .int) (a0 := (24, .inl (fun _ => 0))) (w := aD E (o + 6)) C hin ho dX8_init_50 dX8_init_52 rfl ar_i rfl (fun _ h => h) rfl (by decide) (by decide) (by decide) (by decide) (by decide) fq_X8_27 rfl rfl (Nat.le_of_ble_eq_true rfl) rfl rfl ?_
  exact b_ret C hr hlk dX8_init_55 rfl rfl rfl
theorem fq_X9_9 : Fq RX9 9 9 0 .int := ⟨TX9, tyX9, cl_X9, by decide, rfl, bg_of 148 rfl rfl, by decide +kernel⟩
theorem fq_X9_15 : Fq RX9 15 9 1 .int := ⟨TX9, tyX9, cl_X9, by decide, rfl, bg_of 149 rfl rfl, by decide +kernel⟩
theorem fq_X9_18 : Fq RX9 18 9 2 (.array .int) := ⟨TX9, tyX9, cl_X9, by decide, rfl, bg_of 151 rfl rfl, by decide +kernel⟩
theorem fq_X9_22 : Fq RX9 22 9 3 (.array .int) := ⟨TX9, tyX9, cl_X9, by decide, rfl, bg_of 152 rfl rfl, by decide +kernel⟩
theorem fq_X9_25 : Fq RX9 25 9 4 (.array .int) := ⟨TX9, tyX9, cl_X9, by decide, rfl, bg_of 153 rfl rfl, by decide +kernel⟩
set_option maxRecDepth 20000 in
set_option maxHeartbeats 4000000 in
theorem cb_X9_60 {E : Ev} {base : Nat} (hB : Bb E base) (P : List va_E) (o : Nat) (ho : P.length = o) : CtB E base yX9_init cX9_init 3 1 3 1080 [.ref (aD E o), zi 60, zi 16] (P ++ [.inr (9, [zi 0, zi 0, .null, .null, .null, zi 0])]) (P ++ [.inr (9, [zi 60, zi 16, .ref (aD E (o + 1)), .ref (aD E (o + 2)), .ref (aD E (o + 3)), zi 0]), .inl (cY E 20, 960, .inl (fun _ => 0)), .inl (cY E 20, 60, .inl (fun _ => 0)), .inl (cY E 20, 60, .inl (fun _ => 0))]) := by
  refine CtB.of (own := RX9) (lv0 := [some (.ref (aD E o)), some (zi 60), some (zi 16)]) hB (by decide) rfl rfl (Nat.le_of_ble_eq_true rfl) rfl (fun κ C hin hr hlk => ?_)
  refine b_aload (v := aD E o) C dX9_init_0 rfl ?_
  refine b_objInit C dX9_init_1 (bg_of 147 rfl rfl) oi_2 oi_3 (by decide) (by decide) ?_
  refine b_aload (v := aD E o) C dX9_init_4 rfl ?_
  refine b_iload (x := 60) C dX9_init_5 rfl ?_
  refine b_num (P := P) C hin ho dX9_init_6 fq_X9_9 rfl (Nat.le_of_ble_eq_true rfl) rfl rfl ?_
  refine b_aload (v := aD E o) C dX9_init_9 rfl ?_
  refine b_iload (x := 16) C dX9_init_10 rfl ?_
  refine b_num (P := P) C hin ho dX9_init_11 fq_X9_15 rfl (Nat.le_of_ble_eq_true rfl) rfl rfl ?_
  refine b_aload (v := aD E o) C dX9_init_14 rfl ?_
  refine b_iload (x := 60) C dX9_init_15 rfl ?_
  refine b_iload (x := 16) C dX9_init_16 rfl ?_
  refine b_imul (z := 960) C dX9_init_17 rfl ?_
  refine b_arr (P := P) (t0 := 0) (N := 960) (ty := .int) (a0 := (960, .inl (fun _ => 0))) (w := aD E (o + 1)) C hin ho dX9_init_18 dX9_init_20 rfl ar_i rfl (fun _ h => h) rfl (by decide) (by decide) (by decide) (by decide) (by decide) fq_X9_18 rfl rfl (Nat.le_of_ble_eq_true rfl) rfl rfl ?_
  refine b_aload (v := aD E o) C dX9_init_23 rfl ?_
  refine b_iload (x := 60) C dX9_init_24 rfl ?_
  refine b_arr (P := P) (t0 := 0) (N := 60) (ty := .int) (a0 := (60, .inl (fun _ => 0))) (w := aD E (o + 2)) C hin ho dX9_init_25 dX9_init_27 rfl ar_i rfl (fun _ h => h) rfl (by decide) (by decide) (by decide) (by decide) (by decide) fq_X9_22 rfl rfl (Nat.le_of_ble_eq_true rfl) rfl rfl ?_
  refine b_aload (v := aD E o) C dX9_init_30 rfl ?_
  refine b_iload (x := 60) C dX9_init_31 rfl ?_
  refine b_arr (P := P) (t0 := 0) (N := 60) (ty := .int) (a0 := (60, .inl (fun _ => 0))) (w := aD E (o + 3)) C hin ho dX9_init_32 dX9_init_34 rfl ar_i rfl (fun _ h => h) rfl (by decide) (by decide) (by decide) (by decide) (by decide) fq_X9_25 rfl rfl (Nat.le_of_ble_eq_true rfl) rfl rfl ?_
  exact b_ret C hr hlk dX9_init_37 rfl rfl rfl
set_option maxRecDepth 20000 in
set_option maxHeartbeats 4000000 in
theorem cb_X9_30 {E : Ev} {base : Nat} (hB : Bb E base) (P : List va_E) (o : Nat) (ho : P.length = o) : CtB E base yX9_init cX9_init 3 1 3 540 [.ref (aD E o), zi 30, zi 16] (P ++ [.inr (9, [zi 0, zi 0, .null, .null, .null, zi 0])]) (P ++ [.inr (9, [zi 30, zi 16, .ref (aD E (o + 1)), .ref (aD E (o + 2)), .ref (aD E (o + 3)), zi 0]), .inl (cY E 20, 480, .inl (fun _ => 0)), .inl (cY E 20, 30, .inl (fun _ => 0)), .inl (cY E 20, 30, .inl (fun _ => 0))]) := by
  refine CtB.of (own := RX9) (lv0 := [some (.ref (aD E o)), some (zi 30), some (zi 16)]) hB (by decide) rfl rfl (Nat.le_of_ble_eq_true rfl) rfl (fun κ C hin hr hlk => ?_)
  refine b_aload (v := aD E o) C dX9_init_0 rfl ?_
  refine b_objInit C dX9_init_1 (bg_of 147 rfl rfl) oi_2 oi_3 (by decide) (by decide) ?_
  refine b_aload (v := aD E o) C dX9_init_4 rfl ?_
  refine b_iload (x := 30) C dX9_init_5 rfl ?_
  refine b_num (P := P) C hin ho dX9_init_6 fq_X9_9 rfl (Nat.le_of_ble_eq_true rfl) rfl rfl ?_
  refine b_aload (v := aD E o) C dX9_init_9 rfl ?_
  refine b_iload (x := 16) C dX9_init_10 rfl ?_
  refine b_num (P := P) C hin ho dX9_init_11 fq_X9_15 rfl (Nat.le_of_ble_eq_true rfl) rfl rfl ?_
  refine b_aload (v := aD E o) C dX9_init_14 rfl ?_
  refine b_iload (x := 30) C dX9_init_15 rfl ?_
  refine b_iload (x := 16) C dX9_init_16 rfl ?_
  refine b_imul (z := 480) C dX9_init_17 rfl ?_
  refine b_arr (P := P) (t0 := 0) (N := 480) (ty := .int) (a0 := (480, .inl (fun _ => 0))) (w := aD E (o + 1)) C hin ho dX9_init_18 dX9_init_20 rfl ar_i rfl (fun _ h => h) rfl (by decide) (by decide) (by decide) (by decide) (by decide) fq_X9_18 rfl rfl (Nat.le_of_ble_eq_true rfl) rfl rfl ?_
  refine b_aload (v := aD E o) C dX9_init_23 rfl ?_
  refine b_iload (x := 30) C dX9_init_24 rfl ?_
  refine b_arr (P := P) (t0 := 0) (N := 30) (ty := .int) (a0 := (30, .inl (fun _ => 0))) (w := aD E (o + 2)) C hin ho dX9_init_25 dX9_init_27 rfl ar_i rfl (fun _ h => h) rfl (by decide) (by decide) (by decide) (by decide) (by decide) fq_X9_22 rfl rfl (Nat.le_of_ble_eq_true rfl) rfl rfl ?_
  refine b_aload (v := aD E o) C dX9_init_30 rfl ?_
  refine b_iload (x := 30) C dX9_init_31 rfl ?_
  refine b_arr (P := P) (t0 := 0) (N := 30) (ty := .int) (a0 := (30, .inl (fun _ => 0))) (w := aD E (o + 3)) C hin ho dX9_init_32 dX9_init_34 rfl ar_i rfl (fun _ h => h) rfl (by decide) (by decide) (by decide) (by decide) (by decide) fq_X9_25 rfl rfl (Nat.le_of_ble_eq_true rfl) rfl rfl ?_
  exact b_ret C hr hlk dX9_init_37 rfl rfl rfl
set_option maxRecDepth 20000 in
set_option maxHeartbeats 4000000 in
theorem cb_X9_10 {E : Ev} {base : Nat} (hB : Bb E base) (P : List va_E) (o : Nat) (ho : P.length = o) : CtB E base yX9_init cX9_init 3 1 3 80 [.ref (aD E o), zi 10, zi 6] (P ++ [.inr (9, [zi 0, zi 0, .null, .null, .null, zi 0])]) (P ++ [.inr (9, [zi 10, zi 6, .ref (aD E (o + 1)), .ref (aD E (o + 2)), .ref (aD E (o + 3)), zi 0]), .inl (cY E 20, 60, .inl (fun _ => 0)), .inl (cY E 20, 10, .inl (fun _ => 0)), .inl (cY E 20, 10, .inl (fun _ => 0))]) := by
  refine CtB.of (own := RX9) (lv0 := [some (.ref (aD E o)), some (zi 10), some (zi 6)]) hB (by decide) rfl rfl (Nat.le_of_ble_eq_true rfl) rfl (fun κ C hin hr hlk => ?_)
  refine b_aload (v := aD E o) C dX9_init_0 rfl ?_
  refine b_objInit C dX9_init_1 (bg_of 147 rfl rfl) oi_2 oi_3 (by decide) (by decide) ?_
  refine b_aload (v := aD E o) C dX9_init_4 rfl ?_
  refine b_iload (x := 10) C dX9_init_5 rfl ?_
  refine b_num (P := P) C hin ho dX9_init_6 fq_X9_9 rfl (Nat.le_of_ble_eq_true rfl) rfl rfl ?_
  refine b_aload (v := aD E o) C dX9_init_9 rfl ?_
  refine b_iload (x := 6) C dX9_init_10 rfl ?_
  refine b_num (P := P) C hin ho dX9_init_11 fq_X9_15 rfl (Nat.le_of_ble_eq_true rfl) rfl rfl ?_
  refine b_aload (v := aD E o) C dX9_init_14 rfl ?_
  refine b_iload (x := 10) C dX9_init_15 rfl ?_
  refine b_iload (x := 6) C dX9_init_16 rfl ?_
  refine b_imul (z := 60) C dX9_init_17 rfl ?_
  refine b_arr (P := P) (t0 := 0) (N := 60) (ty := .int) (a0 := (60, .inl (fun _ => 0))) (w := aD E (o + 1)) C hin ho dX9_init_18 dX9_init_20 rfl ar_i rfl (fun _ h => h) rfl (by decide) (by decide) (by decide) (by decide) (by decide) fq_X9_18 rfl rfl (Nat.le_of_ble_eq_true rfl) rfl rfl ?_
  refine b_aload (v := aD E o) C dX9_init_23 rfl ?_
  refine b_iload (x := 10) C dX9_init_24 rfl ?_
  refine b_arr (P := P) (t0 := 0) (N := 10) (ty := .int) (a0 := (10, .inl (fun _ => 0))) (w := aD E (o + 2)) C hin ho dX9_init_25 dX9_init_27 rfl ar_i rfl (fun _ h => h) rfl (by decide) (by decide) (by decide) (by decide) (by decide) fq_X9_22 rfl rfl (Nat.le_of_ble_eq_true rfl) rfl rfl ?_
  refine b_aload (v := aD E o) C dX9_init_30 rfl ?_
  refine b_iload (x := 10) C dX9_init_31 rfl ?_
  refine b_arr (P := P) (t0 := 0) (N := 10) (ty := .int) (a0 := (10, .inl (fun _ => 0))) (w := aD E (o + 3)) C hin ho dX9_init_32 dX9_init_34 rfl ar_i rfl (fun _ h => h) rfl (by decide) (by decide) (by decide) (by decide) (by decide) fq_X9_25 rfl rfl (Nat.le_of_ble_eq_true rfl) rfl rfl ?_
  exact b_ret C hr hlk dX9_init_37 rfl rfl rfl
