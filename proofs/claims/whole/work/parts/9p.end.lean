/-! THE END: the law from its entry, and the claim -/
section FP
variable {E : Ev} {base : Nat} {κ : Kp} {Q : State → Prop} {cc : ByteArray} {nL : Nat} {own : String} {R : Room} {pc : Nat} {lv : List (Option Value)} {st : List Value} {L : List va_E} {cells slots : Nat}
theorem b_astore (C : Bx E base κ cc nL own R) {i : Fin 4} {v : Nat} (hd : decode cc pc = .ok (.astore_n i, 1)) {lv' : List (Option Value)} (hn : (i : Nat) < nL) (ho : oks lv i = true) (he : lv.set i (some (.ref v)) = lv') (k : Gb E base κ Q nL (pc + 1) lv' st L cells slots) : Gb E base κ Q nL pc lv (.ref v :: st) L cells slots :=
  fun ls H locs h hP hS => lv_astore_n C.1 C.2.1 hd rfl h.has hn rfl (fun ls' hl' => k ls' H locs (he ▸ h.st1 ho hl') hP hS)
theorem b_istore (C : Bx E base κ cc nL own R) {i : Fin 4} {x : Int} (hd : decode cc pc = .ok (.istore_n i, 1)) {lv' : List (Option Value)} (hn : (i : Nat) < nL) (ho : oks lv i = true) (he : lv.set i (some (zi x)) = lv') (k : Gb E base κ Q nL (pc + 1) lv' st L cells slots) : Gb E base κ Q nL pc lv (zi x :: st) L cells slots :=
  fun ls H locs h hP hS => lv_istore_n C.1 C.2.1 hd rfl h.has hn rfl (fun ls' hl' => k ls' H locs (he ▸ h.st1 ho hl') hP hS)
end FP
set_option maxRecDepth 20000 in
set_option maxHeartbeats 4000000 in
theorem kw_start {s : State} {args : Array Value} (l : Launch) (hts : ∀ w ∈ lw_tbl, w.before args s = true) : ∃ E : Ev, E.1 = l ∧ Bb E s.heap.size ∧ Kw E s := by
  have hbg : ∀ w ∈ BG, w.before args s = true := fun w hw => hts w (List.mem_filter.mp hw).1
  obtain ⟨c0, i0, k0⟩ := u_known (C := RX0) (T := TX0) (N := 5) (n := 5) hbg cl_X0.2.2.1 (hbg _ iti_X0)
  obtain ⟨c1, i1, k1⟩ := u_known (C := RX1) (T := TX1) (N := 6) (n := 6) hbg cl_X1.2.2.1 (hbg _ iti_X1)
  obtain ⟨c2, i2, k2⟩ := u_known (C := RX2) (T := TX2) (N := 9) (n := 9) hbg cl_X2.2.2.1 (hbg _ iti_X2)
  obtain ⟨c3, i3, k3⟩ := u_known (C := RX3) (T := TX3) (N := 10) (n := 10) hbg cl_X3.2.2.1 (hbg _ iti_X3)
  obtain ⟨c4, i4, k4⟩ := u_known (C := RX4) (T := TX4) (N := 3) (n := 3) hbg cl_X4.2.2.1 (hbg _ iti_X4)
  obtain ⟨c5, i5, k5⟩ := u_known (C := RX5) (T := TX5) (N := 4) (n := 4) hbg cl_X5.2.2.1 (hbg _ iti_X5)
  obtain ⟨c6, i6, k6⟩ := u_known (C := RX6) (T := TX6) (N := 7) (n := 7) hbg cl_X6.2.2.1 (hbg _ iti_X6)
  obtain ⟨c7, i7, k7⟩ := u_known (C := RX7) (T := TX7) (N := 2) (n := 2) hbg cl_X7.2.2.1 (hbg _ iti_X7)
  obtain ⟨c8, i8, k8⟩ := u_known (C := RX8) (T := TX8) (N := 8) (n := 8) hbg cl_X8.2.2.1 (hbg _ iti_X8)
  obtain ⟨c9, i9, k9⟩ := u_known (C := RX9) (T := TX9) (N := 6) (n := 6) hbg cl_X9.2.2.1 (hbg _ iti_X9)
  obtain ⟨c10, i10, k10⟩ := u_known (C := RX10) (T := TX10) (N := 16) (n := 16) hbg cl_X10.2.2.1 (hbg _ iti_X10)
  obtain ⟨c11, i11, k11⟩ := u_known (C := RX11) (T := TX11) (N := 55) (n := 55) hbg cl_X11.2.2.1 (hbg _ iti_X11)
  obtain ⟨qI, rI, pI, aI, bI, dI⟩ := Cond.arrayClass_spec (hbg _ ar_i)
  obtain ⟨qJ, rJ, pJ, aJ, bJ, dJ⟩ := Cond.arrayClass_spec (hbg _ ar_l)
  obtain ⟨qB, rB, pB, aB, bB, dB⟩ := Cond.arrayClass_spec (hbg _ ar_b)
  obtain ⟨qZ, rZ, pZ, aZ, bZ, dZ⟩ := Cond.arrayClass_spec (hbg _ ar_z)
  refine ⟨(l, (fun k => if k = 0 then c0 else if k = 1 then c1 else if k = 2 then c2 else if k = 3 then c3 else if k = 4 then c4 else if k = 5 then c5 else if k = 6 then c6 else if k = 7 then c7 else if k = 8 then c8 else if k = 9 then c9 else if k = 10 then c10 else c11, fun k => if k = 0 then i0 else if k = 1 then i1 else if k = 2 then i2 else if k = 3 then i3 else if k = 4 then i4 else if k = 5 then i5 else if k = 6 then i6 else if k = 7 then i7 else if k = 8 then i8 else if k = 9 then i9 else if k = 10 then i10 else i11), fun i => s.heap.size + i, fun k => if k = 20 then qI else if k = 21 then qJ else if k = 22 then qB else qZ), rfl, fun i => rfl, ⟨fun k q hq => ?_, fun k q hq => ?_⟩, fun w hw => ?_⟩
  · match k, hq with
    | 0, hq => cases hq; exact k0
    | 1, hq => cases hq; exact k1
    | 2, hq => cases hq; exact k2
    | 3, hq => cases hq; exact k3
    | 4, hq => cases hq; exact k4
    | 5, hq => cases hq; exact k5
    | 6, hq => cases hq; exact k6
    | 7, hq => cases hq; exact k7
    | 8, hq => cases hq; exact k8
    | 9, hq => cases hq; exact k9
    | 10, hq => cases hq; exact k10
    | 11, hq => cases hq; exact k11
    | k + 12, hq => simp [vwCl] at hq
  · match k, hq with
    | 0, hq => cases hq; exact ⟨fun n z => ⟨fun k h => (by cases h), rI, bI, pI, dI⟩, aI⟩
    | 1, hq => cases hq; exact ⟨fun n z => ⟨fun k h => (by cases h), rJ, bJ, pJ, dJ⟩, aJ⟩
    | 2, hq => cases hq; exact ⟨fun n z => ⟨fun k h => (by cases h), rB, bB, pB, dB⟩, aB⟩
    | 3, hq => cases hq; exact ⟨fun n z => ⟨fun k h => (by cases h), rZ, bZ, pZ, dZ⟩, aZ⟩
    | k + 4, hq => simp [tyE] at hq
  · have hn := (List.mem_filter.mp hw).2
    have hw' := hts w (List.mem_append_right _ (List.mem_filter.mp hw).1)
    cases w <;> simp [isNest] at hn
    · exact va_Nw.of rfl hw'
    · exact va_Nw.of rfl hw'
set_option maxRecDepth 100000 in
theorem law_c11 : Cond.classLink RL 10 RX11 ∈ BG := bg_of 914 rfl rfl
/-! THE CLAIM OUT OF ONE WALK OF THE LAW'S BODY. Your part is whole_start (and what it stands on); all else here is the same for every law, but numbers. -/
def R_law : String := "EssayBonesLaw"
def lw_P (b : Addr) (xs : List Int32) (args : Array Value) (s : State) : Prop := args = #[.ref b] ∧ s.IntsAt b xs ∧ xs.length ≤ 3072 ∧ (Jvm.Cond.and given_1 narrow_1).before args s = true
def lw_Q (_ : Array Value) (s : State) (o : Outcome) (t : State) : Prop := o = .returned (some (.int 1)) ∧ Framed s o t [] 600000 7302250
def lw_Z (below : List Frame) (a : Array Value) (s : State) : State → Prop := fun t => ∃ o, t.status = .running ∧ Ended t below o ∧ lw_Q a s o t
/-- the law's own end, with 1 on the stack, nothing written that was there before, its room as the claim has it -/
theorem lw_ret {p : Program} {l : Launch} {e : Env} {s : State} {m : MethodId} {below : List Frame} {meth : Method} {c : Code} {b : Nat} (hx : p.tables.exec = Jvm.exec) (hb : c.code = code) (hr : meth.sig.returnType = ret) (hlocks : meth.locks = false) {pc : Nat} {H : Heap} {ls : Array Slot} (hdg : decode code pc = .ok (.ireturn, 1)) : W p l e room_1 s m #[Value.ref b] below meth c H [] 600000 7302250 (lw_Z below #[Value.ref b] s) (F0 m pc ls [.int 1]) := by
  intro T hT X
  obtain ⟨fs, hret, hrun, hended, hW, hframe⟩ := X.leave (v := some (.int 1)) (hlocks := hlocks) (fun h => by rw [hr] at h; cases h)
  have hmeth' : T.vm.method? m = some meth := X.method'
  refine ⟨T.setFrames fs, ?_, .returned (some (.int 1)), hrun, hended, rfl, ⟨_, rfl⟩, hW, hframe⟩
  jvm_step X.here [X.here.top, hx, hb, hdg, hmeth', hr, ret, narrow_b1]
  (try refine ⟨rfl, ?_⟩); (try refine ⟨rfl, ?_⟩)
  first | (intro acts; rw [hret _ acts rfl rfl rfl]) | rw [hret _ _ rfl rfl rfl]
  exact Steps.refl _
/-- what holds at the law's entry: the machine, the code, the tables' words (any of lw_tbl by 'hts w (by decide +kernel)'), the script of L ints xs at the cell b, what the Statement gives of the start (any of its parts by flat_of_before) -/
def lw_At (p : Program) (s : State) (m : MethodId) (meth : Method) (c : Code) (b L : Nat) (xs : Nat → Int32) : Prop :=
  p.tables.exec = Jvm.exec ∧ c.code = code ∧ meth.sig.returnType = ret ∧ c.maxLocals = 4 ∧ s.vm.findClass R_law = some m.cls ∧ (∀ w ∈ lw_tbl, w.before #[Value.ref b] s = true) ∧ va_X b L xs s s.heap ∧ b < s.heap.size ∧ meth.locks = false ∧ (Jvm.Cond.and given_1 narrow_1).before #[Value.ref b] s = true
set_option maxRecDepth 100000 in
set_option maxHeartbeats 4000000 in
theorem whole_start {p : Program} {e : Env} {s : State} {m : MethodId} {below : List Frame} {meth : Method} {c : Code} (l : Launch) {b L : Nat} {xs : Nat → Int32} (hL : L ≤ 3072) (C0 : lw_At p s m meth c b L xs) : W p l e room_1 s m #[Value.ref b] below meth c s.heap [] 0 0 (lw_Z below #[Value.ref b] s) (entryFrame m ([Value.ref b] : List Value).toArray 4) := by
  obtain ⟨hx, hb, hr, hml, hown, hts, hX, hbl, hlocks, hgv⟩ := id C0
  obtain ⟨E, hE, hB, hKw⟩ := kw_start l hts
  subst hE
  have hbg : ∀ w ∈ BG, w.before #[Value.ref b] s = true := fun w hw => hts w (List.mem_filter.mp hw).1
  have C : Bx E s.heap.size (p, e, room_1, s, m, #[Value.ref b], below, meth, c) cL_law 4 RL room_1 := ⟨hx, hb, hml, hown, hbg, hKw, hB, Nat.le_refl _, rfl⟩
  have S : Sc (p, e, room_1, s, m, #[Value.ref b], below, meth, c) s.heap.size b L xs := ⟨hX, hbl, hbl, hL⟩
  have fin : ∀ (i : Int) (M : Mm), Gl E s.heap.size (p, e, room_1, s, m, #[Value.ref b], below, meth, c) (lw_Z below #[Value.ref b] s) 4 785 (lvL E b i) [] M 107 69465 := by
    intro i M
    refine l_iconst C dL_law_785 ?_
    intro ls H locs hl hP hS
    refine va_forget (fun q hq => hS.2.2 q hq) ?_
    refine W.widen (k := 600000) (n := 7302250) (by decide) (by decide) ?_
    exact lw_ret hx hb hr hlocks dL_law_786
  have G : Gb E s.heap.size (p, e, room_1, s, m, #[Value.ref b], below, meth, c) (lw_Z below #[Value.ref b] s) 4 0 [some (.ref b), none, none, none] [] [] 0 0 := by
    refine b_new (ci := 10) (N := 16) (fs := [.null, .null, .null, .null, .null, .null, .null, .null, .null, .null, .null, .null, .null, .null, zi 0, zi 0]) (v := aD E 0) C dL_law_0 cl_X10 rfl (bg_of 116 rfl rfl) iti_X10 ini_X10 dfi_X10 (by decide) (by decide) rfl ?_
    refine b_dup C dL_law_3 ?_
    refine b_callI (As := []) (rest := [.ref (aD E 0)]) C dL_law_4 cyi_X10 imi_X10 rfl lk_L_9 (cb_X10 hB) ⟨by decide, by decide⟩ rfl rfl (Nat.le_of_ble_eq_true rfl) (by decide) (by decide) ?_
    refine b_astore (lv' := [some (.ref b), some (.ref (aD E 0)), none, none]) C dL_law_7 (by decide) rfl rfl ?_
    refine b_new (ci := 11) (N := 55) (fs := [.null, zi 0, .null, zi 0, .null, .null, zi 0, .null, .null, .null, zi 0, .null, .null, zi 0, .null, .null, .null, .null, .null, .null, .null, .null, .null, .null, zi 0, zi 0, zi 0, zi 0, .null, .null, .null, .null, zi 0, .null, .null, .null, .null, .null, .null, zi 0, zi 0, zi 0, .null, .null, .null, .null, .null, zi 0, .null, .null, .null, .null, zi 0, .null, .null]) (v := aD E 66) C dL_law_8 cl_X11 rfl law_c11 iti_X11 ini_X11 dfi_X11 (by decide) (by decide) rfl ?_
    refine b_dup C dL_law_11 ?_
    refine b_callI (As := []) (rest := [.ref (aD E 66)]) C dL_law_12 cyi_X11 imi_X11 rfl lk_L_12 (cb_X11 hB (L10 E) 66 rfl) ⟨by decide, by decide⟩ rfl rfl (Nat.le_of_ble_eq_true rfl) (by decide) (by decide) ?_
    refine b_astore (lv' := [some (.ref b), some (.ref (aD E 0)), some (.ref (aD E 66)), none]) C dL_law_15 (by decide) rfl rfl ?_
    refine b_iconst C dL_law_16 ?_
    refine b_istore (lv' := lvL E b 0) C dL_law_17 (by decide) rfl rfl ?_
    intro ls H locs hl hP hS
    exact law_loop C S ⟨by decide, by decide⟩ fin (L + 7) 0 M0 17 24 (by omega) (by omega) (by omega) Cpl_0 ls H locs hl (Wp_0 hP) hS
  rw [lg_entry_eq]
  exact G _ s.heap [] (Lh_ent (Nat.le_of_ble_eq_true rfl)) ⟨rfl, fun k q h => by simp [zw] at h⟩ va_S.rf
set_option maxHeartbeats 4000000 in
theorem lw_walk (l : Launch) (b : Addr) (xs : List Int32) : MetFree l x (headSpec (Jvm.Cond.code x code maxLocals ret :: tables_1) room_1) (lw_P b xs) (fun _ _ _ _ _ => True) lw_Q := by
  refine MetFree.of_bodyS (code := code) (maxLocals := maxLocals) (ret := ret) (by decide) ?_ ?_
  · intro args s m h hn
    obtain ⟨meth, c, h1, h2, h3, h4, h5, h6, -, -⟩ := Cond.code_spec hn (atoms_spec (ws := Jvm.Cond.code x code maxLocals ret :: tables_1) h _ List.mem_cons_self)
    exact ⟨meth, c, h1, h2, h3, h4, h5, h6⟩
  · intro p e s m args below meth c s₁ B hml0 hP _
    obtain ⟨rfl, hx, hbd, hgv⟩ := hP
    obtain ⟨scr, harrAt, hlist, hof, hsmall⟩ := hx
    obtain ⟨hcb, hkn, -, -⟩ := State.arrayAt?_spec harrAt
    have hown : s.vm.findClass R_law = some m.cls := findClass_of_methodNamed B.named
    have hts0 : ∀ c ∈ (Jvm.Cond.code x code maxLocals ret :: tables_1), c.before #[Value.ref b] s = true := atoms_spec (ws := Jvm.Cond.code x code maxLocals ret :: tables_1) B.pre
    have hts : ∀ w ∈ lw_tbl, w.before #[Value.ref b] s = true := k2_hts_sels lw_privs (fun w hw => hts0 w (List.mem_cons_of_mem _ hw)) lw_privs_ok
    have hml : c.maxLocals = 4 := B.maxLocals_eq (hts0 _ List.mem_cons_self)
    have X₀ : Stand p l e room_1 s m #[Value.ref b] below meth c s₁ [] 0 0 := Stand.of_body B
    have hh0 : s₁.heap = s.heap := by rw [B.state]; rfl
    have hsz : scr.slots.size = xs.length := by rw [← Array.length_toList, hlist, List.length_map]
    have hval : ∀ j : Nat, j < xs.length → scr.slots[j]? = some (.int (xs.getD j 0)) := fun j hj => by
      rw [← Array.getElem?_toList, hlist]
      simp [hj]
    have hbl : b < s.heap.size := (Array.getElem?_eq_some_iff.mp hcb).1
    have hX : va_X b xs.length (fun j => xs.getD j 0) s s.heap := ⟨scr, hcb, hof, hkn, hsz, hval⟩
    have K : W p l e room_1 s m #[Value.ref b] below meth c s₁.heap [] 0 0 (lw_Z below #[Value.ref b] s) (entryFrame m ([Value.ref b] : List Value).toArray 4) := by
      rw [hh0]
      exact whole_start l hbd ⟨B.exec, B.bytes, B.returns, hml, hown, hts, hX, hbl, B.notSynchronized, hgv⟩
    obtain ⟨t, a1, o, b1, b2, b3⟩ := K s₁ rfl X₀
    exact ⟨t, o, a1, b1, b2, b3⟩
theorem lw_pre_spec {args : Array Value} {s : State} (h : (Jvm.Cond.and given_1 narrow_1).before args s = true) (hr : rest_1_c.before args s = true) : ∃ (b : Addr) (xs : List Int32), lw_P b xs args s := by
  have hs := flat_of_before _ h
  have hq := flat_of_before _ hr
  have hc : (Cond.count 1).before args s = true := hs _ (by decide +kernel)
  have harr : (Cond.arrayOf (.arg 0) .int).before args s = true := hs _ (by decide +kernel)
  have hle : (Cond.le (.length (.arg 0)) (.int 3072)).before args s = true := hs _ (by decide +kernel)
  have hlen : (Cond.isInt (.length (.arg 0))).before args s = true := hq _ (by decide +kernel)
  have hall : (Cond.all (.arg 0) (.isInt (.elem (.arg 0) (.index 0)))).before args s = true := hq _ (by decide +kernel)
  obtain ⟨b, xs, hb, hx⟩ := State.ints_of_pre rfl harr hlen hall
  have hsm : xs.length < 2 ^ 31 := hx.choose_spec.2.2.2
  have hev : (Term.length (.arg 0)).eval args s none [] s = some (.int xs.length.toInt32) := hx.length_eval hb
  have hv := Cond.le_ints hev (show (Term.int 3072).eval args s none [] s = some (.int 3072) from rfl)
  have hd : xs.length.toInt32 ≤ 3072 := by
    simpa [Cond.before, Cond.holds, hv] using hle
  have hN : xs.length ≤ 3072 := (Int32.ofNat_le_ofNat hsm (by decide)).mp (show Int32.ofNat xs.length ≤ Int32.ofNat 3072 from hd)
  exact ⟨b, xs, Cond.one_arg hc (show args[0]? = some (.ref b) from hb), hx, hN, h⟩
theorem lw_comes (l : Launch) : Comes l x (Jvm.Cond.code x code maxLocals ret :: tables_1) room_1 (fun tb e args s => Calls_1 tb e args s ∧ rest_1 tb e args s ∧ Pre_1 tb e args s)
    (fun _ _ args s o t => lw_Q args s o t) := by
  intro p e ha hc hk s m args below hf hfit hheap happ hpre
  obtain ⟨b, xs, hP⟩ := lw_pre_spec hpre.2.2 hpre.2.1
  obtain ⟨k, o, h1, h2, h3, hQ⟩ := lw_walk l b xs p e ha hc hk s m args below hf ((Spec.applies_iff_loose hf).mp happ).1 hP trivial
  exact ⟨k, o, h1, h2, h3, hQ⟩
theorem lw_frame {s t : State} {o : Outcome} {args : Array Value} (h : Framed s o t [] 600000 7302250) :
    Framed s o t (fieldLocs frame_1_writes args s ++ arrayLocs frame_1_arrays args s ++ staticLocs frame_1_statics s) 600000 7302250 := h
theorem lw_limb (L : Cond) (hL : ∀ (args : Array Value) (s t : State), L.after args s (.returned (some (.int 1))) t = true) :
    ArmFor flags0 classFile x code maxLocals ret World_1 tables_1 room_1 Calls_1 rest_1 Pre_1
      (fun tb e a s o t => postC L tb e a s o t ∧ Framed s o t (fieldLocs frame_1_writes a s ++ arrayLocs frame_1_arrays a s ++ staticLocs frame_1_statics s) 600000 7302250) := by
  intro l _ _ _ p e ha hc hk s m args below hf hfit hheap happ hpre
  obtain ⟨k, o, h1, h2, h3, rfl, hF⟩ := lw_comes l p e ha hc hk s m args below hf hfit hheap happ hpre
  exact ⟨k, _, h1, h2, h3, hL args s _, lw_frame hF⟩
theorem i_vc : Claimed_1_1 ∧ Claimed_1_2 := ⟨lw_limb limb_1_1 (fun args s t => by simp [limb_1_1, Cond.after, Cond.holds, Cond.value]), lw_limb limb_1_2 (fun args s t => Cond.after_iff.mpr (by
  first | (rw [show limb_1_2 = Cond.eq .result (.int 1) from rfl, Cond.eq_ints (x := 1) (y := 1) rfl rfl]; simp; done) | (simp [limb_1_2, Cond.value, Term.eval]; done)))⟩
