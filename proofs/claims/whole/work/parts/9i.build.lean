/-! BUILDING: cells come one behind another; what stands of them is a list -/
def Bb (E : Ev) (base : Nat) : Prop := ∀ i, aD E i = base + i
def zw (E : Ev) (L : List va_E) : va_W := L.zipIdx.map (fun q => (aD E q.2, q.1))
def Bw (E : Ev) (base : Nat) (L : List va_E) (H : Heap) : Prop := H.size = base + L.length ∧ va_P E.2.1 vwCl (zw E L) H
theorem zw_at (E : Ev) (L : List va_E) (i : Nat) : (zw E L)[i]? = (L[i]?).map (fun e => (aD E i, e)) := by
  simp only [zw, List.getElem?_map, List.getElem?_zipIdx]
  cases L[i]? <;> simp
theorem zw_get {E : Ev} {L : List va_E} {i : Nat} {e : va_E} (h : L[i]? = some e) : (zw E L)[i]? = some (aD E i, e) := by
  rw [zw_at, h]; rfl
theorem zw_some {E : Ev} {L : List va_E} {i : Nat} {q : Nat × va_E} (h : (zw E L)[i]? = some q) : L[i]? = some q.2 ∧ q.1 = aD E i := by
  rw [zw_at] at h
  cases g : L[i]? with
  | none => rw [g] at h; cases h
  | some e => rw [g] at h; cases h; exact ⟨rfl, rfl⟩
theorem zw_D {E : Ev} {base : Nat} (hb : Bb E base) (L : List va_E) : va_D (fun q => base ≤ q) (zw E L) := by
  refine ⟨fun i j p q hp hq e => ?_, fun k q hq => ?_⟩
  · have h1 := (zw_some hp).2
    have h2 := (zw_some hq).2
    rw [hb] at h1 h2
    omega
  · have h1 := (zw_some hq).2
    rw [hb] at h1
    show base ≤ q.1
    omega
theorem zw_set (E : Ev) (L : List va_E) (i : Nat) (e : va_E) : (zw E L).set i (aD E i, e) = zw E (L.set i e) := by
  apply List.ext_getElem?
  intro j
  rw [zw_at]
  by_cases h : j = i
  · subst h
    by_cases hl : j < L.length
    · rw [List.getElem?_set_self (by simpa [zw] using hl), List.getElem?_set_self hl]; rfl
    · rw [List.getElem?_eq_none (by simp [zw]; omega), List.getElem?_eq_none (by simp; omega)]; rfl
  · rw [List.getElem?_set_ne (Ne.symm h), List.getElem?_set_ne (Ne.symm h), zw_at]
theorem zw_app (E : Ev) (L : List va_E) (e : va_E) : zw E (L ++ [e]) = zw E L ++ [(aD E L.length, e)] := by
  simp [zw, List.zipIdx_append]
def rmB (ht mc ms : Nat) : Room := { frames := ht, cells := mc, slots := ms, locals := 40 * ht }
def Bx (E : Ev) (base : Nat) (κ : Kp) (cc : ByteArray) (nL : Nat) (own : String) (R : Room) : Prop :=
  κ.1.tables.exec = Jvm.exec ∧ κ.2.2.2.2.2.2.2.2.code = cc ∧ κ.2.2.2.2.2.2.2.2.maxLocals = nL ∧ (kS κ).vm.findClass own = some κ.2.2.2.2.1.cls ∧ (∀ w ∈ BG, w.before κ.2.2.2.2.2.1 (kS κ) = true) ∧ Kw E (kS κ) ∧ Bb E base ∧ base ≤ (kS κ).heap.size ∧ κ.2.2.1 = R
def Gb (E : Ev) (base : Nat) (κ : Kp) (Q : State → Prop) (nL pc : Nat) (lv : List (Option Value)) (st : List Value) (L : List va_E) (cells slots : Nat) : Prop :=
  ∀ (ls : Array Slot) (H : Heap) (locs : List Loc), Lh ls nL lv → Bw E base L H → va_S (fun q => base ≤ q) (kS κ).heap H locs →
    W κ.1 E.1 κ.2.1 κ.2.2.1 (kS κ) κ.2.2.2.2.1 κ.2.2.2.2.2.1 κ.2.2.2.2.2.2.1 κ.2.2.2.2.2.2.2.1 κ.2.2.2.2.2.2.2.2 H locs cells slots Q (F0 κ.2.2.2.2.1 pc ls st)
section FB
variable {E : Ev} {base : Nat} {κ : Kp} {Q : State → Prop} {cc : ByteArray} {nL : Nat} {own : String} {R : Room} {pc : Nat} {lv : List (Option Value)} {st : List Value} {L : List va_E} {cells slots : Nat}
theorem b_aload (C : Bx E base κ cc nL own R) {i : Fin 4} {v : Nat} (hd : decode cc pc = .ok (.aload_n i, 1)) (hl : lv[(i : Nat)]? = some (some (.ref v))) (k : Gb E base κ Q nL (pc + 1) lv (.ref v :: st) L cells slots) : Gb E base κ Q nL pc lv st L cells slots :=
  fun ls H locs h hP hS => lv_aload_n C.1 C.2.1 hd rfl (h.2.2.2 _ _ hl) (k ls H locs h hP hS)
theorem b_iload (C : Bx E base κ cc nL own R) {i : Fin 4} {x : Int} (hd : decode cc pc = .ok (.iload_n i, 1)) (hl : lv[(i : Nat)]? = some (some (zi x))) (k : Gb E base κ Q nL (pc + 1) lv (zi x :: st) L cells slots) : Gb E base κ Q nL pc lv st L cells slots :=
  fun ls H locs h hP hS => lv_iload_n C.1 C.2.1 hd rfl (h.2.2.2 _ _ hl) (k ls H locs h hP hS)
theorem b_iconst (C : Bx E base κ cc nL own R) {n : Int} (hd : decode cc pc = .ok (.iconst n, 1)) (k : Gb E base κ Q nL (pc + 1) lv (zi n :: st) L cells slots) : Gb E base κ Q nL pc lv st L cells slots :=
  fun ls H locs hl hP hS => lv_iconst C.1 C.2.1 hd rfl (k ls H locs hl hP hS)
theorem b_bipush (C : Bx E base κ cc nL own R) {n : Int} (hd : decode cc pc = .ok (.bipush n, 2)) (hn : (Int8.ofInt n).toInt32 = Int32.ofInt n) (k : Gb E base κ Q nL (pc + 2) lv (zi n :: st) L cells slots) : Gb E base κ Q nL pc lv st L cells slots :=
  fun ls H locs hl hP hS => lv_bipush C.1 C.2.1 hd hn (k ls H locs hl hP hS)
theorem b_sipush (C : Bx E base κ cc nL own R) {n : Int} (hd : decode cc pc = .ok (.sipush n, 3)) (hn : (Int16.ofInt n).toInt32 = Int32.ofInt n) (k : Gb E base κ Q nL (pc + 3) lv (zi n :: st) L cells slots) : Gb E base κ Q nL pc lv st L cells slots :=
  fun ls H locs hl hP hS => lv_sipush C.1 C.2.1 hd hn (k ls H locs hl hP hS)
theorem b_dup (C : Bx E base κ cc nL own R) {v : Nat} (hd : decode cc pc = .ok (.dup, 1)) (k : Gb E base κ Q nL (pc + 1) lv (.ref v :: .ref v :: st) L cells slots) : Gb E base κ Q nL pc lv (.ref v :: st) L cells slots :=
  fun ls H locs hl hP hS => lv_dup C.1 C.2.1 hd rfl (k ls H locs hl hP hS)
theorem b_imul (C : Bx E base κ cc nL own R) {x y z : Int} (hd : decode cc pc = .ok (.imul, 1)) (hz : Int32.ofInt x * Int32.ofInt y = Int32.ofInt z) (k : Gb E base κ Q nL (pc + 1) lv (zi z :: st) L cells slots) : Gb E base κ Q nL pc lv (zi y :: zi x :: st) L cells slots := by
  intro ls H locs hl hP hS
  refine lv_imul C.1 C.2.1 hd ?_
  rw [hz]
  exact k ls H locs hl hP hS
theorem b_objInit (C : Bx E base κ cc nL own R) {v idx : Nat} (hd : decode cc pc = .ok (.invokespecial idx, 3)) (h1 : Cond.methodLink own idx Lib.objectInit ∈ BG) (h2 : Cond.instanceMethod Lib.objectInit ∈ BG) (h3 : Cond.code Lib.objectInit ⟨#[0xb1]⟩ 1 none ∈ BG) (hf : 1 ≤ R.frames) (hr : 12 ≤ R.locals) (k : Gb E base κ Q nL (pc + 3) lv [] L cells slots) : Gb E base κ Q nL pc lv [.ref v] L cells slots := by
  intro ls H locs hl hP hS
  obtain ⟨hx, hb, hml, hown, hts, hKw, hB, hsz, hR⟩ := C
  subst hR
  exact W.objInit hx hb hown (hts _ h1) (hts _ h2) (hts _ h3) rfl (by rw [hml]; exact hl.1) rfl hd hf (by simpa using hr) (k ls H locs hl hP hS)
theorem b_newa (C : Bx E base κ cc nL own R) {N t0 : Nat} {z : Int} {atype : ArrayType} {ty : FieldType} {cA : ClassId} {a0 : vp_A} (hd : decode cc pc = .ok (.newarray atype, 2)) (hty : newarray.typeOf atype = ty) (harr : Cond.arrayClass ty ∈ BG) (ht : (tyE E)[t0]? = some (cA, ty)) (hra : ∀ U : State, va_RA U cA ty → U.vm.findClass ("[" ++ ty.toString) = some cA) (ha : vp_cell cA a0 = arrV cA N (fun _ => defaultValue ty)) (hn : ¬ Int32.ofInt z < 0) (hN : (Int32.ofInt z).toNatClampNeg = N) (hby : N * componentBytes ty ≤ 536870912) (hc : cells + 1 ≤ R.cells) (hs : slots + N ≤ R.slots) {v : Nat} (hv : aD E L.length = v)
    (k : Gb E base κ Q nL (pc + 2) lv (.ref v :: st) (L ++ [.inl (cA, a0)]) (cells + 1) (slots + N)) : Gb E base κ Q nL pc lv (zi z :: st) L cells slots := by
  intro ls H locs hl hP hS
  obtain ⟨hx, hb, hml, hown, hts, hKw, hB, hsz, hR⟩ := C
  subst hR
  subst hty
  refine va_newaK (h := aD E L.length) hx hb (hts _ harr) rfl hd rfl hn hN hby hc hs (by rw [hP.1, hB]) (fun H1 cA' e1 z1 o1 _ hNm => ?_)
  have ec : cA' = cA := Option.some.inj (hNm.symm.trans (hra _ (hKw.1.2 t0 _ ht).2))
  subst ec
  have hk : ∀ (k : Nat) (x : Nat × va_E), (zw E L)[k]? = some x → H1[x.1]? = H[x.1]? := fun k x hx => o1 x.1 (by have := (hP.2 k x hx).lt; rw [hP.1] at this; rw [hB]; exact this)
  rw [hv]
  refine k ls H1 locs hl ⟨by rw [z1, hB, List.length_append]; rfl, ?_⟩ ⟨Nat.le_trans hS.1 (by rw [z1, hB, hP.1]; omega), fun x g1 g2 => ?_, hS.2.2⟩
  · rw [zw_app]
    refine (hP.2.kept hk).app (fun j x hx => ?_)
    have hz : j < 1 := (List.getElem?_eq_some_iff.mp hx).1
    rw [show j = 0 by omega] at hx
    cases hx
    show H1[aD E L.length]? = some (vp_cell _ _)
    rw [ha]
    exact e1
  · rw [o1 x (by rw [hB]; have : ¬ base ≤ x := g2; omega)]
    exact hS.2.1 x g1 g2
theorem b_new (C : Bx E base κ cc nL own R) {ci index N : Nat} {Cn : String} {T : u_T} {ty : Nat → FieldType} {fs : List Value} (hd : decode cc pc = .ok (.new index, 3)) (hcl : Cl ci Cn T ty) (hNf : nf ci = N) (h1 : Cond.classLink own index Cn ∈ BG) (h2 : Cond.instantiable Cn (nf ci) ∈ BG) (h3 : Cond.initialized Cn ∈ BG) (hfs : ∀ j, j < nf ci → defaultValue (ty j) = vp_V fs j) (hc : cells + 1 ≤ R.cells) (hs : slots + N ≤ R.slots) {v : Nat} (hv : aD E L.length = v)
    (k : Gb E base κ Q nL (pc + 3) lv (.ref v :: st) (L ++ [.inr (ci, fs)]) (cells + 1) (slots + N)) : Gb E base κ Q nL pc lv st L cells slots := by
  intro ls H locs hl hP hS
  obtain ⟨hx, hb, hml, hown, hts, hKw, hB, hsz, hR⟩ := C
  subst hR
  subst hNf
  obtain ⟨hc0, hci, hin, hty, hnm⟩ := hcl
  have hKn := hKw.1.1 ci _ hc0
  refine W.newcK (h := aD E L.length) hx hb hown (hts _ h1) (hts _ h2) (hts _ h3) rfl hd hc hs hKn.2.1 (by rw [hP.1, hB]) (fun H1 kC hkC e1 z1 o1 => ?_)
  have hk : ∀ (k : Nat) (x : Nat × va_E), (zw E L)[k]? = some x → H1[x.1]? = H[x.1]? := fun k x hx => o1 x.1 (by have := (hP.2 k x hx).lt; rw [hP.1] at this; rw [hB]; exact this)
  rw [hv]
  refine k ls H1 locs hl ⟨by rw [z1, hB, List.length_append]; rfl, ?_⟩ ⟨Nat.le_trans hS.1 (by rw [z1, hB, hP.1]; omega), fun x g1 g2 => ?_, hS.2.2⟩
  · rw [zw_app]
    refine (hP.2.kept hk).app (fun j x hx => ?_)
    have hz : j < 1 := (List.getElem?_eq_some_iff.mp hx).1
    rw [show j = 0 by omega] at hx
    cases hx
    exact ⟨_, hc0, (u_born ty hts hin hKn hkC e1 hty).to hfs⟩
  · rw [o1 x (by rw [hB]; have : ¬ base ≤ x := g2; omega)]
    exact hS.2.1 x g1 g2
def Fq (own : String) (index ci k : Nat) (t : FieldType) : Prop := ∃ (T : u_T) (ty : Nat → FieldType), Cl ci own T ty ∧ k < nf ci ∧ (T k).1 = own ∧ Cond.fieldLink own index own (T k).2.1 (T k).2.2.1 ∈ BG ∧ parseFieldDescriptor (T k).2.2.1 = some t
theorem b_put (C : Bx E base κ cc nL own R) {o index ci k a : Nat} {fs : List Value} {v : Value} {t : FieldType} (hd : decode cc pc = .ok (.putfield index, 3)) (hin0 : κ.2.2.2.2.2.2.2.1.name = "<init>") (hF : Fq own index ci k t) (ha : aD E o = a) (ho : L[o]? = some (.inr (ci, fs))) (hlen : k < fs.length) (hn : narrow t v = v) (hft : fits t v = true)
    (kk : Gb E base κ Q nL (pc + 3) lv st (L.set o (.inr (ci, fs.set k v))) cells slots) : Gb E base κ Q nL pc lv (v :: .ref a :: st) L cells slots := by
  intro ls H locs hl hP hS
  obtain ⟨hx, hb, hml, hown, hts, hKw, hB, hsz, hR⟩ := C
  obtain ⟨T, ty, ⟨hc, hci, hin, hty, hnm⟩, hk, hT, hlink, hpt⟩ := hF
  subst ha
  have he := zw_get (E := E) ho
  have hlen' : (L.set o (.inr (ci, fs.set k v))).length = L.length := by simp
  have fin : ∀ (H1 : Heap) (locs1 : List Loc), va_P E.2.1 vwCl ((zw E L).set o (aD E o, .inr (ci, fs.set k v))) H1 → H1.size = H.size → va_S (fun q => base ≤ q) (kS κ).heap H1 locs1 → W κ.1 E.1 κ.2.1 κ.2.2.1 (kS κ) κ.2.2.2.2.1 κ.2.2.2.2.2.1 κ.2.2.2.2.2.2.1 κ.2.2.2.2.2.2.2.1 κ.2.2.2.2.2.2.2.2 H1 locs1 cells slots Q (F0 κ.2.2.2.2.1 (pc + 3) ls st) :=
    fun H1 locs1 g1 g2 g3 => kk ls H1 locs1 hl ⟨by rw [g2, hP.1, hlen'], by rw [← zw_set]; exact g1⟩ g3
  have hap := va_apart (own := own) hts hin ty hty hnm hKw.1 hc
  obtain ⟨r, h1, cell, q1, q2, q3, q4⟩ := hP.2 o _ he
  have hr : r = (own, T, nf ci) := Option.some.inj (h1.symm.trans hc)
  subst hr
  obtain ⟨hSl, hfc, kC, hkC, hkind⟩ := hKw.1.1 ci _ hc
  obtain ⟨cf, kf, fi, f, hi, hsl⟩ := hSl k hk
  have hlay := hts _ (hin _ (u_in_lay hk))
  have hst := (u_facts hfc hkC (u_lays hts hin hk) hi).1
  have hsame : (kS κ).fieldFound? own (T k).2.1 (T k).2.2.1 = some (cf, kf, fi, f) := by rw [← hT]; exact hi
  unfold u_lay at hlay
  by_cases hfin : (T k).2.2.2 = true
  · rw [if_pos hfin] at hlay
    have hcf : κ.2.2.2.2.1.cls = cf := by
      obtain ⟨_, _, c', _, _, _, -, -, hf', -, -, -, hown2, -⟩ := Cond.laysFinal_spec hlay
      have e1 : c' = cf := by have := hi.symm.trans hf'; simp at this; exact this.1.symm
      rw [hT] at hown2
      rw [← e1]; exact Option.some.inj (hown.symm.trans hown2)
    have h6 := u_fits hfc hkC hkind (Or.inr hlay) hi hpt hn hft
    refine W.putFinK hx hb hown (hts _ hlink) hsame hst hcf hin0 (by rw [q2]; exact h6) q1 q3 (by rw [hsl]; exact k2_hasslot (q4 k hk)) rfl rfl hd fun H' e1 e2 e3 => ?_
    rw [hsl] at e1 ⊢
    exact fin H' _ (hP.2.set (zw_D hB L) he ⟨_, hc, t_OB.to (V := updV (vp_V fs) k v) ⟨_, e1, q2, q3, t_set q4 hap hk v⟩ (fun j _ => vp_updV_set hlen v j)⟩ e3) e2 (hS.put e2 e3 ((zw_D hB L).2 o _ he))
  · rw [if_neg hfin] at hlay
    have h6 := u_store hfc hkC hkind hlay hi hpt hn hft
    refine W.putK hx hb (f := f) ⟨hown, hts _ hlink, ⟨_, _, _, hsame⟩, hst⟩ (by rw [q2]; exact h6) q1 q3 (by rw [hsl]; exact k2_hasslot (q4 k hk)) rfl rfl hd fun H' e1 e2 e3 => ?_
    rw [hsl] at e1 ⊢
    exact fin H' _ (hP.2.set (zw_D hB L) he ⟨_, hc, t_OB.to (V := updV (vp_V fs) k v) ⟨_, e1, q2, q3, t_set q4 hap hk v⟩ (fun j _ => vp_updV_set hlen v j)⟩ e3) e2 (hS.put e2 e3 ((zw_D hB L).2 o _ he))
theorem b_get (C : Bx E base κ cc nL own R) {o index ci k a : Nat} {fs : List Value} {v : Value} {t : FieldType} (hd : decode cc pc = .ok (.getfield index, 3)) (hF : Fq own index ci k t) (ha : aD E o = a) (ho : L[o]? = some (.inr (ci, fs))) (hv : fs[k]? = some v)
    (kk : Gb E base κ Q nL (pc + 3) lv (v :: st) L cells slots) : Gb E base κ Q nL pc lv (.ref a :: st) L cells slots := by
  intro ls H locs hl hP hS
  obtain ⟨hx, hb, hml, hown, hts, hKw, hB, hsz, hR⟩ := C
  obtain ⟨T, ty, ⟨hc, hci, hin, hty, hnm⟩, hk, hT, hlink, hpt⟩ := hF
  subst ha
  exact va_get (D := E.2.1) (cl := vwCl) hx hb hts hin hown hKw.1 hP.2 o (zw_get ho) hc k hk (hts _ hlink) (fun x hx => hT ▸ hx) hv hd (kk ls H locs hl hP hS)
theorem b_iast (C : Bx E base κ cc nL own R) {o a n : Nat} {f : Nat → Int32} {i x : Int} (hd : decode cc pc = .ok (.iastore, 1)) (ha : aD E o = a) (ho : L[o]? = some (.inl (cY E 20, n, .inl f))) (h0 : 0 ≤ i) (h1 : i < (n : Int)) (h2 : i < 2147483648)
    (kk : Gb E base κ Q nL (pc + 1) lv st (L.set o (.inl (cY E 20, n, .inl (upd f i.toNat (Int32.ofInt x))))) cells slots) : Gb E base κ Q nL pc lv (zi x :: zi i :: .ref a :: st) L cells slots := by
  intro ls H locs hl hP hS
  obtain ⟨hx, hb, hml, hown, hts, hKw, hB, hsz, hR⟩ := C
  obtain ⟨q1, q2⟩ := vp_in_zi h0 h1 h2
  subst ha
  have he := zw_get (E := E) ho
  refine W.iast hx hb (hP.2 o _ he) ((hKw.1.2 0 _ (show (tyE E)[0]? = some (cY E 20, .int) from rfl)).1 n (fun j => .int (f j))) (fun q => by cases q) (by show ¬ (_ < 0 ∨ (arrV _ _ _).slots.size ≤ _); rw [arrV_size]; exact q1) rfl rfl hd fun H1 e z oq => ?_
  refine kk ls H1 _ hl ⟨by rw [z, hP.1, List.length_set], ?_⟩ (hS.put z oq ((zw_D hB L).2 o _ he))
  rw [← zw_set]
  refine hP.2.set (zw_D hB L) he ?_ oq
  show H1[aD E o]? = some (vp_cell _ _)
  rw [e, ← q2, vp_cell_i, vp_cell_i, arrV_store]
  congr 2
  funext q
  by_cases hq : q = (Int32.ofInt i).toNatClampNeg
  · subst hq
    simp [updV, upd]
  · simp [updV, upd, hq]
end FB
