/-! THE FLAT PICTURE: every object and array of the class and of the reference has a number; memory is a table: number, place -> Int. -/
abbrev Mm : Type := Nat → Int → Int
def mput (M : Mm) (i : Nat) (k : Int) (x : Int) : Mm := fun a => if a = i then (fun b => if b = k then x else M i b) else M a
theorem mput_ne {M : Mm} {i a : Nat} {k x : Int} (h : a ≠ i) : mput M i k x a = M a := by simp [mput, h]
theorem mput_at {M : Mm} {i : Nat} {k x b : Int} : mput M i k x i b = if b = k then x else M i b := by simp [mput]
theorem mput_eq {M : Mm} {i : Nat} {k x : Int} : mput M i k x i k = x := by simp [mput]
theorem mput_nk {M : Mm} {i : Nat} {k x b : Int} (h : b ≠ k) : mput M i k x i b = M i b := by simp [mput, h]
def zi (z : Int) : Value := .int (Int32.ofInt z)
def zl (z : Int) : Value := .long (Int64.ofInt z)
abbrev NID : Nat := 107
def kdL : List Nat := [10, 7, 20, 9, 20, 20, 20, 9, 20, 20, 20, 9, 20, 20, 20, 20, 6, 8, 20, 20, 20, 20, 20, 20, 8, 20, 20, 20, 20, 20, 20, 2, 20, 20, 20, 21, 20, 20, 20, 20, 5, 20, 20, 1, 20, 20, 20, 20, 21, 21, 0, 20, 20, 20, 20, 4, 20, 20, 3, 20, 20, 20, 20, 20, 20, 20, 11, 22, 22, 22, 20, 22, 20, 20, 22, 20, 20, 22, 20, 20, 22, 20, 20, 20, 20, 20, 20, 20, 20, 20, 20, 20, 23, 20, 20, 20, 20, 20, 20, 20, 20, 20, 20, 20, 20, 20, 20]
def kd (i : Nat) : Nat := kdL.getD i 99
def lnL : List Nat := [0, 0, 3000, 0, 960, 60, 60, 0, 480, 30, 30, 0, 60, 10, 10, 4, 0, 0, 3000, 960, 960, 24, 24, 24, 0, 3000, 960, 960, 24, 24, 24, 0, 24, 24, 576, 360, 960, 960, 960, 256, 0, 24, 24, 0, 576, 24, 1153, 1153, 1153, 1153, 0, 24, 24, 24, 24, 0, 20, 20, 0, 10, 10, 10, 10, 1024, 10, 10, 0, 3000, 16, 960, 60, 480, 30, 30, 160, 10, 4, 15360, 960, 24, 15360, 960, 24, 24, 24, 24, 960, 960, 24, 24, 576, 24, 600, 576, 576, 24, 20, 20, 10, 10, 10, 10, 1024, 1024, 10, 10, 24]
def ln (i : Nat) : Nat := lnL.getD i 0
def nfL : List Nat := [5, 6, 9, 10, 3, 4, 7, 2, 8, 6, 16, 55]
def nf (c : Nat) : Nat := nfL.getD c 0
def ftL : List (List Nat) := [[2, 2, 2, 2, 0], [2, 2, 2, 2, 2, 2], [2, 2, 2, 2, 2, 2, 2, 2, 0], [2, 2, 2, 2, 2, 2, 2, 0, 0, 0], [2, 2, 0], [2, 2, 0, 0], [0, 0, 1, 1, 1, 1, 0], [2, 0], [2, 2, 2, 2, 2, 2, 0, 0], [0, 0, 2, 2, 2, 0], [2, 2, 2, 2, 2, 2, 3, 3, 2, 2, 2, 2, 2, 2, 1, 1], [2, 0, 2, 0, 2, 2, 0, 2, 2, 2, 0, 2, 2, 0, 2, 2, 2, 2, 2, 2, 2, 2, 2, 2, 0, 0, 0, 0, 2, 2, 2, 2, 1, 2, 2, 2, 2, 2, 2, 0, 0, 0, 2, 2, 2, 2, 2, 0, 2, 2, 2, 2, 0, 2, 2]]
def ft (c k : Nat) : Nat := (ftL.getD c []).getD k 9
def rfL : List (List Nat) := [[1, 3, 7, 11, 15, 16, 17, 24, 31, 40, 43, 50, 55, 58, 0, 0], [2, 0], [], [0, 0, 4, 5, 6, 0], [], [], [], [0, 0, 8, 9, 10, 0], [], [], [], [0, 0, 12, 13, 14, 0], [], [], [], [], [0, 0, 0, 0, 0, 0, 0], [18, 19, 20, 21, 22, 23, 0, 0], [], [], [], [], [], [], [25, 26, 27, 28, 29, 30, 0, 0], [], [], [], [], [], [], [32, 33, 34, 35, 36, 37, 38, 39, 0], [], [], [], [], [], [], [], [], [41, 42, 0, 0], [], [], [44, 45, 46, 47, 48, 49], [], [], [], [], [], [], [51, 52, 53, 54, 0], [], [], [], [], [56, 57, 0], [], [], [59, 60, 61, 62, 63, 64, 65, 0, 0, 0], [], [], [], [], [], [], [], [67, 0, 68, 0, 69, 70, 0, 71, 72, 73, 0, 74, 75, 0, 76, 77, 78, 79, 80, 81, 82, 83, 84, 85, 0, 0, 0, 0, 86, 87, 88, 89, 0, 90, 91, 92, 93, 94, 95, 0, 0, 0, 96, 97, 98, 99, 100, 0, 101, 102, 103, 104, 0, 105, 106], [], [], [], [], [], [], [], [], [], [], [], [], [], [], [], [], [], [], [], [], [], [], [], [], [], [], [], [], [], [], [], [], [], [], [], [], [], [], [], []]
def rf (i k : Nat) : Nat := (rfL.getD i []).getD k 0
abbrev vwCl : List vw_C := [(RX0, TX0, 5), (RX1, TX1, 6), (RX2, TX2, 9), (RX3, TX3, 10), (RX4, TX4, 3), (RX5, TX5, 4), (RX6, TX6, 7), (RX7, TX7, 2), (RX8, TX8, 8), (RX9, TX9, 6), (RX10, TX10, 16), (RX11, TX11, 55)]
def fv (ad : Nat → Nat) (M : Mm) (i k : Nat) : Value :=
  if ft (kd i) k = 2 then .ref (ad (rf i k)) else if ft (kd i) k = 3 then .ref (ad (M i k).toNat) else zi (M i k)
def cE (ad : Nat → Nat) (cy : Nat → ClassId) (M : Mm) (i : Nat) : va_E :=
  if kd i < 12 then .inr (kd i, (List.range (nf (kd i))).map (fv ad M i))
  else if kd i = 21 then .inl (cy 21, ln i, .inr (.inl (fun k => Int64.ofInt (M i (k : Int)))))
  else .inl (cy (kd i), ln i, .inl (fun k => Int32.ofInt (M i (k : Int))))
def wl (ad : Nat → Nat) (cy : Nat → ClassId) (M : Mm) : va_W := (List.range NID).map (fun i => (ad i, cE ad cy M i))
theorem wl_get {ad : Nat → Nat} {cy : Nat → ClassId} {M : Mm} {i : Nat} (h : i < NID) : (wl ad cy M)[i]? = some (ad i, cE ad cy M i) := by
  simp [wl, List.getElem?_range h]
theorem wl_set {ad : Nat → Nat} {cy : Nat → ClassId} {M M' : Mm} {i : Nat} (h : i < NID) {q : va_E} (he : cE ad cy M' i = q) (ho : ∀ j, j ≠ i → cE ad cy M' j = cE ad cy M j) : (wl ad cy M).set i (ad i, q) = wl ad cy M' := by
  apply List.ext_getElem?
  intro j
  by_cases hj : j = i
  · subst hj
    rw [List.getElem?_set_self (by simp [wl]; exact h), wl_get h, he]
  · rw [List.getElem?_set_ne (Ne.symm hj)]
    by_cases hN : j < NID
    · rw [wl_get hN, wl_get hN, ho j hj]
    · rw [List.getElem?_eq_none (by simp [wl]; omega), List.getElem?_eq_none (by simp [wl]; omega)]
theorem cE_other {ad : Nat → Nat} {cy : Nat → ClassId} {M : Mm} {i j : Nat} {k x : Int} (h : j ≠ i) : cE ad cy (mput M i k x) j = cE ad cy M j := by
  have h1 : mput M i k x j = M j := mput_ne h
  have h2 : fv ad (mput M i k x) j = fv ad M j := by
    funext q
    simp only [fv, h1]
  simp only [cE, h1, h2]
def Ev : Type := Launch × va_G × (Nat → Nat) × (Nat → ClassId)
def aD (E : Ev) : Nat → Nat := E.2.2.1
def cY (E : Ev) : Nat → ClassId := E.2.2.2
def zr (E : Ev) (i : Nat) : Value := .ref (aD E i)
def tyE (E : Ev) : List (ClassId × FieldType) := [(cY E 20, .int), (cY E 21, .long), (cY E 22, .byte), (cY E 23, .boolean)]
/-- the words that are steady by their kind, and those of nest mates -/
def BG : List Cond := lw_tbl.filter goodWord
def isNest : Cond → Bool
  | .fieldLinkNest _ _ _ _ _ _ => true
  | .methodLinkNest _ _ _ _ => true
  | _ => false
def NW : List Cond := tables_1.filter isNest
theorem bg_of (i : Nat) {w : Cond} (h : lw_tbl[i]? = some w) (g : goodWord w = true) : w ∈ BG := List.mem_filter.mpr ⟨List.mem_of_getElem? h, g⟩
theorem nw_of (i : Nat) {w : Cond} (h : tables_1[i]? = some w) (g : isNest w = true) : w ∈ NW := List.mem_filter.mpr ⟨List.mem_of_getElem? h, g⟩
theorem NW_warm {s U : State} (hW : s.WarmedH U.vm) (h : ∀ w ∈ NW, va_Nw w s) : ∀ w ∈ NW, va_Nw w U := by
  intro w hw
  have hn := (List.mem_filter.mp hw).2
  have hs := h w hw
  cases w <;> simp [isNest] at hn
  · exact va_Nw.warmM hW hs
  · exact va_Nw.warmF hW hs
theorem NW_same {s U : State} (e : s.vm = U.vm) (h : ∀ w ∈ NW, va_Nw w s) : ∀ w ∈ NW, va_Nw w U := by
  intro w hw
  have hn := (List.mem_filter.mp hw).2
  have hs := h w hw
  cases w <;> simp [isNest] at hn
  · exact va_Nw.same rfl e hs
  · exact va_Nw.same rfl e hs
def Kw (E : Ev) (U : State) : Prop := va_K E.2.1 vwCl (tyE E) U ∧ ∀ w ∈ NW, va_Nw w U
theorem Kw.warm {E : Ev} {s U : State} (hW : s.WarmedH U.vm) (h : Kw E s) : Kw E U := ⟨va_K.moved hW.alike h.1, NW_warm hW h.2⟩
abbrev rg (x : Int) : Prop := -2147483648 ≤ x ∧ x < 2147483648
abbrev rgl (x : Int) : Prop := -9223372036854775808 ≤ x ∧ x < 9223372036854775808
/-- what a place may hold, by the kind of its cell -/
def Ok (a : Nat) (k z : Int) : Prop := if kd a = 21 then rgl z else if kd a = 22 then (-128 ≤ z ∧ z < 128) else if kd a = 23 then (z = 0 ∨ z = 1) else if kd a < 12 ∧ ft (kd a) k.toNat = 1 then (z = 0 ∨ z = 1) else rg z
def Rg (M : Mm) : Prop := ∀ a k, Ok a k (M a k)
theorem Rg.put {M : Mm} {a : Nat} {k x : Int} (h : Rg M) (hx : Ok a k x) : Rg (mput M a k x) := by
  intro b j
  by_cases hb : b = a
  · subst hb
    by_cases hj : j = k
    · subst hj; rw [mput_eq]; exact hx
    · rw [mput_nk hj]; exact h b j
  · rw [mput_ne hb]; exact h b j
theorem Ok_i {a : Nat} {k z : Int} (h : kd a = 20) : Ok a k z ↔ rg z := by simp [Ok, h]
theorem Ok_l {a : Nat} {k z : Int} (h : kd a = 21) : Ok a k z ↔ rgl z := by simp [Ok, h]
theorem Ok_b {a : Nat} {k z : Int} (h : kd a = 22) : Ok a k z ↔ (-128 ≤ z ∧ z < 128) := by simp [Ok, h]
theorem Ok_z {a : Nat} {k z : Int} (h : kd a = 23) : Ok a k z ↔ (z = 0 ∨ z = 1) := by simp [Ok, h]
theorem Ok_f {a : Nat} {k : Nat} {z : Int} (h : kd a < 12) (hf : ft (kd a) k ≠ 1) : Ok a k z ↔ rg z := by
  unfold Ok
  rw [if_neg (by omega), if_neg (by omega), if_neg (by omega), if_neg (fun q => hf q.2)]
theorem Ok_fz {a : Nat} {k : Nat} {z : Int} (h : kd a < 12) (hf : ft (kd a) k = 1) : Ok a k z ↔ (z = 0 ∨ z = 1) := by
  unfold Ok
  rw [if_neg (by omega), if_neg (by omega), if_neg (by omega), if_pos ⟨h, hf⟩]
def Wp (E : Ev) (M : Mm) (H : Heap) : Prop := va_P E.2.1 vwCl (wl (aD E) (cY E) M) H ∧ Rg M
def Dd (E : Ev) : Prop := ∀ i j, i < NID → j < NID → aD E i = aD E j → i = j
def Ad (E : Ev) (sz : Nat) : Nat → Prop := fun q => (∃ i, i < NID ∧ q = aD E i) ∨ sz ≤ q
theorem wl_some {ad : Nat → Nat} {cy : Nat → ClassId} {M : Mm} {k : Nat} {q : Nat × va_E} (h : (wl ad cy M)[k]? = some q) : k < NID ∧ q = (ad k, cE ad cy M k) := by
  have hk : k < NID := by
    have := (List.getElem?_eq_some_iff.mp h).1
    simpa [wl] using this
  rw [wl_get hk] at h
  exact ⟨hk, (Option.some.inj h).symm⟩
theorem Dd.D {E : Ev} (h : Dd E) (M : Mm) (sz : Nat) : va_D (Ad E sz) (wl (aD E) (cY E) M) := by
  refine ⟨fun i j p q hp hq e => ?_, fun k q hq => ?_⟩
  · obtain ⟨h1, rfl⟩ := wl_some hp
    obtain ⟨h2, rfl⟩ := wl_some hq
    exact h i j h1 h2 e
  · obtain ⟨h1, rfl⟩ := wl_some hq
    exact Or.inl ⟨k, h1, rfl⟩
/-- locals by their places; none: not known -/
def Lh (ls : Array Slot) (nL : Nat) (lv : List (Option Value)) : Prop := ls.size = nL ∧ lv_wf ls ∧ lv.length = nL ∧ ∀ (i : Nat) (v : Value), lv[i]? = some (some v) → ls[i]? = some (.val v)
def lvl (lv : List (Option Value)) : List (Nat × Value) := lv.zipIdx.filterMap (fun q => q.1.map (fun v => (q.2, v)))
theorem lvl_mem {lv : List (Option Value)} {q : Nat × Value} : q ∈ lvl lv ↔ lv[q.1]? = some (some q.2) := by
  simp only [lvl, List.mem_filterMap]
  constructor
  · rintro ⟨⟨a, i⟩, h1, h2⟩
    have h3 := List.mem_zipIdx_iff_getElem?.mp h1
    cases a with
    | none => simp at h2
    | some v => simp at h2; subst h2; exact h3
  · intro h
    exact ⟨(some q.2, q.1), List.mem_zipIdx_iff_getElem?.mpr h, rfl⟩
theorem Lh.has {ls : Array Slot} {nL : Nat} {lv : List (Option Value)} (h : Lh ls nL lv) : lv_has ls nL (lvl lv) := ⟨h.1, h.2.1, fun q hq => h.2.2.2 q.1 q.2 (lvl_mem.mp hq)⟩
/-- a store of one word at i: the slot ahead of it holds no long -/
def oks (lv : List (Option Value)) (i : Nat) : Bool := match i with
  | 0 => true
  | j + 1 => match lv[j]? with
    | some (some v) => v.category == 1
    | _ => true
/-- the slot ahead of i becomes unknown if it isn't sure to be of one word -/
theorem Lh.st1 {ls ls' : Array Slot} {nL i : Nat} {lv : List (Option Value)} {v : Value} (h : Lh ls nL lv) (ho : oks lv i = true) (hs : lv_has ls' nL ((i, v) :: (lvl lv).filter (fun q => !(q.1 == i) && !(q.1 + 1 == i && q.2.category == 2)))) : Lh ls' nL (lv.set i (some v)) := by
  refine ⟨hs.1, hs.2.1, by simp [h.2.2.1], fun j w hj => ?_⟩
  by_cases hji : j = i
  · subst hji
    have hl : j < lv.length := by
      have := (List.getElem?_eq_some_iff.mp hj).1
      simpa using this
    rw [List.getElem?_set_self hl] at hj
    cases hj
    exact hs.2.2 (j, v) List.mem_cons_self
  · rw [List.getElem?_set_ne (Ne.symm hji)] at hj
    refine hs.2.2 (j, w) (List.mem_cons_of_mem _ (List.mem_filter.mpr ⟨lvl_mem.mpr hj, ?_⟩))
    have h1 : (j == i) = false := by simp [hji]
    simp only [h1, Bool.not_false, Bool.true_and, Bool.not_eq_true', Bool.and_eq_false_iff]
    by_cases hi : j + 1 = i
    · right
      subst hi
      simp only [oks, hj] at ho
      have : w.category = 1 := by simpa using ho
      rw [this]
      rfl
    · left
      simp [hi]
theorem Lh.st2 {ls ls' : Array Slot} {nL i : Nat} {lv : List (Option Value)} {v : Value} (h : Lh ls nL lv) (ho : oks lv i = true) (hs : lv_has ls' nL ((i, v) :: (lvl lv).filter (fun q => !(q.1 == i) && (!(q.1 == i + 1) && !(q.1 + 1 == i && q.2.category == 2))))) : Lh ls' nL ((lv.set i (some v)).set (i + 1) none) := by
  refine ⟨hs.1, hs.2.1, by simp [h.2.2.1], fun j w hj => ?_⟩
  by_cases hj1 : j = i + 1
  · subst hj1
    have hl : i + 1 < (lv.set i (some v)).length := by
      have := (List.getElem?_eq_some_iff.mp hj).1
      simpa using this
    rw [List.getElem?_set_self hl] at hj
    cases hj
  rw [List.getElem?_set_ne (Ne.symm hj1)] at hj
  by_cases hji : j = i
  · subst hji
    have hl : j < lv.length := by
      have := (List.getElem?_eq_some_iff.mp hj).1
      simpa using this
    rw [List.getElem?_set_self hl] at hj
    cases hj
    exact hs.2.2 (j, v) List.mem_cons_self
  · rw [List.getElem?_set_ne (Ne.symm hji)] at hj
    refine hs.2.2 (j, w) (List.mem_cons_of_mem _ (List.mem_filter.mpr ⟨lvl_mem.mpr hj, ?_⟩))
    have h1 : (j == i) = false := by simp [hji]
    have h2 : (j == i + 1) = false := by simp [hj1]
    simp only [h1, h2, Bool.not_false, Bool.true_and, Bool.not_eq_true', Bool.and_eq_false_iff]
    by_cases hi : j + 1 = i
    · right
      subst hi
      simp only [oks, hj] at ho
      have : w.category = 1 := by simpa using ho
      rw [this]
      rfl
    · left
      simp [hi]
def Kp : Type := Program × Env × Room × State × MethodId × Array Value × List Frame × Method × Code
def kS (κ : Kp) : State := κ.2.2.2.1
def rmH (h : Nat) : Room := { frames := h, cells := 0, slots := 0, locals := 40 * h }
def Qx (E : Ev) (sz : Nat) (post : Option Value → Mm → Prop) : Array Value → State → Outcome → State → Prop :=
  fun _ st oc t => (∃ (r : Option Value) (M' : Mm), oc = .returned r ∧ post r M' ∧ Wp E M' t.heap) ∧ va_F (Ad E sz) st t
def Gm (E : Ev) (κ : Kp) (post : Option Value → Mm → Prop) (nL pc : Nat) (lv : List (Option Value)) (st : List Value) (M : Mm) : Prop :=
  ∀ (ls : Array Slot) (H : Heap) (locs : List Loc), Lh ls nL lv → Wp E M H → va_S (Ad E (kS κ).heap.size) (kS κ).heap H locs →
    W κ.1 E.1 κ.2.1 κ.2.2.1 (kS κ) κ.2.2.2.2.1 κ.2.2.2.2.2.1 κ.2.2.2.2.2.2.1 κ.2.2.2.2.2.2.2.1 κ.2.2.2.2.2.2.2.2 H locs 0 0 (MQ κ.2.2.2.2.2.2.1 (Qx E (kS κ).heap.size post) κ.2.2.2.2.2.1 (kS κ) 0 0 (Ad E (kS κ).heap.size)) (F0 κ.2.2.2.2.1 pc ls st)
def Cx (E : Ev) (κ : Kp) (cc : ByteArray) (nL : Nat) (own : String) (ret : Option FieldType) (ht : Nat) : Prop :=
  κ.1.tables.exec = Jvm.exec ∧ κ.2.2.2.2.2.2.2.2.code = cc ∧ κ.2.2.2.2.2.2.2.2.maxLocals = nL ∧ (kS κ).vm.findClass own = some κ.2.2.2.2.1.cls ∧ (∀ w ∈ BG, w.before κ.2.2.2.2.2.1 (kS κ) = true) ∧ Kw E (kS κ) ∧ Dd E ∧ κ.2.2.2.2.2.2.2.1.sig.returnType = ret ∧ κ.2.2.2.2.2.2.2.1.locks = false ∧ κ.2.2.1 = rmH ht
/-- a method's contract, over the flat picture: from the values args and the memory M it returns, with post -/
def Ct (E : Ev) (y : MethodName) (cc : ByteArray) (nL : Nat) (ret : Option FieldType) (ht : Nat) (args : List Value) (M : Mm) (post : Option Value → Mm → Prop) : Prop :=
  ∀ sz : Nat, Met E.1 y (.code y cc nL ret :: BG) (rmH ht) (va_Pc args (fun U => U.heap.size = sz ∧ Wp E M U.heap ∧ Kw E U ∧ Dd E)) (Qx E sz post) 0 0 (Ad E sz)
theorem Ct.mono {E : Ev} {y : MethodName} {cc : ByteArray} {nL : Nat} {ret : Option FieldType} {ht : Nat} {args : List Value} {M : Mm} {post post' : Option Value → Mm → Prop} (h : Ct E y cc nL ret ht args M post) (hp : ∀ r M', post r M' → post' r M') : Ct E y cc nL ret ht args M post' := by
  intro sz p e ha hc hk s m a below hf happ hP _
  obtain ⟨t, o, h1, h2, h3, ⟨⟨⟨r, M', q1, q2, q3⟩, q4⟩, h5⟩⟩ := h sz p e ha hc hk s m a below hf happ hP trivial
  exact ⟨t, o, h1, h2, h3, ⟨⟨⟨r, M', q1, hp _ _ q2, q3⟩, q4⟩, h5⟩⟩
/-- what the tables say of class ci: its name, fields, their types -/
def Cl (ci : Nat) (C : String) (T : u_T) (ty : Nat → FieldType) : Prop := vwCl[ci]? = some (C, T, nf ci) ∧ ci < 12 ∧ (∀ w ∈ u_ws C T (nf ci), w ∈ BG) ∧ (∀ k, k < nf ci → parseFieldDescriptor (T k).2.2.1 = some (ty k)) ∧ ∀ a, a < nf ci → ∀ b, b < nf ci → a ≠ b → (T a).2.1 ≠ (T b).2.1
/-- entry index of own's pool is field k of class ci -/
def Fl (own : String) (index ci k : Nat) : Prop := ∃ (C : String) (T : u_T) (ty : Nat → FieldType), Cl ci C T ty ∧ k < nf ci ∧ (T k).1 = C ∧
  (Cond.fieldLink own index C (T k).2.1 (T k).2.2.1 ∈ BG ∨ ∃ host, Cond.fieldLinkNest own index C (T k).2.1 (T k).2.2.1 host ∈ NW)
def Fp (own : String) (index ci k : Nat) (t : FieldType) : Prop := ∃ (C : String) (T : u_T) (ty : Nat → FieldType), Cl ci C T ty ∧ k < nf ci ∧ (T k).1 = C ∧
  (Cond.fieldLink own index C (T k).2.1 (T k).2.2.1 ∈ BG ∨ ∃ host, Cond.fieldLinkNest own index C (T k).2.1 (T k).2.2.1 host ∈ NW) ∧ (T k).2.2.2 = false ∧ parseFieldDescriptor (T k).2.2.1 = some t
def Cy (y : MethodName) (bytes : ByteArray) (maxL : Nat) (ret : Option FieldType) (n : Nat) : Prop := Cond.code y bytes maxL ret ∈ BG ∧ Cond.initialized y.cls ∈ BG ∧ (y.cls ≠ "java/lang/invoke/MethodHandle" ∧ y.cls ≠ "java/lang/invoke/VarHandle" ∧ (parseMethodDescriptor y.desc).map (fun d => d.parameters.length) = some n) ∧ maxL ≤ 21
def Cv (y : MethodName) : Prop := Cond.instanceMethod y ∈ BG ∧ Cond.selects y.cls y y ∈ BG
def Cs (y : MethodName) : Prop := Cond.static y ∈ BG
def Lk (own : String) (index : Nat) (y : MethodName) : Prop := Cond.methodLink own index y ∈ BG ∨ ∃ host, Cond.methodLinkNest own index y host ∈ NW
