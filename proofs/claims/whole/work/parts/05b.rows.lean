section FR
variable {E : Ev} {κ : Kp} {post : Option Value → Mm → Prop} {cc : ByteArray} {nL : Nat} {own : String} {ret : Option FieldType} {ht pc : Nat} {lv : List (Option Value)} {st : List Value} {M : Mm}
theorem toInt_zi {x : Int} (h : rg x) : (Int32.ofInt x).toInt = x := Int32.toInt_ofInt_of_le (by omega) (by omega)
theorem toInt_zl {x : Int} (h : rgl x) : (Int64.ofInt x).toInt = x := Int64.toInt_ofInt_of_le (by omega) (by omega)
theorem ofInt_inj {x y : Int} (hx : rg x) (hy : rg y) : Int32.ofInt x = Int32.ofInt y ↔ x = y := by
  constructor
  · intro h
    have := congrArg Int32.toInt h
    rwa [toInt_zi hx, toInt_zi hy] at this
  · intro h; rw [h]
theorem ofInt_lt {x y : Int} (hx : rg x) (hy : rg y) : Int32.ofInt x < Int32.ofInt y ↔ x < y := by
  rw [Int32.lt_iff_toInt_lt, toInt_zi hx, toInt_zi hy]
theorem ofInt_le {x y : Int} (hx : rg x) (hy : rg y) : Int32.ofInt x ≤ Int32.ofInt y ↔ x ≤ y := by
  rw [Int32.le_iff_toInt_le, toInt_zi hx, toInt_zi hy]
theorem vp_in_zi {x : Int} {n : Nat} (h0 : 0 ≤ x) (h1 : x < (n : Int)) (h2 : x < 2147483648) : vp_in (Int32.ofInt x) n ∧ (Int32.ofInt x).toNatClampNeg = x.toNat := by
  have h : (Int32.ofInt x).toInt = x := toInt_zi (by omega)
  have h3 : (Int32.ofInt x).toNatClampNeg = x.toNat := by rw [← Int32.toNat_toInt, h]
  refine ⟨?_, h3⟩
  unfold vp_in
  rw [h3, Int32.lt_iff_toInt_lt, h]
  rintro (q | q)
  · have : (0 : Int32).toInt = 0 := by decide
    omega
  · omega
theorem s_eq {pc' : Nat} {lv' : List (Option Value)} {st' : List Value} {M' : Mm} (h1 : pc = pc') (h2 : lv = lv') (h3 : st = st') (h4 : M = M') (k : Gm E κ post nL pc' lv' st' M') : Gm E κ post nL pc lv st M := by
  subst h1; subst h2; subst h3; subst h4; exact k
theorem s_top {z z' : Int} (h : z = z') (k : Gm E κ post nL pc lv (zi z' :: st) M) : Gm E κ post nL pc lv (zi z :: st) M := h ▸ k
theorem s_topl {z z' : Int} (h : z = z') (k : Gm E κ post nL pc lv (zl z' :: st) M) : Gm E κ post nL pc lv (zl z :: st) M := h ▸ k
-- constants
theorem s_iconst (C : Cx E κ cc nL own ret ht) {n : Int} (hd : decode cc pc = .ok (.iconst n, 1)) (k : Gm E κ post nL (pc + 1) lv (zi n :: st) M) : Gm E κ post nL pc lv st M :=
  fun ls H locs hl hP hS => lv_iconst C.1 C.2.1 hd rfl (k ls H locs hl hP hS)
theorem s_bipush (C : Cx E κ cc nL own ret ht) {n : Int} (hd : decode cc pc = .ok (.bipush n, 2)) (hn : (Int8.ofInt n).toInt32 = Int32.ofInt n) (k : Gm E κ post nL (pc + 2) lv (zi n :: st) M) : Gm E κ post nL pc lv st M :=
  fun ls H locs hl hP hS => lv_bipush C.1 C.2.1 hd hn (k ls H locs hl hP hS)
theorem s_sipush (C : Cx E κ cc nL own ret ht) {n : Int} (hd : decode cc pc = .ok (.sipush n, 3)) (hn : (Int16.ofInt n).toInt32 = Int32.ofInt n) (k : Gm E κ post nL (pc + 3) lv (zi n :: st) M) : Gm E κ post nL pc lv st M :=
  fun ls H locs hl hP hS => lv_sipush C.1 C.2.1 hd hn (k ls H locs hl hP hS)
theorem s_lconst (C : Cx E κ cc nL own ret ht) {n : Fin 2} {z : Int} (hd : decode cc pc = .ok (.lconst n, 1)) (hn : Int64.ofNat (n : Nat) = Int64.ofInt z) (k : Gm E κ post nL (pc + 1) lv (zl z :: st) M) : Gm E κ post nL pc lv st M :=
  fun ls H locs hl hP hS => lv_lconst C.1 C.2.1 hd hn (k ls H locs hl hP hS)
theorem s_ldc (C : Cx E κ cc nL own ret ht) {index : Nat} {z : Int} (hd : decode cc pc = .ok (.ldc index, 2)) (hw : Cond.constant own index (Int32.ofInt z) ∈ BG) (k : Gm E κ post nL (pc + 2) lv (zi z :: st) M) : Gm E κ post nL pc lv st M :=
  fun ls H locs hl hP hS => lv_ldc C.1 C.2.1 C.2.2.2.1 (C.2.2.2.2.1 _ hw) hd (k ls H locs hl hP hS)
theorem s_ldcw (C : Cx E κ cc nL own ret ht) {index : Nat} {z : Int} (hd : decode cc pc = .ok (.ldc_w index, 3)) (hw : Cond.constant own index (Int32.ofInt z) ∈ BG) (k : Gm E κ post nL (pc + 3) lv (zi z :: st) M) : Gm E κ post nL pc lv st M :=
  fun ls H locs hl hP hS => lv_ldcw C.1 C.2.1 C.2.2.2.1 (C.2.2.2.2.1 _ hw) hd (k ls H locs hl hP hS)
theorem s_ldc2 (C : Cx E κ cc nL own ret ht) {index : Nat} {z : Int} (hd : decode cc pc = .ok (.ldc2_w index, 3)) (hw : Cond.constantLong own index (Int64.ofInt z) ∈ BG) (k : Gm E κ post nL (pc + 3) lv (zl z :: st) M) : Gm E κ post nL pc lv st M :=
  fun ls H locs hl hP hS => lv_ldc2 C.1 C.2.1 C.2.2.2.1 (C.2.2.2.2.1 _ hw) hd (k ls H locs hl hP hS)
-- locals
theorem s_iload_n (C : Cx E κ cc nL own ret ht) {i : Fin 4} {x : Int} (hd : decode cc pc = .ok (.iload_n i, 1)) (hl : lv[(i : Nat)]? = some (some (zi x))) (k : Gm E κ post nL (pc + 1) lv (zi x :: st) M) : Gm E κ post nL pc lv st M :=
  fun ls H locs h hP hS => lv_iload_n C.1 C.2.1 hd rfl (h.2.2.2 _ _ hl) (k ls H locs h hP hS)
theorem s_iload (C : Cx E κ cc nL own ret ht) {i : Nat} {x : Int} (hd : decode cc pc = .ok (.iload i, 2)) (hl : lv[i]? = some (some (zi x))) (k : Gm E κ post nL (pc + 2) lv (zi x :: st) M) : Gm E κ post nL pc lv st M :=
  fun ls H locs h hP hS => lv_iload C.1 C.2.1 hd (h.2.2.2 _ _ hl) (k ls H locs h hP hS)
theorem s_lload_n (C : Cx E κ cc nL own ret ht) {i : Fin 4} {x : Int} (hd : decode cc pc = .ok (.lload_n i, 1)) (hl : lv[(i : Nat)]? = some (some (zl x))) (k : Gm E κ post nL (pc + 1) lv (zl x :: st) M) : Gm E κ post nL pc lv st M :=
  fun ls H locs h hP hS => lv_lload_n C.1 C.2.1 hd rfl (h.2.2.2 _ _ hl) (k ls H locs h hP hS)
theorem s_lload (C : Cx E κ cc nL own ret ht) {i : Nat} {x : Int} (hd : decode cc pc = .ok (.lload i, 2)) (hl : lv[i]? = some (some (zl x))) (k : Gm E κ post nL (pc + 2) lv (zl x :: st) M) : Gm E κ post nL pc lv st M :=
  fun ls H locs h hP hS => lv_lload C.1 C.2.1 hd (h.2.2.2 _ _ hl) (k ls H locs h hP hS)
theorem s_aload_n (C : Cx E κ cc nL own ret ht) {i : Fin 4} {a : Nat} (hd : decode cc pc = .ok (.aload_n i, 1)) (hl : lv[(i : Nat)]? = some (some (zr E a))) (k : Gm E κ post nL (pc + 1) lv (zr E a :: st) M) : Gm E κ post nL pc lv st M :=
  fun ls H locs h hP hS => lv_aload_n C.1 C.2.1 hd rfl (h.2.2.2 _ _ hl) (k ls H locs h hP hS)
theorem s_aload (C : Cx E κ cc nL own ret ht) {i : Nat} {a : Nat} (hd : decode cc pc = .ok (.aload i, 2)) (hl : lv[i]? = some (some (zr E a))) (k : Gm E κ post nL (pc + 2) lv (zr E a :: st) M) : Gm E κ post nL pc lv st M :=
  fun ls H locs h hP hS => lv_aload C.1 C.2.1 hd (h.2.2.2 _ _ hl) (k ls H locs h hP hS)
theorem s_istore_n (C : Cx E κ cc nL own ret ht) {i : Fin 4} {x : Int} (hd : decode cc pc = .ok (.istore_n i, 1)) {lv' : List (Option Value)} (hn : (i : Nat) < nL) (ho : oks lv i = true) (he : lv.set i (some (zi x)) = lv') (k : Gm E κ post nL (pc + 1) lv' st M) : Gm E κ post nL pc lv (zi x :: st) M :=
  fun ls H locs h hP hS => lv_istore_n C.1 C.2.1 hd rfl h.has hn rfl (fun ls' hl' => k ls' H locs (he ▸ h.st1 ho hl') hP hS)
theorem s_istore (C : Cx E κ cc nL own ret ht) {i : Nat} {x : Int} (hd : decode cc pc = .ok (.istore i, 2)) {lv' : List (Option Value)} (hn : i < nL) (ho : oks lv i = true) (he : lv.set i (some (zi x)) = lv') (k : Gm E κ post nL (pc + 2) lv' st M) : Gm E κ post nL pc lv (zi x :: st) M :=
  fun ls H locs h hP hS => lv_istore C.1 C.2.1 hd h.has hn rfl (fun ls' hl' => k ls' H locs (he ▸ h.st1 ho hl') hP hS)
theorem s_lstore_n (C : Cx E κ cc nL own ret ht) {i : Fin 4} {x : Int} (hd : decode cc pc = .ok (.lstore_n i, 1)) (hn : (i : Nat) + 1 < nL) {lv' : List (Option Value)} (ho : oks lv i = true) (he : (lv.set i (some (zl x))).set (i + 1) none = lv') (k : Gm E κ post nL (pc + 1) lv' st M) : Gm E κ post nL pc lv (zl x :: st) M :=
  fun ls H locs h hP hS => lv_lstore_n C.1 C.2.1 hd rfl h.has hn rfl (fun ls' hl' => k ls' H locs (he ▸ h.st2 ho hl') hP hS)
theorem s_lstore (C : Cx E κ cc nL own ret ht) {i : Nat} {x : Int} (hd : decode cc pc = .ok (.lstore i, 2)) (hn : i + 1 < nL) {lv' : List (Option Value)} (ho : oks lv i = true) (he : (lv.set i (some (zl x))).set (i + 1) none = lv') (k : Gm E κ post nL (pc + 2) lv' st M) : Gm E κ post nL pc lv (zl x :: st) M :=
  fun ls H locs h hP hS => lv_lstore C.1 C.2.1 hd h.has hn rfl (fun ls' hl' => k ls' H locs (he ▸ h.st2 ho hl') hP hS)
theorem s_astore_n (C : Cx E κ cc nL own ret ht) {i : Fin 4} {a : Nat} (hd : decode cc pc = .ok (.astore_n i, 1)) (hn : (i : Nat) < nL) {lv' : List (Option Value)} (ho : oks lv i = true) (he : lv.set i (some (zr E a)) = lv') (k : Gm E κ post nL (pc + 1) lv' st M) : Gm E κ post nL pc lv (zr E a :: st) M :=
  fun ls H locs h hP hS => lv_astore_n C.1 C.2.1 hd rfl h.has hn rfl (fun ls' hl' => k ls' H locs (he ▸ h.st1 ho hl') hP hS)
theorem s_iinc (C : Cx E κ cc nL own ret ht) {i : Nat} {n x : Int} (hd : decode cc pc = .ok (.iinc i n, 3)) (hl : lv[i]? = some (some (zi x))) (hn : i < nL) {lv' : List (Option Value)} {z : Int} (hz : x + n = z) (ho : oks lv i = true) (he : lv.set i (some (zi z)) = lv') (k : Gm E κ post nL (pc + 3) lv' st M) : Gm E κ post nL pc lv st M := by
  intro ls H locs h hP hS
  have hm : (i, zi x) ∈ lvl lv := lvl_mem.mpr hl
  obtain ⟨j, hj⟩ := List.getElem?_of_mem hm
  exact lv_iinc C.1 C.2.1 hd h.has hj (by rw [← hz]; exact (Int32.ofInt_add x n).symm) hn rfl (fun ls' hl' => k ls' H locs (he ▸ h.st1 ho hl') hP hS)
-- arithmetic
theorem s_iadd (C : Cx E κ cc nL own ret ht) {x y : Int} (hd : decode cc pc = .ok (.iadd, 1)) (k : Gm E κ post nL (pc + 1) lv (zi (x + y) :: st) M) : Gm E κ post nL pc lv (zi y :: zi x :: st) M :=
  fun ls H locs hl hP hS => lv_iadd C.1 C.2.1 hd (Int32.ofInt_add x y ▸ k ls H locs hl hP hS)
theorem s_isub (C : Cx E κ cc nL own ret ht) {x y : Int} (hd : decode cc pc = .ok (.isub, 1)) (k : Gm E κ post nL (pc + 1) lv (zi (x - y) :: st) M) : Gm E κ post nL pc lv (zi y :: zi x :: st) M :=
  fun ls H locs hl hP hS => lv_isub C.1 C.2.1 hd (Int32.ofInt_sub x y ▸ k ls H locs hl hP hS)
theorem s_imul (C : Cx E κ cc nL own ret ht) {x y : Int} (hd : decode cc pc = .ok (.imul, 1)) (k : Gm E κ post nL (pc + 1) lv (zi (x * y) :: st) M) : Gm E κ post nL pc lv (zi y :: zi x :: st) M :=
  fun ls H locs hl hP hS => lv_imul C.1 C.2.1 hd (Int32.ofInt_mul x y ▸ k ls H locs hl hP hS)
theorem s_ineg (C : Cx E κ cc nL own ret ht) {x : Int} (hd : decode cc pc = .ok (.ineg, 1)) (k : Gm E κ post nL (pc + 1) lv (zi (-x) :: st) M) : Gm E κ post nL pc lv (zi x :: st) M :=
  fun ls H locs hl hP hS => lv_ineg C.1 C.2.1 hd (Int32.ofInt_neg x ▸ k ls H locs hl hP hS)
theorem zi_toInt (v : Int32) : zi v.toInt = .int v := by simp [zi]
theorem zl_toInt (v : Int64) : zl v.toInt = .long v := by simp [zl]
def zand (x y : Int) : Int := (Int32.ofInt x &&& Int32.ofInt y).toInt
def zor (x y : Int) : Int := (Int32.ofInt x ||| Int32.ofInt y).toInt
def zxor (x y : Int) : Int := (Int32.ofInt x ^^^ Int32.ofInt y).toInt
def zshl (x y : Int) : Int := (Int32.ofInt x <<< (Int32.ofInt y &&& 31)).toInt
def zshr (x y : Int) : Int := (Int32.ofInt x >>> (Int32.ofInt y &&& 31)).toInt
def zushr (x y : Int) : Int := ((Int32.ofInt x).toUInt32 >>> ((Int32.ofInt y).toUInt32 &&& Int32.toUInt32 31)).toInt32.toInt
def zdiv (x y : Int) : Int := (Int32.ofInt x / Int32.ofInt y).toInt
def zrem (x y : Int) : Int := (Int32.ofInt x - Int32.ofInt x / Int32.ofInt y * Int32.ofInt y).toInt
def zland (x y : Int) : Int := (Int64.ofInt x &&& Int64.ofInt y).toInt
def zlor (x y : Int) : Int := (Int64.ofInt x ||| Int64.ofInt y).toInt
def zlxor (x y : Int) : Int := (Int64.ofInt x ^^^ Int64.ofInt y).toInt
def zlshl (x y : Int) : Int := (Int64.ofInt x <<< ((Int32.ofInt y).toInt64 &&& 63)).toInt
def zlushr (x y : Int) : Int := ((Int64.ofInt x).toUInt64 >>> ((Int32.ofInt y).toInt64.toUInt64 &&& Int64.toUInt64 63)).toInt64.toInt
theorem s_iand (C : Cx E κ cc nL own ret ht) {x y : Int} (hd : decode cc pc = .ok (.iand, 1)) (k : Gm E κ post nL (pc + 1) lv (zi (zand x y) :: st) M) : Gm E κ post nL pc lv (zi y :: zi x :: st) M :=
  fun ls H locs hl hP hS => lv_iand C.1 C.2.1 hd (zi_toInt _ ▸ k ls H locs hl hP hS)
theorem s_ior (C : Cx E κ cc nL own ret ht) {x y : Int} (hd : decode cc pc = .ok (.ior, 1)) (k : Gm E κ post nL (pc + 1) lv (zi (zor x y) :: st) M) : Gm E κ post nL pc lv (zi y :: zi x :: st) M :=
  fun ls H locs hl hP hS => lv_ior C.1 C.2.1 hd (zi_toInt _ ▸ k ls H locs hl hP hS)
theorem s_ixor (C : Cx E κ cc nL own ret ht) {x y : Int} (hd : decode cc pc = .ok (.ixor, 1)) (k : Gm E κ post nL (pc + 1) lv (zi (zxor x y) :: st) M) : Gm E κ post nL pc lv (zi y :: zi x :: st) M :=
  fun ls H locs hl hP hS => lv_ixor C.1 C.2.1 hd (zi_toInt _ ▸ k ls H locs hl hP hS)
theorem s_ishl (C : Cx E κ cc nL own ret ht) {x y : Int} (hd : decode cc pc = .ok (.ishl, 1)) (k : Gm E κ post nL (pc + 1) lv (zi (zshl x y) :: st) M) : Gm E κ post nL pc lv (zi y :: zi x :: st) M :=
  fun ls H locs hl hP hS => lv_ishl C.1 C.2.1 hd (zi_toInt _ ▸ k ls H locs hl hP hS)
theorem s_ishr (C : Cx E κ cc nL own ret ht) {x y : Int} (hd : decode cc pc = .ok (.ishr, 1)) (k : Gm E κ post nL (pc + 1) lv (zi (zshr x y) :: st) M) : Gm E κ post nL pc lv (zi y :: zi x :: st) M :=
  fun ls H locs hl hP hS => lv_ishr C.1 C.2.1 hd (zi_toInt _ ▸ k ls H locs hl hP hS)
theorem s_iushr (C : Cx E κ cc nL own ret ht) {x y : Int} (hd : decode cc pc = .ok (.iushr, 1)) (k : Gm E κ post nL (pc + 1) lv (zi (zushr x y) :: st) M) : Gm E κ post nL pc lv (zi y :: zi x :: st) M :=
  fun ls H locs hl hP hS => lv_iushr C.1 C.2.1 hd rfl (zi_toInt _ ▸ k ls H locs hl hP hS)
theorem s_idiv (C : Cx E κ cc nL own ret ht) {x y : Int} (hd : decode cc pc = .ok (.idiv, 1)) (hy : ¬ Int32.ofInt y = 0) (k : Gm E κ post nL (pc + 1) lv (zi (zdiv x y) :: st) M) : Gm E κ post nL pc lv (zi y :: zi x :: st) M :=
  fun ls H locs hl hP hS => lv_idiv C.1 C.2.1 hd hy (zi_toInt _ ▸ k ls H locs hl hP hS)
theorem s_irem (C : Cx E κ cc nL own ret ht) {x y : Int} (hd : decode cc pc = .ok (.irem, 1)) (hy : ¬ Int32.ofInt y = 0) (k : Gm E κ post nL (pc + 1) lv (zi (zrem x y) :: st) M) : Gm E κ post nL pc lv (zi y :: zi x :: st) M :=
  fun ls H locs hl hP hS => lv_irem C.1 C.2.1 hd hy (zi_toInt _ ▸ k ls H locs hl hP hS)
theorem s_ladd (C : Cx E κ cc nL own ret ht) {x y : Int} (hd : decode cc pc = .ok (.ladd, 1)) (k : Gm E κ post nL (pc + 1) lv (zl (x + y) :: st) M) : Gm E κ post nL pc lv (zl y :: zl x :: st) M :=
  fun ls H locs hl hP hS => lv_ladd C.1 C.2.1 hd (Int64.ofInt_add x y ▸ k ls H locs hl hP hS)
theorem s_land (C : Cx E κ cc nL own ret ht) {x y : Int} (hd : decode cc pc = .ok (.land, 1)) (k : Gm E κ post nL (pc + 1) lv (zl (zland x y) :: st) M) : Gm E κ post nL pc lv (zl y :: zl x :: st) M :=
  fun ls H locs hl hP hS => lv_land C.1 C.2.1 hd (zl_toInt _ ▸ k ls H locs hl hP hS)
theorem s_lor (C : Cx E κ cc nL own ret ht) {x y : Int} (hd : decode cc pc = .ok (.lor, 1)) (k : Gm E κ post nL (pc + 1) lv (zl (zlor x y) :: st) M) : Gm E κ post nL pc lv (zl y :: zl x :: st) M :=
  fun ls H locs hl hP hS => lv_lor C.1 C.2.1 hd (zl_toInt _ ▸ k ls H locs hl hP hS)
theorem s_lxor (C : Cx E κ cc nL own ret ht) {x y : Int} (hd : decode cc pc = .ok (.lxor, 1)) (k : Gm E κ post nL (pc + 1) lv (zl (zlxor x y) :: st) M) : Gm E κ post nL pc lv (zl y :: zl x :: st) M :=
  fun ls H locs hl hP hS => lv_lxor C.1 C.2.1 hd (zl_toInt _ ▸ k ls H locs hl hP hS)
theorem s_lsub (C : Cx E κ cc nL own ret ht) {x y : Int} (hd : decode cc pc = .ok (.lsub, 1)) (k : Gm E κ post nL (pc + 1) lv (zl (x - y) :: st) M) : Gm E κ post nL pc lv (zl y :: zl x :: st) M :=
  fun ls H locs hl hP hS => lv_lsub C.1 C.2.1 hd (Int64.ofInt_sub x y ▸ k ls H locs hl hP hS)
theorem s_lshl (C : Cx E κ cc nL own ret ht) {x y : Int} (hd : decode cc pc = .ok (.lshl, 1)) (k : Gm E κ post nL (pc + 1) lv (zl (zlshl x y) :: st) M) : Gm E κ post nL pc lv (zi y :: zl x :: st) M :=
  fun ls H locs hl hP hS => lv_lshl C.1 C.2.1 hd rfl (zl_toInt _ ▸ k ls H locs hl hP hS)
theorem s_lushr (C : Cx E κ cc nL own ret ht) {x y : Int} (hd : decode cc pc = .ok (.lushr, 1)) (k : Gm E κ post nL (pc + 1) lv (zl (zlushr x y) :: st) M) : Gm E κ post nL pc lv (zi y :: zl x :: st) M :=
  fun ls H locs hl hP hS => lv_lushr C.1 C.2.1 hd rfl (zl_toInt _ ▸ k ls H locs hl hP hS)
theorem s_i2l (C : Cx E κ cc nL own ret ht) {x : Int} (hd : decode cc pc = .ok (.i2l, 1)) (hx : rg x) (k : Gm E κ post nL (pc + 1) lv (zl x :: st) M) : Gm E κ post nL pc lv (zi x :: st) M :=
  fun ls H locs hl hP hS => lv_i2l C.1 C.2.1 hd (Int64.toInt_inj.mp (by rw [Int32.toInt_toInt64, toInt_zi hx, toInt_zl (by omega)])) (k ls H locs hl hP hS)
def zl2i (x : Int) : Int := (Int64.ofInt x).toInt32.toInt
theorem s_l2i (C : Cx E κ cc nL own ret ht) {x : Int} (hd : decode cc pc = .ok (.l2i, 1)) (k : Gm E κ post nL (pc + 1) lv (zi (zl2i x) :: st) M) : Gm E κ post nL pc lv (zl x :: st) M :=
  fun ls H locs hl hP hS => lv_l2i C.1 C.2.1 hd rfl (zi_toInt _ ▸ k ls H locs hl hP hS)
def zb (x : Int) : Int := (Int32.ofInt x).toInt8.toInt32.toInt
theorem s_i2b (C : Cx E κ cc nL own ret ht) {x : Int} (hd : decode cc pc = .ok (.i2b, 1)) (k : Gm E κ post nL (pc + 1) lv (zi (zb x) :: st) M) : Gm E κ post nL pc lv (zi x :: st) M :=
  fun ls H locs hl hP hS => lv_i2b C.1 C.2.1 hd rfl (zi_toInt _ ▸ k ls H locs hl hP hS)
theorem cat_zi (x : Int) : (zi x).category = 1 := rfl
theorem cat_zl (x : Int) : (zl x).category = 2 := rfl
theorem cat_zr (E : Ev) (a : Nat) : (zr E a).category = 1 := rfl
theorem s_dup (C : Cx E κ cc nL own ret ht) {v : Value} (hd : decode cc pc = .ok (.dup, 1)) (hv : v.category = 1) (k : Gm E κ post nL (pc + 1) lv (v :: v :: st) M) : Gm E κ post nL pc lv (v :: st) M :=
  fun ls H locs hl hP hS => lv_dup C.1 C.2.1 hd hv (k ls H locs hl hP hS)
theorem s_pop (C : Cx E κ cc nL own ret ht) {v : Value} (hd : decode cc pc = .ok (.pop, 1)) (hv : v.category = 1) (k : Gm E κ post nL (pc + 1) lv st M) : Gm E κ post nL pc lv (v :: st) M :=
  fun ls H locs hl hP hS => lv_pop C.1 C.2.1 hd hv (k ls H locs hl hP hS)
theorem s_dup2 (C : Cx E κ cc nL own ret ht) {v w : Value} (hd : decode cc pc = .ok (.dup2, 1)) (hv : v.category = 1) (hw : w.category = 1) (k : Gm E κ post nL (pc + 1) lv (v :: w :: v :: w :: st) M) : Gm E κ post nL pc lv (v :: w :: st) M :=
  fun ls H locs hl hP hS => lv_dup2_11 C.1 C.2.1 hd hv hw (k ls H locs hl hP hS)
-- branches
theorem s_goto (C : Cx E κ cc nL own ret ht) {off : Int} {tgt : Nat} (hd : decode cc pc = .ok (.goto off, 3)) (h : (pc : Int) + off = (tgt : Int)) (k : Gm E κ post nL tgt lv st M) : Gm E κ post nL pc lv st M :=
  fun ls H locs hl hP hS => lv_goto C.1 C.2.1 hd h (k ls H locs hl hP hS)
theorem rg_0 : rg 0 := by decide
theorem s_icmp_lt (C : Cx E κ cc nL own ret ht) {x y off : Int} {tgt : Nat} (hd : decode cc pc = .ok (.if_icmp .lt off, 3)) (h : (pc : Int) + off = (tgt : Int)) (hx : rg x) (hy : rg y) (kt : x < y → Gm E κ post nL tgt lv st M) (kf : y ≤ x → Gm E κ post nL (pc + 3) lv st M) : Gm E κ post nL pc lv (zi y :: zi x :: st) M := by
  intro ls H locs hl hP hS
  exact lv_icmp_lt C.1 C.2.1 hd h (fun q => kt ((ofInt_lt hx hy).mp q) ls H locs hl hP hS) (fun q => kf (Int.not_lt.mp (fun z => q ((ofInt_lt hx hy).mpr z))) ls H locs hl hP hS)
theorem s_if_lt (C : Cx E κ cc nL own ret ht) {x off : Int} {tgt : Nat} (hd : decode cc pc = .ok (.ifCond .lt off, 3)) (h : (pc : Int) + off = (tgt : Int)) (hx : rg x) (kt : x < 0 → Gm E κ post nL tgt lv st M) (kf : 0 ≤ x → Gm E κ post nL (pc + 3) lv st M) : Gm E κ post nL pc lv (zi x :: st) M := by
  intro ls H locs hl hP hS
  exact lv_if_lt C.1 C.2.1 hd h (fun q => kt ((ofInt_lt hx (rg_0)).mp q) ls H locs hl hP hS) (fun q => kf (Int.not_lt.mp (fun z => q ((ofInt_lt hx (rg_0)).mpr z))) ls H locs hl hP hS)
theorem s_icmp_ge (C : Cx E κ cc nL own ret ht) {x y off : Int} {tgt : Nat} (hd : decode cc pc = .ok (.if_icmp .ge off, 3)) (h : (pc : Int) + off = (tgt : Int)) (hx : rg x) (hy : rg y) (kt : y ≤ x → Gm E κ post nL tgt lv st M) (kf : x < y → Gm E κ post nL (pc + 3) lv st M) : Gm E κ post nL pc lv (zi y :: zi x :: st) M := by
  intro ls H locs hl hP hS
  exact lv_icmp_ge C.1 C.2.1 hd h (fun q => kt ((ofInt_le hy hx).mp q) ls H locs hl hP hS) (fun q => kf (Int.not_le.mp (fun z => q ((ofInt_le hy hx).mpr z))) ls H locs hl hP hS)
theorem s_if_ge (C : Cx E κ cc nL own ret ht) {x off : Int} {tgt : Nat} (hd : decode cc pc = .ok (.ifCond .ge off, 3)) (h : (pc : Int) + off = (tgt : Int)) (hx : rg x) (kt : 0 ≤ x → Gm E κ post nL tgt lv st M) (kf : x < 0 → Gm E κ post nL (pc + 3) lv st M) : Gm E κ post nL pc lv (zi x :: st) M := by
  intro ls H locs hl hP hS
  exact lv_if_ge C.1 C.2.1 hd h (fun q => kt ((ofInt_le (rg_0) hx).mp q) ls H locs hl hP hS) (fun q => kf (Int.not_le.mp (fun z => q ((ofInt_le (rg_0) hx).mpr z))) ls H locs hl hP hS)
theorem s_icmp_gt (C : Cx E κ cc nL own ret ht) {x y off : Int} {tgt : Nat} (hd : decode cc pc = .ok (.if_icmp .gt off, 3)) (h : (pc : Int) + off = (tgt : Int)) (hx : rg x) (hy : rg y) (kt : y < x → Gm E κ post nL tgt lv st M) (kf : x ≤ y → Gm E κ post nL (pc + 3) lv st M) : Gm E κ post nL pc lv (zi y :: zi x :: st) M := by
  intro ls H locs hl hP hS
  exact lv_icmp_gt C.1 C.2.1 hd h (fun q => kt ((ofInt_lt hy hx).mp q) ls H locs hl hP hS) (fun q => kf (Int.not_lt.mp (fun z => q ((ofInt_lt hy hx).mpr z))) ls H locs hl hP hS)
theorem s_if_gt (C : Cx E κ cc nL own ret ht) {x off : Int} {tgt : Nat} (hd : decode cc pc = .ok (.ifCond .gt off, 3)) (h : (pc : Int) + off = (tgt : Int)) (hx : rg x) (kt : 0 < x → Gm E κ post nL tgt lv st M) (kf : x ≤ 0 → Gm E κ post nL (pc + 3) lv st M) : Gm E κ post nL pc lv (zi x :: st) M := by
  intro ls H locs hl hP hS
  exact lv_if_gt C.1 C.2.1 hd h (fun q => kt ((ofInt_lt (rg_0) hx).mp q) ls H locs hl hP hS) (fun q => kf (Int.not_lt.mp (fun z => q ((ofInt_lt (rg_0) hx).mpr z))) ls H locs hl hP hS)
theorem s_icmp_le (C : Cx E κ cc nL own ret ht) {x y off : Int} {tgt : Nat} (hd : decode cc pc = .ok (.if_icmp .le off, 3)) (h : (pc : Int) + off = (tgt : Int)) (hx : rg x) (hy : rg y) (kt : x ≤ y → Gm E κ post nL tgt lv st M) (kf : y < x → Gm E κ post nL (pc + 3) lv st M) : Gm E κ post nL pc lv (zi y :: zi x :: st) M := by
  intro ls H locs hl hP hS
  exact lv_icmp_le C.1 C.2.1 hd h (fun q => kt ((ofInt_le hx hy).mp q) ls H locs hl hP hS) (fun q => kf (Int.not_le.mp (fun z => q ((ofInt_le hx hy).mpr z))) ls H locs hl hP hS)
theorem s_if_le (C : Cx E κ cc nL own ret ht) {x off : Int} {tgt : Nat} (hd : decode cc pc = .ok (.ifCond .le off, 3)) (h : (pc : Int) + off = (tgt : Int)) (hx : rg x) (kt : x ≤ 0 → Gm E κ post nL tgt lv st M) (kf : 0 < x → Gm E κ post nL (pc + 3) lv st M) : Gm E κ post nL pc lv (zi x :: st) M := by
  intro ls H locs hl hP hS
  exact lv_if_le C.1 C.2.1 hd h (fun q => kt ((ofInt_le hx (rg_0)).mp q) ls H locs hl hP hS) (fun q => kf (Int.not_le.mp (fun z => q ((ofInt_le hx (rg_0)).mpr z))) ls H locs hl hP hS)
theorem s_icmp_eq (C : Cx E κ cc nL own ret ht) {x y off : Int} {tgt : Nat} (hd : decode cc pc = .ok (.if_icmp .eq off, 3)) (h : (pc : Int) + off = (tgt : Int)) (hx : rg x) (hy : rg y) (kt : x = y → Gm E κ post nL tgt lv st M) (kf : x ≠ y → Gm E κ post nL (pc + 3) lv st M) : Gm E κ post nL pc lv (zi y :: zi x :: st) M := by
  intro ls H locs hl hP hS
  exact lv_icmp_eq C.1 C.2.1 hd h (fun q => kt ((ofInt_inj hx hy).mp q) ls H locs hl hP hS) (fun q => kf ( (fun z => q ((ofInt_inj hx hy).mpr z))) ls H locs hl hP hS)
theorem s_if_eq (C : Cx E κ cc nL own ret ht) {x off : Int} {tgt : Nat} (hd : decode cc pc = .ok (.ifCond .eq off, 3)) (h : (pc : Int) + off = (tgt : Int)) (hx : rg x) (kt : x = 0 → Gm E κ post nL tgt lv st M) (kf : x ≠ 0 → Gm E κ post nL (pc + 3) lv st M) : Gm E κ post nL pc lv (zi x :: st) M := by
  intro ls H locs hl hP hS
  exact lv_if_eq C.1 C.2.1 hd h (fun q => kt ((ofInt_inj hx (rg_0)).mp q) ls H locs hl hP hS) (fun q => kf ( (fun z => q ((ofInt_inj hx (rg_0)).mpr z))) ls H locs hl hP hS)
theorem s_icmp_ne (C : Cx E κ cc nL own ret ht) {x y off : Int} {tgt : Nat} (hd : decode cc pc = .ok (.if_icmp .ne off, 3)) (h : (pc : Int) + off = (tgt : Int)) (hx : rg x) (hy : rg y) (kt : x ≠ y → Gm E κ post nL tgt lv st M) (kf : x = y → Gm E κ post nL (pc + 3) lv st M) : Gm E κ post nL pc lv (zi y :: zi x :: st) M := by
  intro ls H locs hl hP hS
  exact lv_icmp_ne C.1 C.2.1 hd h (fun q => kt (fun z => q ((ofInt_inj hx hy).mpr z)) ls H locs hl hP hS) (fun q => kf ((ofInt_inj hx hy).mp q) ls H locs hl hP hS)
theorem s_if_ne (C : Cx E κ cc nL own ret ht) {x off : Int} {tgt : Nat} (hd : decode cc pc = .ok (.ifCond .ne off, 3)) (h : (pc : Int) + off = (tgt : Int)) (hx : rg x) (kt : x ≠ 0 → Gm E κ post nL tgt lv st M) (kf : x = 0 → Gm E κ post nL (pc + 3) lv st M) : Gm E κ post nL pc lv (zi x :: st) M := by
  intro ls H locs hl hP hS
  exact lv_if_ne C.1 C.2.1 hd h (fun q => kt (fun z => q ((ofInt_inj hx (rg_0)).mpr z)) ls H locs hl hP hS) (fun q => kf ((ofInt_inj hx (rg_0)).mp q) ls H locs hl hP hS)
def cmpI (x y : Int) : Int := if y < x then 1 else if x = y then 0 else -1
theorem cmpI_spec (x y : Int) : (cmpI x y = 0 ↔ x = y) ∧ (cmpI x y < 0 ↔ x < y) ∧ -1 ≤ cmpI x y ∧ cmpI x y ≤ 1 := by
  unfold cmpI
  split
  · omega
  · split <;> omega
theorem s_lcmp (C : Cx E κ cc nL own ret ht) {x y : Int} (hd : decode cc pc = .ok (.lcmp, 1)) (hx : rgl x) (hy : rgl y) (k : Gm E κ post nL (pc + 1) lv (zi (cmpI x y) :: st) M) : Gm E κ post nL pc lv (zl y :: zl x :: st) M := by
  intro ls H locs hl hP hS
  refine W.lcmp C.1 C.2.1 hd ?_
  have h := k ls H locs hl hP hS
  have e : lg_cmp (Int64.ofInt x) (Int64.ofInt y) = Int32.ofInt (cmpI x y) := by
    unfold lg_cmp cmpI
    have h1 : (Int64.ofInt x > Int64.ofInt y) ↔ y < x := by
      show Int64.ofInt y < Int64.ofInt x ↔ y < x
      rw [Int64.lt_iff_toInt_lt, toInt_zl hx, toInt_zl hy]
    have h2 : Int64.ofInt x = Int64.ofInt y ↔ x = y := by
      rw [← Int64.toInt_inj, toInt_zl hx, toInt_zl hy]
    by_cases c1 : y < x
    · rw [if_pos (h1.mpr c1), if_pos c1]; rfl
    · rw [if_neg (fun q => c1 (h1.mp q)), if_neg c1]
      by_cases c2 : x = y
      · rw [if_pos (h2.mpr c2), if_pos c2]; rfl
      · rw [if_neg (fun q => c2 (h2.mp q)), if_neg c2]; rfl
  rw [e]
  exact h
theorem s_tabc (C : Cx E κ cc nL own ret ht) {x v off dflt lo hi : Int} {offs : Array Int} {len tgt : Nat} (hd : decode cc pc = .ok (.tableswitch dflt lo hi offs, len)) (hx : rg x) (hv : lo ≤ v ∧ v ≤ hi) (ho : offs[(v - lo).toNat]? = some off) (h : (pc : Int) + off = (tgt : Int)) (kt : x = v → Gm E κ post nL tgt lv st M) (kf : x ≠ v → Gm E κ post nL pc lv (zi x :: st) M) : Gm E κ post nL pc lv (zi x :: st) M := by
  by_cases c : x = v
  · subst c
    intro ls H locs hl hP hS
    exact lv_tableIn C.1 C.2.1 hd (by rw [toInt_zi hx]; omega) (by rw [toInt_zi hx]; omega) (by rw [toInt_zi hx]; exact ho) h (kt rfl ls H locs hl hP hS)
  · exact kf c
theorem s_tabd (C : Cx E κ cc nL own ret ht) {x dflt lo hi : Int} {offs : Array Int} {len tgt : Nat} (hd : decode cc pc = .ok (.tableswitch dflt lo hi offs, len)) (hx : rg x) (hv : x < lo ∨ hi < x) (h : (pc : Int) + dflt = (tgt : Int)) (k : Gm E κ post nL tgt lv st M) : Gm E κ post nL pc lv (zi x :: st) M := by
  intro ls H locs hl hP hS
  exact lv_tableOut C.1 C.2.1 hd (by rw [toInt_zi hx]; exact hv) h (k ls H locs hl hP hS)
theorem s_lookc (C : Cx E κ cc nL own ret ht) {x v off dflt : Int} {ps : Array (Int × Int)} {len tgt : Nat} (hd : decode cc pc = .ok (.lookupswitch dflt ps, len)) (hp : (ps.toList.zip (ps.toList.drop 1)).all (fun (a, next) => a.1 < next.1) = true) (hx : rg x) (ho : Op.lookupswitch.offset ps.toList dflt v = off) (h : (pc : Int) + off = (tgt : Int)) (kt : x = v → Gm E κ post nL tgt lv st M) (kf : x ≠ v → Gm E κ post nL pc lv (zi x :: st) M) : Gm E κ post nL pc lv (zi x :: st) M := by
  by_cases c : x = v
  · subst c
    intro ls H locs hl hP hS
    exact lv_lookup C.1 C.2.1 hd hp (by rw [toInt_zi hx]; exact ho) h (kt rfl ls H locs hl hP hS)
  · exact kf c
theorem s_lookd (C : Cx E κ cc nL own ret ht) {x dflt : Int} {ps : Array (Int × Int)} {len tgt : Nat} (hd : decode cc pc = .ok (.lookupswitch dflt ps, len)) (hp : (ps.toList.zip (ps.toList.drop 1)).all (fun (a, next) => a.1 < next.1) = true) (hx : rg x) (ho : Op.lookupswitch.offset ps.toList dflt x = dflt) (h : (pc : Int) + dflt = (tgt : Int)) (k : Gm E κ post nL tgt lv st M) : Gm E κ post nL pc lv (zi x :: st) M := by
  intro ls H locs hl hP hS
  exact lv_lookup C.1 C.2.1 hd hp (by rw [toInt_zi hx]; exact ho) h (k ls H locs hl hP hS)
theorem rg_toInt (v : Int32) : rg v.toInt := ⟨Int32.le_toInt v, Int32.toInt_lt v⟩
theorem rgl_toInt (v : Int64) : rgl v.toInt := ⟨Int64.le_toInt v, Int64.toInt_lt v⟩
end FR
