section FF
variable {E : Ev} {κ : Kp} {post : Option Value → Mm → Prop} {cc : ByteArray} {nL : Nat} {own : String} {ret : Option FieldType} {ht pc : Nat} {lv : List (Option Value)} {st : List Value} {M : Mm}
theorem fs_get {a k : Nat} (hk : k < nf (kd a)) : ((List.range (nf (kd a))).map (fv (aD E) M a))[k]? = some (fv (aD E) M a k) := by
  simp [List.getElem?_range hk]
theorem s_getv (C : Cx E κ cc nL own ret ht) {a index ci k : Nat} (hd : decode cc pc = .ok (.getfield index, 3)) (hF : Fl own index ci k) (ha : a < NID) (hka : kd a = ci) (kk : Ok a (k : Int) (M a (k : Int)) → kd a < 12 → Gm E κ post nL (pc + 3) lv (fv (aD E) M a k :: st) M) : Gm E κ post nL pc lv (zr E a :: st) M := by
  intro ls H locs hl hP hS
  obtain ⟨hx, hb, hml, hown, hts, hKw, hD, hr, hlk, hR⟩ := C
  obtain ⟨Cn, T, ty, ⟨hc, hci, hin, -, -⟩, hk, hT, hlink⟩ := hF
  subst hka
  have he : (wl (aD E) (cY E) M)[a]? = some (aD E a, .inr (kd a, (List.range (nf (kd a))).map (fv (aD E) M a))) := by
    rw [wl_get ha]; simp only [cE, if_pos hci]
  rcases hlink with h | ⟨host, h⟩
  · exact va_get (D := E.2.1) (cl := vwCl) hx hb hts hin hown hKw.1 hP.1 a he hc k hk (hts _ h) (fun x hx => hT ▸ hx) (fs_get hk) hd (kk (hP.2 a k) hci ls H locs hl hP hS)
  · exact va_getN (D := E.2.1) (cl := vwCl) hx hb hts hin hown hKw.1 hP.1 a he hc k hk (va_Nw.use rfl (hKw.2 _ h)) (fun x hx => hT ▸ hx) (fs_get hk) hd (kk (hP.2 a k) hci ls H locs hl hP hS)
theorem s_geti (C : Cx E κ cc nL own ret ht) {a index ci k : Nat} {j : Int} (hd : decode cc pc = .ok (.getfield index, 3)) (hF : Fl own index ci k) (ha : a < NID) (hka : kd a = ci) (hft : ft ci k = 0) (hj : (k : Int) = j) {z : Int} (hz : M a j = z) (kk : rg z → Gm E κ post nL (pc + 3) lv (zi z :: st) M) : Gm E κ post nL pc lv (zr E a :: st) M := by
  refine s_getv C hd hF ha hka (fun h0 h1 => ?_)
  subst hka; subst hj; subst hz
  rw [Ok_f h1 (by omega)] at h0
  have : fv (aD E) M a k = zi (M a k) := by
    simp only [fv]
    rw [if_neg (by omega), if_neg (by omega)]
  rw [this]; exact kk h0
theorem s_getz (C : Cx E κ cc nL own ret ht) {a index ci k : Nat} {j : Int} (hd : decode cc pc = .ok (.getfield index, 3)) (hF : Fl own index ci k) (ha : a < NID) (hka : kd a = ci) (hft : ft ci k = 1) (hj : (k : Int) = j) {z : Int} (hz : M a j = z) (kk : (z = 0 ∨ z = 1) → Gm E κ post nL (pc + 3) lv (zi z :: st) M) : Gm E κ post nL pc lv (zr E a :: st) M := by
  refine s_getv C hd hF ha hka (fun h0 h1 => ?_)
  subst hka; subst hj; subst hz
  rw [Ok_fz h1 hft] at h0
  have : fv (aD E) M a k = zi (M a k) := by
    simp only [fv]
    rw [if_neg (by omega), if_neg (by omega)]
  rw [this]; exact kk h0
theorem s_getr (C : Cx E κ cc nL own ret ht) {a index ci k b : Nat} (hd : decode cc pc = .ok (.getfield index, 3)) (hF : Fl own index ci k) (ha : a < NID) (hka : kd a = ci) (hft : ft ci k = 2) (hb : rf a k = b) (kk : Gm E κ post nL (pc + 3) lv (zr E b :: st) M) : Gm E κ post nL pc lv (zr E a :: st) M := by
  refine s_getv C hd hF ha hka (fun _ _ => ?_)
  have : fv (aD E) M a k = zr E b := by
    subst hka; subst hb
    simp only [fv]
    rw [if_pos hft]; rfl
  rw [this]; exact kk
theorem s_getd (C : Cx E κ cc nL own ret ht) {a index ci k b : Nat} {j : Int} (hd : decode cc pc = .ok (.getfield index, 3)) (hF : Fl own index ci k) (ha : a < NID) (hka : kd a = ci) (hft : ft ci k = 3) (hj : (k : Int) = j) (hb : M a j = (b : Int)) (kk : Gm E κ post nL (pc + 3) lv (zr E b :: st) M) : Gm E κ post nL pc lv (zr E a :: st) M := by
  refine s_getv C hd hF ha hka (fun _ _ => ?_)
  have : fv (aD E) M a k = zr E b := by
    subst hka; subst hj
    simp only [fv]
    rw [if_neg (by omega), if_pos hft, hb]; rfl
  rw [this]; exact kk
theorem cE_put {a k : Nat} {x : Int} {v : Value} (hci : kd a < 12) (hk : k < nf (kd a)) (hv : fv (aD E) (mput M a k x) a k = v) : cE (aD E) (cY E) (mput M a k x) a = .inr (kd a, ((List.range (nf (kd a))).map (fv (aD E) M a)).set k v) := by
  simp only [cE, if_pos hci]
  congr 2
  apply List.ext_getElem?
  intro j
  by_cases hj : j = k
  · subst hj
    rw [List.getElem?_set_self (by simpa using hk)]
    simp [List.getElem?_range hk, hv]
  · rw [List.getElem?_set_ne (Ne.symm hj)]
    by_cases hjn : j < nf (kd a)
    · simp only [List.getElem?_map, List.getElem?_range hjn, Option.map_some]
      simp only [fv, mput_nk (show (j : Int) ≠ (k : Int) by omega)]
    · rw [List.getElem?_eq_none (by simp; omega), List.getElem?_eq_none (by simp; omega)]
theorem s_putv (C : Cx E κ cc nL own ret ht) {a index ci k : Nat} {x : Int} {v : Value} {t : FieldType} (hd : decode cc pc = .ok (.putfield index, 3)) (hF : Fp own index ci k t) (ha : a < NID) (hka : kd a = ci) (hn : narrow t v = v) (hft : fits t v = true) (hv : fv (aD E) (mput M a k x) a k = v) (hok : kd a < 12 → Ok a (k : Int) x) (kk : Gm E κ post nL (pc + 3) lv st (mput M a k x)) : Gm E κ post nL pc lv (v :: zr E a :: st) M := by
  intro ls H locs hl hP hS
  obtain ⟨hx, hb, hml, hown, hts, hKw, hD, hr, hlk, hR⟩ := C
  obtain ⟨Cn, T, ty, ⟨hc, hci, hin, hty, hnm⟩, hk, hT, hlink, hfin, hpt⟩ := hF
  subst hka
  have he : (wl (aD E) (cY E) M)[a]? = some (aD E a, .inr (kd a, (List.range (nf (kd a))).map (fv (aD E) M a))) := by
    rw [wl_get ha]; simp only [cE, if_pos hci]
  have hset : (wl (aD E) (cY E) M).set a (aD E a, .inr (kd a, ((List.range (nf (kd a))).map (fv (aD E) M a)).set k v)) = wl (aD E) (cY E) (mput M a k x) := wl_set ha (cE_put hci hk hv) (fun j hj => cE_other hj)
  rcases hlink with h | ⟨host, h⟩
  · exact va_put (D := E.2.1) (cl := vwCl) hx hb hts hin ty hty hnm hown hKw.1 hP.1 (hD.D M _) hS a he hc k hk (hts _ h) (fun x hx => hT ▸ hx) hfin hpt hn hft (by simpa using hk) hd (fun H1 locs1 h1 _ h3 => kk ls H1 locs1 hl ⟨by rw [← hset]; exact h1, hP.2.put (hok hci)⟩ h3)
  · exact va_putN (D := E.2.1) (cl := vwCl) hx hb hts hin ty hty hnm hown hKw.1 hP.1 (hD.D M _) hS a he hc k hk (va_Nw.use rfl (hKw.2 _ h)) (fun x hx => hT ▸ hx) hfin hpt hn hft (by simpa using hk) hd (fun H1 locs1 h1 _ h3 => kk ls H1 locs1 hl ⟨by rw [← hset]; exact h1, hP.2.put (hok hci)⟩ h3)
theorem s_puti (C : Cx E κ cc nL own ret ht) {a index ci k : Nat} {x j : Int} (hd : decode cc pc = .ok (.putfield index, 3)) (hF : Fp own index ci k .int) (ha : a < NID) (hka : kd a = ci) (hft : ft ci k = 0) (hj : (k : Int) = j) (hr : rg x) (kk : Gm E κ post nL (pc + 3) lv st (mput M a j x)) : Gm E κ post nL pc lv (zi x :: zr E a :: st) M := by
  subst hj
  refine s_putv (x := x) C hd hF ha hka rfl rfl ?_ (fun h => (Ok_f h (by rw [hka]; omega)).mpr hr) kk
  subst hka
  simp only [fv, mput_eq]
  rw [if_neg (by omega), if_neg (by omega)]
theorem s_putz (C : Cx E κ cc nL own ret ht) {a index ci k : Nat} {x j : Int} (hd : decode cc pc = .ok (.putfield index, 3)) (hF : Fp own index ci k .boolean) (ha : a < NID) (hka : kd a = ci) (hft : ft ci k = 1) (hj : (k : Int) = j) (hx : x = 0 ∨ x = 1) (kk : Gm E κ post nL (pc + 3) lv st (mput M a j x)) : Gm E κ post nL pc lv (zi x :: zr E a :: st) M := by
  subst hj
  refine s_putv (x := x) C hd hF ha hka ?_ ?_ ?_ (fun h => (Ok_fz h (by rw [hka]; exact hft)).mpr hx) kk
  · rcases hx with rfl | rfl <;> rfl
  · rcases hx with rfl | rfl <;> rfl
  subst hka
  simp only [fv, mput_eq]
  rw [if_neg (by omega), if_neg (by omega)]
theorem s_putd (C : Cx E κ cc nL own ret ht) {a b index ci k : Nat} {j : Int} {n : String} (hd : decode cc pc = .ok (.putfield index, 3)) (hF : Fp own index ci k (.object n)) (ha : a < NID) (hka : kd a = ci) (hft : ft ci k = 3) (hj : (k : Int) = j) (hb : b < NID) (kk : Gm E κ post nL (pc + 3) lv st (mput M a j (b : Int))) : Gm E κ post nL pc lv (zr E b :: zr E a :: st) M := by
  subst hj
  refine s_putv (x := (b : Int)) C hd hF ha hka rfl rfl ?_ (fun h => (Ok_f h (by rw [hka]; omega)).mpr (by simp only [NID] at hb; omega)) kk
  subst hka
  simp only [fv, mput_eq]
  rw [if_neg (by omega), if_pos hft]; rfl
-- arrays
theorem cE_i {a : Nat} (h : kd a = 20 ∨ kd a = 22 ∨ kd a = 23) : cE (aD E) (cY E) M a = .inl (cY E (kd a), ln a, .inl (fun k => Int32.ofInt (M a (k : Int)))) := by
  simp only [cE]; rw [if_neg (by omega), if_neg (by omega)]
theorem cE_l {a : Nat} (h : kd a = 21) : cE (aD E) (cY E) M a = .inl (cY E 21, ln a, .inr (.inl (fun k => Int64.ofInt (M a (k : Int))))) := by
  simp only [cE]; rw [if_neg (by omega), if_pos h]
theorem s_iaload (C : Cx E κ cc nL own ret ht) {a n : Nat} {i : Int} (hd : decode cc pc = .ok (.iaload, 1)) (ha : a < NID) (hka : kd a = 20) (hn : ln a = n) (h0 : 0 ≤ i) (h1 : i < (n : Int)) (h2 : i < 2147483648) {z : Int} (hz : M a i = z) (kk : rg z → Gm E κ post nL (pc + 1) lv (zi z :: st) M) : Gm E κ post nL pc lv (zi i :: zr E a :: st) M := by
  intro ls H locs hl hP hS
  obtain ⟨hx, hb, hml, hown, hts, hKw, hD, hr, hlk, hR⟩ := C
  subst hn
  obtain ⟨q1, q2⟩ := vp_in_zi h0 h1 h2
  refine va_iald (D := E.2.1) (cl := vwCl) (tys := tyE E) hx hb hKw.1 hP.1 a 0 (by rw [wl_get ha, cE_i (Or.inl hka), hka]) rfl q1 hd ?_
  rw [q2, Int.toNat_of_nonneg h0, hz]
  exact kk ((Ok_i hka).mp (hz ▸ hP.2 a i)) ls H locs hl hP hS
theorem s_baload (C : Cx E κ cc nL own ret ht) {a n : Nat} {i : Int} (hd : decode cc pc = .ok (.baload, 1)) (ha : a < NID) (hka : kd a = 22) (hn : ln a = n) (h0 : 0 ≤ i) (h1 : i < (n : Int)) (h2 : i < 2147483648) {z : Int} (hz : M a i = z) (kk : (-128 ≤ z ∧ z < 128) → Gm E κ post nL (pc + 1) lv (zi z :: st) M) : Gm E κ post nL pc lv (zi i :: zr E a :: st) M := by
  intro ls H locs hl hP hS
  obtain ⟨hx, hb, hml, hown, hts, hKw, hD, hr, hlk, hR⟩ := C
  subst hn
  obtain ⟨q1, q2⟩ := vp_in_zi h0 h1 h2
  refine va_bald (D := E.2.1) (cl := vwCl) (tys := tyE E) hx hb hKw.1 hP.1 a 2 (by rw [wl_get ha, cE_i (by omega), hka]) rfl q1 hd ?_
  rw [q2, Int.toNat_of_nonneg h0, hz]
  exact kk ((Ok_b hka).mp (hz ▸ hP.2 a i)) ls H locs hl hP hS
theorem s_zaload (C : Cx E κ cc nL own ret ht) {a n : Nat} {i : Int} (hd : decode cc pc = .ok (.baload, 1)) (ha : a < NID) (hka : kd a = 23) (hn : ln a = n) (h0 : 0 ≤ i) (h1 : i < (n : Int)) (h2 : i < 2147483648) {z : Int} (hz : M a i = z) (kk : (z = 0 ∨ z = 1) → Gm E κ post nL (pc + 1) lv (zi z :: st) M) : Gm E κ post nL pc lv (zi i :: zr E a :: st) M := by
  intro ls H locs hl hP hS
  obtain ⟨hx, hb, hml, hown, hts, hKw, hD, hr, hlk, hR⟩ := C
  subst hn
  obtain ⟨q1, q2⟩ := vp_in_zi h0 h1 h2
  refine va_zald (D := E.2.1) (cl := vwCl) (tys := tyE E) hx hb hKw.1 hP.1 a 3 (by rw [wl_get ha, cE_i (by omega), hka]) rfl q1 hd ?_
  rw [q2, Int.toNat_of_nonneg h0, hz]
  exact kk ((Ok_z hka).mp (hz ▸ hP.2 a i)) ls H locs hl hP hS
theorem s_laload (C : Cx E κ cc nL own ret ht) {a n : Nat} {i : Int} (hd : decode cc pc = .ok (.laload, 1)) (ha : a < NID) (hka : kd a = 21) (hn : ln a = n) (h0 : 0 ≤ i) (h1 : i < (n : Int)) (h2 : i < 2147483648) {z : Int} (hz : M a i = z) (kk : rgl z → Gm E κ post nL (pc + 1) lv (zl z :: st) M) : Gm E κ post nL pc lv (zi i :: zr E a :: st) M := by
  intro ls H locs hl hP hS
  obtain ⟨hx, hb, hml, hown, hts, hKw, hD, hr, hlk, hR⟩ := C
  subst hn
  obtain ⟨q1, q2⟩ := vp_in_zi h0 h1 h2
  refine va_lald (D := E.2.1) (cl := vwCl) (tys := tyE E) hx hb hKw.1 hP.1 a 1 (by rw [wl_get ha, cE_l hka]) rfl q1 hd ?_
  rw [q2, Int.toNat_of_nonneg h0, hz]
  exact kk ((Ok_l hka).mp (hz ▸ hP.2 a i)) ls H locs hl hP hS
theorem upd_mput {a : Nat} {i x : Int} (h0 : 0 ≤ i) : upd (fun k => Int32.ofInt (M a (k : Int))) i.toNat (Int32.ofInt x) = (fun k : Nat => Int32.ofInt (mput M a i x a (k : Int))) := by
  funext k
  simp only [upd, mput_at]
  by_cases h : k = i.toNat
  · rw [if_pos h, if_pos (by omega)]
  · rw [if_neg h, if_neg (by omega)]
theorem updL_mput {a : Nat} {i x : Int} (h0 : 0 ≤ i) : vp_updL (fun k => Int64.ofInt (M a (k : Int))) i.toNat (Int64.ofInt x) = (fun k : Nat => Int64.ofInt (mput M a i x a (k : Int))) := by
  funext k
  simp only [vp_updL, mput_at]
  by_cases h : k = i.toNat
  · rw [if_pos h, if_pos (by omega)]
  · rw [if_neg h, if_neg (by omega)]
theorem s_iastore (C : Cx E κ cc nL own ret ht) {a n : Nat} {i x : Int} (hd : decode cc pc = .ok (.iastore, 1)) (ha : a < NID) (hka : kd a = 20) (hn : ln a = n) (h0 : 0 ≤ i) (h1 : i < (n : Int)) (h2 : i < 2147483648) (hr : rg x) (kk : Gm E κ post nL (pc + 1) lv st (mput M a i x)) : Gm E κ post nL pc lv (zi x :: zi i :: zr E a :: st) M := by
  intro ls H locs hl hP hS
  obtain ⟨hx, hb, hml, hown, hts, hKw, hD, hrt, hlk, hR⟩ := C
  subst hn
  obtain ⟨q1, q2⟩ := vp_in_zi h0 h1 h2
  refine va_iast (D := E.2.1) (cl := vwCl) (tys := tyE E) hx hb hKw.1 hP.1 (hD.D M _) hS a 0 (by rw [wl_get ha, cE_i (Or.inl hka), hka]) rfl q1 hd (fun H1 locs1 g1 _ g3 => kk ls H1 locs1 hl ?_ g3)
  rw [q2, upd_mput h0, wl_set ha (M' := mput M a i x) (by rw [cE_i (Or.inl hka), hka]) (fun j hj => cE_other hj)] at g1
  exact ⟨g1, hP.2.put ((Ok_i hka).mpr hr)⟩
theorem s_bastore (C : Cx E κ cc nL own ret ht) {a n : Nat} {i x : Int} (hd : decode cc pc = .ok (.bastore, 1)) (ha : a < NID) (hka : kd a = 22) (hn : ln a = n) (h0 : 0 ≤ i) (h1 : i < (n : Int)) (h2 : i < 2147483648) (hx1 : -128 ≤ x) (hx2 : x < 128) (kk : Gm E κ post nL (pc + 1) lv st (mput M a i x)) : Gm E κ post nL pc lv (zi x :: zi i :: zr E a :: st) M := by
  intro ls H locs hl hP hS
  obtain ⟨hx, hb, hml, hown, hts, hKw, hD, hr, hlk, hR⟩ := C
  subst hn
  obtain ⟨q1, q2⟩ := vp_in_zi h0 h1 h2
  have hnr : vp_nar .byte (Int32.ofInt x) = Int32.ofInt x := by
    show (Int32.ofInt x).toInt8.toInt32 = Int32.ofInt x
    rw [← Int32.toInt_inj, Int8.toInt_toInt32, Int32.toInt_toInt8, toInt_zi ⟨by omega, by omega⟩]
    exact Int.bmod_eq_of_le (by omega) (by omega)
  refine va_bast (D := E.2.1) (cl := vwCl) (tys := tyE E) hx hb hKw.1 hP.1 (hD.D M _) hS a 2 (by rw [wl_get ha, cE_i (by omega), hka]) rfl q1 hd (fun H1 locs1 g1 _ g3 => kk ls H1 locs1 hl ?_ g3)
  rw [q2, hnr, upd_mput h0, wl_set ha (M' := mput M a i x) (by rw [cE_i (by omega), hka]) (fun j hj => cE_other hj)] at g1
  exact ⟨g1, hP.2.put ((Ok_b hka).mpr ⟨hx1, hx2⟩)⟩
theorem s_zastore (C : Cx E κ cc nL own ret ht) {a n : Nat} {i x : Int} (hd : decode cc pc = .ok (.bastore, 1)) (ha : a < NID) (hka : kd a = 23) (hn : ln a = n) (h0 : 0 ≤ i) (h1 : i < (n : Int)) (h2 : i < 2147483648) (hx1 : x = 0 ∨ x = 1) (kk : Gm E κ post nL (pc + 1) lv st (mput M a i x)) : Gm E κ post nL pc lv (zi x :: zi i :: zr E a :: st) M := by
  intro ls H locs hl hP hS
  obtain ⟨hx, hb, hml, hown, hts, hKw, hD, hr, hlk, hR⟩ := C
  subst hn
  obtain ⟨q1, q2⟩ := vp_in_zi h0 h1 h2
  have hnr : vp_nar .boolean (Int32.ofInt x) = Int32.ofInt x := by
    rcases hx1 with rfl | rfl <;> decide
  refine va_zast (D := E.2.1) (cl := vwCl) (tys := tyE E) hx hb hKw.1 hP.1 (hD.D M _) hS a 3 (by rw [wl_get ha, cE_i (by omega), hka]) rfl q1 hd (fun H1 locs1 g1 _ g3 => kk ls H1 locs1 hl ?_ g3)
  rw [q2, hnr, upd_mput h0, wl_set ha (M' := mput M a i x) (by rw [cE_i (by omega), hka]) (fun j hj => cE_other hj)] at g1
  exact ⟨g1, hP.2.put ((Ok_z hka).mpr hx1)⟩
theorem s_lastore (C : Cx E κ cc nL own ret ht) {a n : Nat} {i x : Int} (hd : decode cc pc = .ok (.lastore, 1)) (ha : a < NID) (hka : kd a = 21) (hn : ln a = n) (h0 : 0 ≤ i) (h1 : i < (n : Int)) (h2 : i < 2147483648) (hr : rgl x) (kk : Gm E κ post nL (pc + 1) lv st (mput M a i x)) : Gm E κ post nL pc lv (zl x :: zi i :: zr E a :: st) M := by
  intro ls H locs hl hP hS
  obtain ⟨hx, hb, hml, hown, hts, hKw, hD, hrt, hlk, hR⟩ := C
  subst hn
  obtain ⟨q1, q2⟩ := vp_in_zi h0 h1 h2
  refine va_last (D := E.2.1) (cl := vwCl) (tys := tyE E) hx hb hKw.1 hP.1 (hD.D M _) hS a 1 (by rw [wl_get ha, cE_l hka]) rfl q1 hd (fun H1 locs1 g1 _ g3 => kk ls H1 locs1 hl ?_ g3)
  rw [q2, updL_mput h0, wl_set ha (M' := mput M a i x) (by rw [cE_l hka]) (fun j hj => cE_other hj)] at g1
  exact ⟨g1, hP.2.put ((Ok_l hka).mpr hr)⟩
-- returns
theorem s_ireturn (C : Cx E κ cc nL own (some .int) ht) {x : Int} (hd : decode cc pc = .ok (.ireturn, 1)) (hp : post (some (zi x)) M) : Gm E κ post nL pc lv [zi x] M := by
  intro ls H locs hl hP hS
  obtain ⟨hx, hb, hml, hown, hts, hKw, hD, hr, hlk, hR⟩ := C
  exact W.iret hx hb hr (fun t ht _ => ⟨⟨some (zi x), M, rfl, hp, by rw [ht]; exact hP⟩, hS.F ht⟩) (fun q hq => hS.2.2 q hq) hd
theorem s_zreturn (C : Cx E κ cc nL own (some .boolean) ht) {x : Int} (hd : decode cc pc = .ok (.ireturn, 1)) (hz : x = 0 ∨ x = 1) (hp : post (some (zi x)) M) : Gm E κ post nL pc lv [zi x] M := by
  intro ls H locs hl hP hS
  obtain ⟨hx, hb, hml, hown, hts, hKw, hD, hr, hlk, hR⟩ := C
  exact W.zret hx hb hr (by rcases hz with rfl | rfl <;> rfl) (fun t ht _ => ⟨⟨some (zi x), M, rfl, hp, by rw [ht]; exact hP⟩, hS.F ht⟩) (fun q hq => hS.2.2 q hq) hd
theorem s_return (C : Cx E κ cc nL own none ht) (hd : decode cc pc = .ok (.return_, 1)) (hp : post none M) : Gm E κ post nL pc lv [] M := by
  intro ls H locs hl hP hS
  obtain ⟨hx, hb, hml, hown, hts, hKw, hD, hr, hlk, hR⟩ := C
  exact W.vret hx hb hr (fun t ht _ => ⟨⟨none, M, rfl, hp, by rw [ht]; exact hP⟩, hS.F ht⟩) (fun q hq => hS.2.2 q hq) hd
end FF
