/-! rows: an instruction each; what is between the brackets is a walk's goal -/
theorem i_lt {a b : Int} (ha : -2147483648 ≤ a ∧ a < 2147483648) (hb : -2147483648 ≤ b ∧ b < 2147483648) : Int32.ofInt a < Int32.ofInt b ↔ a < b := by
  rw [Int32.lt_iff_toInt_lt, Int32.toInt_ofInt_of_le (by omega) (by omega), Int32.toInt_ofInt_of_le (by omega) (by omega)]
theorem i_le {a b : Int} (ha : -2147483648 ≤ a ∧ a < 2147483648) (hb : -2147483648 ≤ b ∧ b < 2147483648) : Int32.ofInt a ≤ Int32.ofInt b ↔ a ≤ b := by
  rw [Int32.le_iff_toInt_le, Int32.toInt_ofInt_of_le (by omega) (by omega), Int32.toInt_ofInt_of_le (by omega) (by omega)]
theorem i_eq {a b : Int} (ha : -2147483648 ≤ a ∧ a < 2147483648) (hb : -2147483648 ≤ b ∧ b < 2147483648) : Int32.ofInt a = Int32.ofInt b ↔ a = b := by
  rw [← Int32.toInt_inj, Int32.toInt_ofInt_of_le (by omega) (by omega), Int32.toInt_ofInt_of_le (by omega) (by omega)]
theorem i_toInt {a : Int} (ha : -2147483648 ≤ a ∧ a < 2147483648) : (Int32.ofInt a).toInt = a := Int32.toInt_ofInt_of_le (by omega) (by omega)
theorem i_back (x : Int32) : Int32.ofInt x.toInt = x := Int32.ofInt_toInt x
theorem i_in {a : Int} {n : Nat} (h : 0 ≤ a ∧ a < n) (hn : n < 2147483648) : vp_in (Int32.ofInt a) n := by
  rw [vp_in_iff, i_toInt (by omega)]
  exact h
theorem i_cl {a : Int} (h : 0 ≤ a ∧ a < 2147483648) : ((Int32.ofInt a).toNatClampNeg : Int) = a := by
  show (((Int32.ofInt a).toInt.toNat : Nat) : Int) = a
  rw [i_toInt (by omega)]
  omega
def iAnd (a b : Int) : Int := (Int32.ofInt a &&& Int32.ofInt b).toInt
def iOr (a b : Int) : Int := (Int32.ofInt a ||| Int32.ofInt b).toInt
def iShl (a b : Int) : Int := (Int32.ofInt a <<< (Int32.ofInt b &&& 31)).toInt
def iShr (a b : Int) : Int := (Int32.ofInt a >>> (Int32.ofInt b &&& 31)).toInt
def iUshr (a b : Int) : Int := ((Int32.ofInt a).toUInt32 >>> ((Int32.ofInt b).toUInt32 &&& Int32.toUInt32 31)).toInt32.toInt
def iDiv (a b : Int) : Int := (Int32.ofInt a / Int32.ofInt b).toInt
def iRem (a b : Int) : Int := (Int32.ofInt a - Int32.ofInt a / Int32.ofInt b * Int32.ofInt b).toInt
def lDiv (a b : Int) : Int := (Int64.ofInt a / Int64.ofInt b).toInt
def lRem (a b : Int) : Int := (Int64.ofInt a - Int64.ofInt a / Int64.ofInt b * Int64.ofInt b).toInt
def lCmp (a b : Int) : Int := (lg_cmp (Int64.ofInt a) (Int64.ofInt b)).toInt
theorem xU_ne {μ : xM} {k i : Nat} {j a : Int} (h : i ≠ k) : xU μ k j a i = μ i := by
  funext j'
  simp [xU, h]
theorem xws_setE {g : xG} {S : List xS} {μ μ' : xM} {k : Nat} {sh : xS} {e : va_E} (hk : S[k]? = some sh) (he : xC g (μ' k) sh = e) (ho : ∀ i, i ≠ k → μ' i = μ i) : (xws g S μ).set k (g.1 + k, e) = xws g S μ' := by
  apply List.ext_getElem?
  intro i
  by_cases hi : k = i
  · subst hi
    rw [xws_get hk, he, List.getElem?_set_self]
    have := (List.getElem?_eq_some_iff.mp (xws_get (g := g) (μ := μ) hk)).1
    exact this
  · rw [List.getElem?_set_ne hi]
    simp only [xws, List.getElem?_mapIdx, ho i (fun z => hi z.symm)]
theorem xws_setS {g : xG} {S : List xS} {μ : xM} {k : Nat} {sh sh' : xS} {e : va_E} (hk : S[k]? = some sh) (he : xC g (μ k) sh' = e) : (xws g S μ).set k (g.1 + k, e) = xws g (S.set k sh') μ := by
  have hl : k < S.length := (List.getElem?_eq_some_iff.mp hk).1
  apply List.ext_getElem?
  intro i
  by_cases hi : k = i
  · subst hi
    rw [xws_get (sh := sh') (by rw [List.getElem?_set_self hl]), he, List.getElem?_set_self]
    have := (List.getElem?_eq_some_iff.mp (xws_get (g := g) (μ := μ) hk)).1
    exact this
  · rw [List.getElem?_set_ne hi]
    simp only [xws, List.getElem?_mapIdx, List.getElem?_set_ne hi]
theorem xGI {ws : List Cond} (h : ∀ w ∈ ws, w ∈ xTB) : GoodIn xTB ws := fun w hw => ⟨h w hw, xgood w (h w hw)⟩
section XR
variable {g : xG} {nL : Nat} {p : Program} {l : Launch} {e : Env} {R : Room} {s : State} {m : MethodId} {args : Array Value} {below : List Frame} {meth : Method} {c : Code} {cells slots : Nat} {Q : State → Prop} {S : List xS} {μ : xM} {pc pc' : Nat} {vs : List (Option Value)} {st rest : List Value} {cc : ByteArray} {own nm : String} {ret : Option FieldType}
theorem x_eq {μ' : xM} (he : xEq S μ μ') (k : xX g nL p l e R s m args below meth c cells slots Q S μ' pc vs st) : xX g nL p l e R s m args below meth c cells slots Q S μ pc vs st := fun H locs ls hl hW hS => k H locs ls hl (xW_eq hW he) hS
theorem x_vs {vs' : List (Option Value)} (he : ∀ (i : Nat) (v : Value), vs'[i]? = some (some v) → vs[i]? = some (some v)) (k : xX g nL p l e R s m args below meth c cells slots Q S μ pc vs' st) : xX g nL p l e R s m args below meth c cells slots Q S μ pc vs st := fun H locs ls hl hW hS => k H locs ls ⟨hl.1, hl.2.1, fun i v h => hl.2.2 i v (he i v h)⟩ hW hS
theorem x_iconst (hC : xCtx g p s m args meth c cc nL own nm ret) {n : Int} (hd : decode cc pc = .ok (.iconst n, 1)) (hp : pc + 1 = pc') (k : xX g nL p l e R s m args below meth c cells slots Q S μ pc' vs (vI n :: st)) : xX g nL p l e R s m args below meth c cells slots Q S μ pc vs st := by
  subst hp; exact fun H locs ls hl hW hS => lv_iconst hC.1 hC.2.1 hd rfl (k H locs ls hl hW hS)
theorem x_bipush (hC : xCtx g p s m args meth c cc nL own nm ret) {n : Int} (hd : decode cc pc = .ok (.bipush n, 2)) (hv : (Int8.ofInt n).toInt32 = Int32.ofInt n) (hp : pc + 2 = pc') (k : xX g nL p l e R s m args below meth c cells slots Q S μ pc' vs (vI n :: st)) : xX g nL p l e R s m args below meth c cells slots Q S μ pc vs st := by
  subst hp; exact fun H locs ls hl hW hS => lv_bipush hC.1 hC.2.1 hd hv (k H locs ls hl hW hS)
theorem x_sipush (hC : xCtx g p s m args meth c cc nL own nm ret) {n : Int} (hd : decode cc pc = .ok (.sipush n, 3)) (hv : (Int16.ofInt n).toInt32 = Int32.ofInt n) (hp : pc + 3 = pc') (k : xX g nL p l e R s m args below meth c cells slots Q S μ pc' vs (vI n :: st)) : xX g nL p l e R s m args below meth c cells slots Q S μ pc vs st := by
  subst hp; exact fun H locs ls hl hW hS => lv_sipush hC.1 hC.2.1 hd hv (k H locs ls hl hW hS)
theorem x_lconst (hC : xCtx g p s m args meth c cc nL own nm ret) {n : Fin 2} {a : Int} (hd : decode cc pc = .ok (.lconst n, 1)) (hv : Int64.ofNat (n : Nat) = Int64.ofInt a) (hp : pc + 1 = pc') (k : xX g nL p l e R s m args below meth c cells slots Q S μ pc' vs (vL a :: st)) : xX g nL p l e R s m args below meth c cells slots Q S μ pc vs st := by
  subst hp; exact fun H locs ls hl hW hS => lv_lconst hC.1 hC.2.1 hd hv (k H locs ls hl hW hS)
theorem x_ldc2 (hC : xCtx g p s m args meth c cc nL own nm ret) {idx : Nat} {v : Int64} {a : Int} (hw : Cond.constantLong own idx v ∈ xTB) (hd : decode cc pc = .ok (.ldc2_w idx, 3)) (hv : v = Int64.ofInt a) (hp : pc + 3 = pc') (k : xX g nL p l e R s m args below meth c cells slots Q S μ pc' vs (vL a :: st)) : xX g nL p l e R s m args below meth c cells slots Q S μ pc vs st := by
  subst hp; subst hv; exact fun H locs ls hl hW hS => lv_ldc2 hC.1 hC.2.1 hC.2.2.2.1 (hC.2.2.2.2.1 _ hw) hd (k H locs ls hl hW hS)
theorem x_ldcw (hC : xCtx g p s m args meth c cc nL own nm ret) {idx : Nat} {v : Int32} {a : Int} (hw : Cond.constant own idx v ∈ xTB) (hd : decode cc pc = .ok (.ldc_w idx, 3)) (hv : v = Int32.ofInt a) (hp : pc + 3 = pc') (k : xX g nL p l e R s m args below meth c cells slots Q S μ pc' vs (vI a :: st)) : xX g nL p l e R s m args below meth c cells slots Q S μ pc vs st := by
  subst hp; subst hv; exact fun H locs ls hl hW hS => lv_ldcw hC.1 hC.2.1 hC.2.2.2.1 (hC.2.2.2.2.1 _ hw) hd (k H locs ls hl hW hS)
theorem x_iload_n (hC : xCtx g p s m args meth c cc nL own nm ret) {i : Fin 4} {a : Int} (hd : decode cc pc = .ok (.iload_n i, 1)) (hv : vs[(i : Nat)]? = some (some (vI a))) (hp : pc + 1 = pc') (k : xX g nL p l e R s m args below meth c cells slots Q S μ pc' vs (vI a :: st)) : xX g nL p l e R s m args below meth c cells slots Q S μ pc vs st := by
  subst hp; exact fun H locs ls hl hW hS => lv_iload_n hC.1 hC.2.1 hd rfl (hl.2.2 _ _ hv) (k H locs ls hl hW hS)
theorem x_iload (hC : xCtx g p s m args meth c cc nL own nm ret) {i : Nat} {a : Int} (hd : decode cc pc = .ok (.iload i, 2)) (hv : vs[i]? = some (some (vI a))) (hp : pc + 2 = pc') (k : xX g nL p l e R s m args below meth c cells slots Q S μ pc' vs (vI a :: st)) : xX g nL p l e R s m args below meth c cells slots Q S μ pc vs st := by
  subst hp; exact fun H locs ls hl hW hS => lv_iload hC.1 hC.2.1 hd (hl.2.2 _ _ hv) (k H locs ls hl hW hS)
theorem x_lload_n (hC : xCtx g p s m args meth c cc nL own nm ret) {i : Fin 4} {a : Int} (hd : decode cc pc = .ok (.lload_n i, 1)) (hv : vs[(i : Nat)]? = some (some (vL a))) (hp : pc + 1 = pc') (k : xX g nL p l e R s m args below meth c cells slots Q S μ pc' vs (vL a :: st)) : xX g nL p l e R s m args below meth c cells slots Q S μ pc vs st := by
  subst hp; exact fun H locs ls hl hW hS => lv_lload_n hC.1 hC.2.1 hd rfl (hl.2.2 _ _ hv) (k H locs ls hl hW hS)
theorem x_lload (hC : xCtx g p s m args meth c cc nL own nm ret) {i : Nat} {a : Int} (hd : decode cc pc = .ok (.lload i, 2)) (hv : vs[i]? = some (some (vL a))) (hp : pc + 2 = pc') (k : xX g nL p l e R s m args below meth c cells slots Q S μ pc' vs (vL a :: st)) : xX g nL p l e R s m args below meth c cells slots Q S μ pc vs st := by
  subst hp; exact fun H locs ls hl hW hS => lv_lload hC.1 hC.2.1 hd (hl.2.2 _ _ hv) (k H locs ls hl hW hS)
theorem x_aload_n (hC : xCtx g p s m args meth c cc nL own nm ret) {i : Fin 4} {b : Nat} (hd : decode cc pc = .ok (.aload_n i, 1)) (hv : vs[(i : Nat)]? = some (some (vR g b))) (hp : pc + 1 = pc') (k : xX g nL p l e R s m args below meth c cells slots Q S μ pc' vs (vR g b :: st)) : xX g nL p l e R s m args below meth c cells slots Q S μ pc vs st := by
  subst hp; exact fun H locs ls hl hW hS => lv_aload_n hC.1 hC.2.1 hd rfl (hl.2.2 _ _ hv) (k H locs ls hl hW hS)
theorem x_istore_n (hC : xCtx g p s m args meth c cc nL own nm ret) {i : Fin 4} {a : Int} (hd : decode cc pc = .ok (.istore_n i, 1)) (hn : (i : Nat) < nL) (ho : xOk vs i = true) (hp : pc + 1 = pc') (k : xX g nL p l e R s m args below meth c cells slots Q S μ pc' (vs.set i (some (vI a))) st) : xX g nL p l e R s m args below meth c cells slots Q S μ pc vs (vI a :: st) := by
  subst hp; exact fun H locs ls hl hW hS => lv_istore_n hC.1 hC.2.1 hd rfl hl.has hn rfl (fun ls' hl' => k H locs ls' (xL.set1 ho hl') hW hS)
theorem x_istore (hC : xCtx g p s m args meth c cc nL own nm ret) {i : Nat} {a : Int} (hd : decode cc pc = .ok (.istore i, 2)) (hn : i < nL) (ho : xOk vs i = true) (hp : pc + 2 = pc') (k : xX g nL p l e R s m args below meth c cells slots Q S μ pc' (vs.set i (some (vI a))) st) : xX g nL p l e R s m args below meth c cells slots Q S μ pc vs (vI a :: st) := by
  subst hp; exact fun H locs ls hl hW hS => lv_istore hC.1 hC.2.1 hd hl.has hn rfl (fun ls' hl' => k H locs ls' (xL.set1 ho hl') hW hS)
theorem x_astore_n (hC : xCtx g p s m args meth c cc nL own nm ret) {i : Fin 4} {b : Nat} (hd : decode cc pc = .ok (.astore_n i, 1)) (hn : (i : Nat) < nL) (ho : xOk vs i = true) (hp : pc + 1 = pc') (k : xX g nL p l e R s m args below meth c cells slots Q S μ pc' (vs.set i (some (vR g b))) st) : xX g nL p l e R s m args below meth c cells slots Q S μ pc vs (vR g b :: st) := by
  subst hp; exact fun H locs ls hl hW hS => lv_astore_n hC.1 hC.2.1 hd rfl hl.has hn rfl (fun ls' hl' => k H locs ls' (xL.set1 ho hl') hW hS)
theorem x_lstore_n (hC : xCtx g p s m args meth c cc nL own nm ret) {i : Fin 4} {a : Int} (hd : decode cc pc = .ok (.lstore_n i, 1)) (hn : (i : Nat) + 1 < nL) (ho : xOk vs i = true) (hp : pc + 1 = pc') (k : xX g nL p l e R s m args below meth c cells slots Q S μ pc' ((vs.set i (some (vL a))).set (i + 1) none) st) : xX g nL p l e R s m args below meth c cells slots Q S μ pc vs (vL a :: st) := by
  subst hp; exact fun H locs ls hl hW hS => lv_lstore_n hC.1 hC.2.1 hd rfl hl.has hn rfl (fun ls' hl' => k H locs ls' (xL.set2 ho hl') hW hS)
theorem x_lstore (hC : xCtx g p s m args meth c cc nL own nm ret) {i : Nat} {a : Int} (hd : decode cc pc = .ok (.lstore i, 2)) (hn : i + 1 < nL) (ho : xOk vs i = true) (hp : pc + 2 = pc') (k : xX g nL p l e R s m args below meth c cells slots Q S μ pc' ((vs.set i (some (vL a))).set (i + 1) none) st) : xX g nL p l e R s m args below meth c cells slots Q S μ pc vs (vL a :: st) := by
  subst hp; exact fun H locs ls hl hW hS => lv_lstore hC.1 hC.2.1 hd hl.has hn rfl (fun ls' hl' => k H locs ls' (xL.set2 ho hl') hW hS)
theorem x_iinc (hC : xCtx g p s m args meth c cc nL own nm ret) {i : Nat} {n a : Int} (hd : decode cc pc = .ok (.iinc i n, 3)) (hv : vs[i]? = some (some (vI a))) (hn : i < nL) (ho : xOk vs i = true) (hp : pc + 3 = pc') (k : xX g nL p l e R s m args below meth c cells slots Q S μ pc' (vs.set i (some (vI (a + n)))) st) : xX g nL p l e R s m args below meth c cells slots Q S μ pc vs st := by
  subst hp
  intro H locs ls hl hW hS
  obtain ⟨q, hq⟩ := List.getElem?_of_mem (xLl_mem.mpr hv)
  exact lv_iinc (v := Int32.ofInt (a + n)) hC.1 hC.2.1 hd hl.has hq (Int32.ofInt_add a n).symm hn rfl (fun ls' hl' => k H locs ls' (xL.set1 ho hl') hW hS)
theorem x_iadd (hC : xCtx g p s m args meth c cc nL own nm ret) {a b : Int} (hd : decode cc pc = .ok (.iadd, 1)) (hp : pc + 1 = pc') (k : xX g nL p l e R s m args below meth c cells slots Q S μ pc' vs (vI (a + b) :: st)) : xX g nL p l e R s m args below meth c cells slots Q S μ pc vs (vI b :: vI a :: st) := by
  subst hp; exact fun H locs ls hl hW hS => lv_iadd hC.1 hC.2.1 hd (by rw [← Int32.ofInt_add]; exact k H locs ls hl hW hS)
theorem x_isub (hC : xCtx g p s m args meth c cc nL own nm ret) {a b : Int} (hd : decode cc pc = .ok (.isub, 1)) (hp : pc + 1 = pc') (k : xX g nL p l e R s m args below meth c cells slots Q S μ pc' vs (vI (a - b) :: st)) : xX g nL p l e R s m args below meth c cells slots Q S μ pc vs (vI b :: vI a :: st) := by
  subst hp; exact fun H locs ls hl hW hS => lv_isub hC.1 hC.2.1 hd (by rw [← Int32.ofInt_sub]; exact k H locs ls hl hW hS)
theorem x_imul (hC : xCtx g p s m args meth c cc nL own nm ret) {a b : Int} (hd : decode cc pc = .ok (.imul, 1)) (hp : pc + 1 = pc') (k : xX g nL p l e R s m args below meth c cells slots Q S μ pc' vs (vI (a * b) :: st)) : xX g nL p l e R s m args below meth c cells slots Q S μ pc vs (vI b :: vI a :: st) := by
  subst hp; exact fun H locs ls hl hW hS => lv_imul hC.1 hC.2.1 hd (by rw [← Int32.ofInt_mul]; exact k H locs ls hl hW hS)
theorem x_iand (hC : xCtx g p s m args meth c cc nL own nm ret) {a b : Int} (hd : decode cc pc = .ok (.iand, 1)) (hp : pc + 1 = pc') (k : xX g nL p l e R s m args below meth c cells slots Q S μ pc' vs (vI (iAnd a b) :: st)) : xX g nL p l e R s m args below meth c cells slots Q S μ pc vs (vI b :: vI a :: st) := by
  subst hp; exact fun H locs ls hl hW hS => lv_iand hC.1 hC.2.1 hd (by rw [← i_back (Int32.ofInt a &&& Int32.ofInt b)]; exact k H locs ls hl hW hS)
theorem x_ior (hC : xCtx g p s m args meth c cc nL own nm ret) {a b : Int} (hd : decode cc pc = .ok (.ior, 1)) (hp : pc + 1 = pc') (k : xX g nL p l e R s m args below meth c cells slots Q S μ pc' vs (vI (iOr a b) :: st)) : xX g nL p l e R s m args below meth c cells slots Q S μ pc vs (vI b :: vI a :: st) := by
  subst hp; exact fun H locs ls hl hW hS => lv_ior hC.1 hC.2.1 hd (by rw [← i_back (Int32.ofInt a ||| Int32.ofInt b)]; exact k H locs ls hl hW hS)
theorem x_ishl (hC : xCtx g p s m args meth c cc nL own nm ret) {a b : Int} (hd : decode cc pc = .ok (.ishl, 1)) (hp : pc + 1 = pc') (k : xX g nL p l e R s m args below meth c cells slots Q S μ pc' vs (vI (iShl a b) :: st)) : xX g nL p l e R s m args below meth c cells slots Q S μ pc vs (vI b :: vI a :: st) := by
  subst hp; exact fun H locs ls hl hW hS => lv_ishl hC.1 hC.2.1 hd (by rw [← i_back (Int32.ofInt a <<< (Int32.ofInt b &&& 31))]; exact k H locs ls hl hW hS)
theorem x_ishr (hC : xCtx g p s m args meth c cc nL own nm ret) {a b : Int} (hd : decode cc pc = .ok (.ishr, 1)) (hp : pc + 1 = pc') (k : xX g nL p l e R s m args below meth c cells slots Q S μ pc' vs (vI (iShr a b) :: st)) : xX g nL p l e R s m args below meth c cells slots Q S μ pc vs (vI b :: vI a :: st) := by
  subst hp; exact fun H locs ls hl hW hS => lv_ishr hC.1 hC.2.1 hd (by rw [← i_back (Int32.ofInt a >>> (Int32.ofInt b &&& 31))]; exact k H locs ls hl hW hS)
theorem x_iushr (hC : xCtx g p s m args meth c cc nL own nm ret) {a b : Int} (hd : decode cc pc = .ok (.iushr, 1)) (hp : pc + 1 = pc') (k : xX g nL p l e R s m args below meth c cells slots Q S μ pc' vs (vI (iUshr a b) :: st)) : xX g nL p l e R s m args below meth c cells slots Q S μ pc vs (vI b :: vI a :: st) := by
  subst hp; exact fun H locs ls hl hW hS => lv_iushr hC.1 hC.2.1 hd (i_back _).symm (k H locs ls hl hW hS)
theorem x_idiv (hC : xCtx g p s m args meth c cc nL own nm ret) {a b : Int} (hd : decode cc pc = .ok (.idiv, 1)) (hb : -2147483648 ≤ b ∧ b < 2147483648) (h0 : b ≠ 0) (hp : pc + 1 = pc') (k : xX g nL p l e R s m args below meth c cells slots Q S μ pc' vs (vI (iDiv a b) :: st)) : xX g nL p l e R s m args below meth c cells slots Q S μ pc vs (vI b :: vI a :: st) := by
  subst hp; exact fun H locs ls hl hW hS => lv_idiv hC.1 hC.2.1 hd (fun z => h0 ((i_eq hb (by omega)).mp z)) (by rw [← i_back (Int32.ofInt a / Int32.ofInt b)]; exact k H locs ls hl hW hS)
theorem x_irem (hC : xCtx g p s m args meth c cc nL own nm ret) {a b : Int} (hd : decode cc pc = .ok (.irem, 1)) (hb : -2147483648 ≤ b ∧ b < 2147483648) (h0 : b ≠ 0) (hp : pc + 1 = pc') (k : xX g nL p l e R s m args below meth c cells slots Q S μ pc' vs (vI (iRem a b) :: st)) : xX g nL p l e R s m args below meth c cells slots Q S μ pc vs (vI b :: vI a :: st) := by
  subst hp; exact fun H locs ls hl hW hS => lv_irem hC.1 hC.2.1 hd (fun z => h0 ((i_eq hb (by omega)).mp z)) (by rw [← i_back (Int32.ofInt a - Int32.ofInt a / Int32.ofInt b * Int32.ofInt b)]; exact k H locs ls hl hW hS)
theorem x_ladd (hC : xCtx g p s m args meth c cc nL own nm ret) {a b : Int} (hd : decode cc pc = .ok (.ladd, 1)) (hp : pc + 1 = pc') (k : xX g nL p l e R s m args below meth c cells slots Q S μ pc' vs (vL (a + b) :: st)) : xX g nL p l e R s m args below meth c cells slots Q S μ pc vs (vL b :: vL a :: st) := by
  subst hp; exact fun H locs ls hl hW hS => lv_ladd hC.1 hC.2.1 hd (by rw [← Int64.ofInt_add]; exact k H locs ls hl hW hS)
theorem x_lmul (hC : xCtx g p s m args meth c cc nL own nm ret) {a b : Int} (hd : decode cc pc = .ok (.lmul, 1)) (hp : pc + 1 = pc') (k : xX g nL p l e R s m args below meth c cells slots Q S μ pc' vs (vL (a * b) :: st)) : xX g nL p l e R s m args below meth c cells slots Q S μ pc vs (vL b :: vL a :: st) := by
  subst hp; exact fun H locs ls hl hW hS => lv_lmul hC.1 hC.2.1 hd (by rw [← Int64.ofInt_mul]; exact k H locs ls hl hW hS)
theorem l_eq {a b : Int} (ha : -9223372036854775808 ≤ a ∧ a < 9223372036854775808) (hb : -9223372036854775808 ≤ b ∧ b < 9223372036854775808) : Int64.ofInt a = Int64.ofInt b ↔ a = b := by
  rw [← Int64.toInt_inj, Int64.toInt_ofInt_of_le (by omega) (by omega), Int64.toInt_ofInt_of_le (by omega) (by omega)]
theorem x_lrem (hC : xCtx g p s m args meth c cc nL own nm ret) {a b : Int} (hd : decode cc pc = .ok (.lrem, 1)) (hb : -9223372036854775808 ≤ b ∧ b < 9223372036854775808) (h0 : b ≠ 0) (hp : pc + 1 = pc') (k : xX g nL p l e R s m args below meth c cells slots Q S μ pc' vs (vL (lRem a b) :: st)) : xX g nL p l e R s m args below meth c cells slots Q S μ pc vs (vL b :: vL a :: st) := by
  subst hp; exact fun H locs ls hl hW hS => lv_lrem hC.1 hC.2.1 hd (fun z => h0 ((l_eq hb (by omega)).mp z)) (by rw [← Int64.ofInt_toInt (Int64.ofInt a - Int64.ofInt a / Int64.ofInt b * Int64.ofInt b)]; exact k H locs ls hl hW hS)
theorem x_ldiv (hC : xCtx g p s m args meth c cc nL own nm ret) {a b : Int} (hd : decode cc pc = .ok (.ldiv, 1)) (hb : -9223372036854775808 ≤ b ∧ b < 9223372036854775808) (h0 : b ≠ 0) (hp : pc + 1 = pc') (k : xX g nL p l e R s m args below meth c cells slots Q S μ pc' vs (vL (lDiv a b) :: st)) : xX g nL p l e R s m args below meth c cells slots Q S μ pc vs (vL b :: vL a :: st) := by
  subst hp; exact fun H locs ls hl hW hS => lv_ldiv hC.1 hC.2.1 hd (fun z => h0 ((l_eq hb (by omega)).mp z)) (by rw [← Int64.ofInt_toInt (Int64.ofInt a / Int64.ofInt b)]; exact k H locs ls hl hW hS)
theorem x_lcmp (hC : xCtx g p s m args meth c cc nL own nm ret) {a b : Int} (hd : decode cc pc = .ok (.lcmp, 1)) (hp : pc + 1 = pc') (k : xX g nL p l e R s m args below meth c cells slots Q S μ pc' vs (vI (lCmp a b) :: st)) : xX g nL p l e R s m args below meth c cells slots Q S μ pc vs (vL b :: vL a :: st) := by
  subst hp; exact fun H locs ls hl hW hS => W.lcmp hC.1 hC.2.1 hd (by rw [← i_back (lg_cmp (Int64.ofInt a) (Int64.ofInt b))]; exact k H locs ls hl hW hS)
theorem i_l {a : Int} (ha : -2147483648 ≤ a ∧ a < 2147483648) : (Int32.ofInt a).toInt64 = Int64.ofInt a := by
  have h1 : Int32.maxValue.toInt = 2147483647 := by decide
  have h2 : Int32.minValue.toInt = -2147483648 := by decide
  exact Int32.toInt64_ofInt (by omega) (by omega)
theorem x_i2l (hC : xCtx g p s m args meth c cc nL own nm ret) {a : Int} (hd : decode cc pc = .ok (.i2l, 1)) (ha : -2147483648 ≤ a ∧ a < 2147483648) (hp : pc + 1 = pc') (k : xX g nL p l e R s m args below meth c cells slots Q S μ pc' vs (vL a :: st)) : xX g nL p l e R s m args below meth c cells slots Q S μ pc vs (vI a :: st) := by
  subst hp; exact fun H locs ls hl hW hS => lv_i2l hC.1 hC.2.1 hd (i_l ha) (k H locs ls hl hW hS)
theorem x_l2i (hC : xCtx g p s m args meth c cc nL own nm ret) {a : Int} (hd : decode cc pc = .ok (.l2i, 1)) (hp : pc + 1 = pc') (k : xX g nL p l e R s m args below meth c cells slots Q S μ pc' vs (vI a :: st)) : xX g nL p l e R s m args below meth c cells slots Q S μ pc vs (vL a :: st) := by
  subst hp; exact fun H locs ls hl hW hS => lv_l2i hC.1 hC.2.1 hd Int64.toInt32_ofInt (k H locs ls hl hW hS)
theorem i_ch {a : Int} (ha : 0 ≤ a ∧ a < 65536) : ((Int32.ofInt a).toUInt32 % 65536).toInt32 = Int32.ofInt a := by
  have e : Int32.ofInt a = nI a.toNat := by
    show Int32.ofInt a = Int32.ofNat a.toNat
    rw [← Int32.ofInt_eq_ofNat]
    congr 1
    omega
  rw [e, pk_char, pk_tn (by omega)]
  congr 1
  omega
theorem x_i2c (hC : xCtx g p s m args meth c cc nL own nm ret) {a : Int} (hd : decode cc pc = .ok (.i2c, 1)) (ha : 0 ≤ a ∧ a < 65536) (hp : pc + 1 = pc') (k : xX g nL p l e R s m args below meth c cells slots Q S μ pc' vs (vI a :: st)) : xX g nL p l e R s m args below meth c cells slots Q S μ pc vs (vI a :: st) := by
  subst hp; exact fun H locs ls hl hW hS => lv_i2c hC.1 hC.2.1 hd (i_ch ha) (k H locs ls hl hW hS)
theorem x_dup (hC : xCtx g p s m args meth c cc nL own nm ret) {v : Value} (hd : decode cc pc = .ok (.dup, 1)) (hv : v.category = 1) (hp : pc + 1 = pc') (k : xX g nL p l e R s m args below meth c cells slots Q S μ pc' vs (v :: v :: st)) : xX g nL p l e R s m args below meth c cells slots Q S μ pc vs (v :: st) := by
  subst hp; exact fun H locs ls hl hW hS => lv_dup hC.1 hC.2.1 hd hv (k H locs ls hl hW hS)
theorem x_dup2 (hC : xCtx g p s m args meth c cc nL own nm ret) {v w : Value} (hd : decode cc pc = .ok (.dup2, 1)) (hv : v.category = 1) (hw : w.category = 1) (hp : pc + 1 = pc') (k : xX g nL p l e R s m args below meth c cells slots Q S μ pc' vs (v :: w :: v :: w :: st)) : xX g nL p l e R s m args below meth c cells slots Q S μ pc vs (v :: w :: st) := by
  subst hp; exact fun H locs ls hl hW hS => lv_dup2_11 hC.1 hC.2.1 hd hv hw (k H locs ls hl hW hS)
theorem x_dup2l (hC : xCtx g p s m args meth c cc nL own nm ret) {a : Int} (hd : decode cc pc = .ok (.dup2, 1)) (hp : pc + 1 = pc') (k : xX g nL p l e R s m args below meth c cells slots Q S μ pc' vs (vL a :: vL a :: st)) : xX g nL p l e R s m args below meth c cells slots Q S μ pc vs (vL a :: st) := by
  subst hp; exact fun H locs ls hl hW hS => lv_dup2_2 hC.1 hC.2.1 hd rfl (k H locs ls hl hW hS)
theorem x_pop (hC : xCtx g p s m args meth c cc nL own nm ret) {v : Value} (hd : decode cc pc = .ok (.pop, 1)) (hv : v.category = 1) (hp : pc + 1 = pc') (k : xX g nL p l e R s m args below meth c cells slots Q S μ pc' vs st) : xX g nL p l e R s m args below meth c cells slots Q S μ pc vs (v :: st) := by
  subst hp; exact fun H locs ls hl hW hS => lv_pop hC.1 hC.2.1 hd hv (k H locs ls hl hW hS)
theorem x_goto (hC : xCtx g p s m args meth c cc nL own nm ret) {off : Int} {tgt : Nat} (hd : decode cc pc = .ok (.goto off, 3)) (ht : (pc : Int) + off = (tgt : Int)) (k : xX g nL p l e R s m args below meth c cells slots Q S μ tgt vs st) : xX g nL p l e R s m args below meth c cells slots Q S μ pc vs st :=
  fun H locs ls hl hW hS => lv_goto hC.1 hC.2.1 hd ht (k H locs ls hl hW hS)
theorem x_icmp_lt (hC : xCtx g p s m args meth c cc nL own nm ret) {a b off : Int} {tgt : Nat} (hd : decode cc pc = .ok (.if_icmp .lt off, 3)) (ht : (pc : Int) + off = (tgt : Int)) (hp : pc + 3 = pc') (ha : -2147483648 ≤ a ∧ a < 2147483648) (hb : -2147483648 ≤ b ∧ b < 2147483648) (kt : a < b → xX g nL p l e R s m args below meth c cells slots Q S μ tgt vs st) (kf : ¬ a < b → xX g nL p l e R s m args below meth c cells slots Q S μ pc' vs st) : xX g nL p l e R s m args below meth c cells slots Q S μ pc vs (vI b :: vI a :: st) := by
  subst hp; exact fun H locs ls hl hW hS => lv_icmp_lt hC.1 hC.2.1 hd ht (fun z => kt ((i_lt ha hb).mp z) H locs ls hl hW hS) (fun z => kf (fun w => z ((i_lt ha hb).mpr w)) H locs ls hl hW hS)
theorem x_icmp_ge (hC : xCtx g p s m args meth c cc nL own nm ret) {a b off : Int} {tgt : Nat} (hd : decode cc pc = .ok (.if_icmp .ge off, 3)) (ht : (pc : Int) + off = (tgt : Int)) (hp : pc + 3 = pc') (ha : -2147483648 ≤ a ∧ a < 2147483648) (hb : -2147483648 ≤ b ∧ b < 2147483648) (kt : b ≤ a → xX g nL p l e R s m args below meth c cells slots Q S μ tgt vs st) (kf : ¬ b ≤ a → xX g nL p l e R s m args below meth c cells slots Q S μ pc' vs st) : xX g nL p l e R s m args below meth c cells slots Q S μ pc vs (vI b :: vI a :: st) := by
  subst hp; exact fun H locs ls hl hW hS => lv_icmp_ge hC.1 hC.2.1 hd ht (fun z => kt ((i_le hb ha).mp z) H locs ls hl hW hS) (fun z => kf (fun w => z ((i_le hb ha).mpr w)) H locs ls hl hW hS)
theorem x_icmp_gt (hC : xCtx g p s m args meth c cc nL own nm ret) {a b off : Int} {tgt : Nat} (hd : decode cc pc = .ok (.if_icmp .gt off, 3)) (ht : (pc : Int) + off = (tgt : Int)) (hp : pc + 3 = pc') (ha : -2147483648 ≤ a ∧ a < 2147483648) (hb : -2147483648 ≤ b ∧ b < 2147483648) (kt : b < a → xX g nL p l e R s m args below meth c cells slots Q S μ tgt vs st) (kf : ¬ b < a → xX g nL p l e R s m args below meth c cells slots Q S μ pc' vs st) : xX g nL p l e R s m args below meth c cells slots Q S μ pc vs (vI b :: vI a :: st) := by
  subst hp; exact fun H locs ls hl hW hS => lv_icmp_gt hC.1 hC.2.1 hd ht (fun z => kt ((i_lt hb ha).mp z) H locs ls hl hW hS) (fun z => kf (fun w => z ((i_lt hb ha).mpr w)) H locs ls hl hW hS)
theorem x_icmp_le (hC : xCtx g p s m args meth c cc nL own nm ret) {a b off : Int} {tgt : Nat} (hd : decode cc pc = .ok (.if_icmp .le off, 3)) (ht : (pc : Int) + off = (tgt : Int)) (hp : pc + 3 = pc') (ha : -2147483648 ≤ a ∧ a < 2147483648) (hb : -2147483648 ≤ b ∧ b < 2147483648) (kt : a ≤ b → xX g nL p l e R s m args below meth c cells slots Q S μ tgt vs st) (kf : ¬ a ≤ b → xX g nL p l e R s m args below meth c cells slots Q S μ pc' vs st) : xX g nL p l e R s m args below meth c cells slots Q S μ pc vs (vI b :: vI a :: st) := by
  subst hp; exact fun H locs ls hl hW hS => lv_icmp_le hC.1 hC.2.1 hd ht (fun z => kt ((i_le ha hb).mp z) H locs ls hl hW hS) (fun z => kf (fun w => z ((i_le ha hb).mpr w)) H locs ls hl hW hS)
theorem x_icmp_eq (hC : xCtx g p s m args meth c cc nL own nm ret) {a b off : Int} {tgt : Nat} (hd : decode cc pc = .ok (.if_icmp .eq off, 3)) (ht : (pc : Int) + off = (tgt : Int)) (hp : pc + 3 = pc') (ha : -2147483648 ≤ a ∧ a < 2147483648) (hb : -2147483648 ≤ b ∧ b < 2147483648) (kt : a = b → xX g nL p l e R s m args below meth c cells slots Q S μ tgt vs st) (kf : ¬ a = b → xX g nL p l e R s m args below meth c cells slots Q S μ pc' vs st) : xX g nL p l e R s m args below meth c cells slots Q S μ pc vs (vI b :: vI a :: st) := by
  subst hp; exact fun H locs ls hl hW hS => lv_icmp_eq hC.1 hC.2.1 hd ht (fun z => kt ((i_eq ha hb).mp z) H locs ls hl hW hS) (fun z => kf (fun w => z ((i_eq ha hb).mpr w)) H locs ls hl hW hS)
theorem x_icmp_ne (hC : xCtx g p s m args meth c cc nL own nm ret) {a b off : Int} {tgt : Nat} (hd : decode cc pc = .ok (.if_icmp .ne off, 3)) (ht : (pc : Int) + off = (tgt : Int)) (hp : pc + 3 = pc') (ha : -2147483648 ≤ a ∧ a < 2147483648) (hb : -2147483648 ≤ b ∧ b < 2147483648) (kt : ¬ a = b → xX g nL p l e R s m args below meth c cells slots Q S μ tgt vs st) (kf : a = b → xX g nL p l e R s m args below meth c cells slots Q S μ pc' vs st) : xX g nL p l e R s m args below meth c cells slots Q S μ pc vs (vI b :: vI a :: st) := by
  subst hp; exact fun H locs ls hl hW hS => lv_icmp_ne hC.1 hC.2.1 hd ht (fun z => kt (fun w => z ((i_eq ha hb).mpr w)) H locs ls hl hW hS) (fun z => kf ((i_eq ha hb).mp z) H locs ls hl hW hS)
theorem x_if_lt (hC : xCtx g p s m args meth c cc nL own nm ret) {a off : Int} {tgt : Nat} (hd : decode cc pc = .ok (.ifCond .lt off, 3)) (ht : (pc : Int) + off = (tgt : Int)) (hp : pc + 3 = pc') (ha : -2147483648 ≤ a ∧ a < 2147483648) (kt : a < 0 → xX g nL p l e R s m args below meth c cells slots Q S μ tgt vs st) (kf : ¬ a < 0 → xX g nL p l e R s m args below meth c cells slots Q S μ pc' vs st) : xX g nL p l e R s m args below meth c cells slots Q S μ pc vs (vI a :: st) := by
  subst hp
  have h00 : (-2147483648 : Int) ≤ 0 ∧ (0 : Int) < 2147483648 := by omega
  exact fun H locs ls hl hW hS => lv_if_lt hC.1 hC.2.1 hd ht (fun z => kt ((i_lt ha h00).mp z) H locs ls hl hW hS) (fun z => kf (fun w => z ((i_lt ha h00).mpr w)) H locs ls hl hW hS)
theorem x_if_ge (hC : xCtx g p s m args meth c cc nL own nm ret) {a off : Int} {tgt : Nat} (hd : decode cc pc = .ok (.ifCond .ge off, 3)) (ht : (pc : Int) + off = (tgt : Int)) (hp : pc + 3 = pc') (ha : -2147483648 ≤ a ∧ a < 2147483648) (kt : 0 ≤ a → xX g nL p l e R s m args below meth c cells slots Q S μ tgt vs st) (kf : ¬ 0 ≤ a → xX g nL p l e R s m args below meth c cells slots Q S μ pc' vs st) : xX g nL p l e R s m args below meth c cells slots Q S μ pc vs (vI a :: st) := by
  subst hp
  have h00 : (-2147483648 : Int) ≤ 0 ∧ (0 : Int) < 2147483648 := by omega
  exact fun H locs ls hl hW hS => lv_if_ge hC.1 hC.2.1 hd ht (fun z => kt ((i_le h00 ha).mp z) H locs ls hl hW hS) (fun z => kf (fun w => z ((i_le h00 ha).mpr w)) H locs ls hl hW hS)
theorem x_if_gt (hC : xCtx g p s m args meth c cc nL own nm ret) {a off : Int} {tgt : Nat} (hd : decode cc pc = .ok (.ifCond .gt off, 3)) (ht : (pc : Int) + off = (tgt : Int)) (hp : pc + 3 = pc') (ha : -2147483648 ≤ a ∧ a < 2147483648) (kt : 0 < a → xX g nL p l e R s m args below meth c cells slots Q S μ tgt vs st) (kf : ¬ 0 < a → xX g nL p l e R s m args below meth c cells slots Q S μ pc' vs st) : xX g nL p l e R s m args below meth c cells slots Q S μ pc vs (vI a :: st) := by
  subst hp
  have h00 : (-2147483648 : Int) ≤ 0 ∧ (0 : Int) < 2147483648 := by omega
  exact fun H locs ls hl hW hS => lv_if_gt hC.1 hC.2.1 hd ht (fun z => kt ((i_lt h00 ha).mp z) H locs ls hl hW hS) (fun z => kf (fun w => z ((i_lt h00 ha).mpr w)) H locs ls hl hW hS)
theorem x_if_le (hC : xCtx g p s m args meth c cc nL own nm ret) {a off : Int} {tgt : Nat} (hd : decode cc pc = .ok (.ifCond .le off, 3)) (ht : (pc : Int) + off = (tgt : Int)) (hp : pc + 3 = pc') (ha : -2147483648 ≤ a ∧ a < 2147483648) (kt : a ≤ 0 → xX g nL p l e R s m args below meth c cells slots Q S μ tgt vs st) (kf : ¬ a ≤ 0 → xX g nL p l e R s m args below meth c cells slots Q S μ pc' vs st) : xX g nL p l e R s m args below meth c cells slots Q S μ pc vs (vI a :: st) := by
  subst hp
  have h00 : (-2147483648 : Int) ≤ 0 ∧ (0 : Int) < 2147483648 := by omega
  exact fun H locs ls hl hW hS => lv_if_le hC.1 hC.2.1 hd ht (fun z => kt ((i_le ha h00).mp z) H locs ls hl hW hS) (fun z => kf (fun w => z ((i_le ha h00).mpr w)) H locs ls hl hW hS)
theorem x_if_eq (hC : xCtx g p s m args meth c cc nL own nm ret) {a off : Int} {tgt : Nat} (hd : decode cc pc = .ok (.ifCond .eq off, 3)) (ht : (pc : Int) + off = (tgt : Int)) (hp : pc + 3 = pc') (ha : -2147483648 ≤ a ∧ a < 2147483648) (kt : a = 0 → xX g nL p l e R s m args below meth c cells slots Q S μ tgt vs st) (kf : ¬ a = 0 → xX g nL p l e R s m args below meth c cells slots Q S μ pc' vs st) : xX g nL p l e R s m args below meth c cells slots Q S μ pc vs (vI a :: st) := by
  subst hp
  have h00 : (-2147483648 : Int) ≤ 0 ∧ (0 : Int) < 2147483648 := by omega
  exact fun H locs ls hl hW hS => lv_if_eq hC.1 hC.2.1 hd ht (fun z => kt ((i_eq ha h00).mp z) H locs ls hl hW hS) (fun z => kf (fun w => z ((i_eq ha h00).mpr w)) H locs ls hl hW hS)
theorem x_if_ne (hC : xCtx g p s m args meth c cc nL own nm ret) {a off : Int} {tgt : Nat} (hd : decode cc pc = .ok (.ifCond .ne off, 3)) (ht : (pc : Int) + off = (tgt : Int)) (hp : pc + 3 = pc') (ha : -2147483648 ≤ a ∧ a < 2147483648) (kt : ¬ a = 0 → xX g nL p l e R s m args below meth c cells slots Q S μ tgt vs st) (kf : a = 0 → xX g nL p l e R s m args below meth c cells slots Q S μ pc' vs st) : xX g nL p l e R s m args below meth c cells slots Q S μ pc vs (vI a :: st) := by
  subst hp
  have h00 : (-2147483648 : Int) ≤ 0 ∧ (0 : Int) < 2147483648 := by omega
  exact fun H locs ls hl hW hS => lv_if_ne hC.1 hC.2.1 hd ht (fun z => kt (fun w => z ((i_eq ha h00).mpr w)) H locs ls hl hW hS) (fun z => kf ((i_eq ha h00).mp z) H locs ls hl hW hS)
theorem xKn.K {g : xG} {s : State} (h : xKn g s) : va_K g.2.1 vwCl (xTy g) s := h.1
theorem xInTB {own : String} {idx ci j : Nat} {C : String} {T : u_T} {N : Nat} {ty : Nat → FieldType} {args : Array Value} {s : State} (h : xCl ci C T N ty) (hts : ∀ w ∈ xTB, w.before args s = true) : ∀ w ∈ u_ws C T N, w ∈ xTB := h.2.1
theorem x_getI (hC : xCtx g p s m args meth c cc nL own nm ret) {idx ci j k : Nat} {j' : Int} {t : FieldType} {fin : Bool} {fs : List (Option (Option Nat))} (hF : xF own idx ci j t fin) (hd : decode cc pc = .ok (.getfield idx, 3)) (hS : S[k]? = some (.inl (ci, fs))) (hf : fs[j]? = some none) (hj' : (j : Int) = j') (hp : pc + 3 = pc') (kk : xX g nL p l e R s m args below meth c cells slots Q S μ pc' vs (vI (μ k j') :: st)) : xX g nL p l e R s m args below meth c cells slots Q S μ pc vs (vR g k :: st) := by
  subst hp
  subst hj'
  obtain ⟨C, T, N, ty, ⟨h1, h2, h3, h4, h5, h6⟩, hj, hl, ht, hfin, hCo⟩ := hF
  intro H locs ls hl' hW hS'
  refine va_get (ref := (T j).1) (T := T) (N := N) (C := C) hC.1 hC.2.1 hC.2.2.2.2.1 h2 hC.2.2.2.1 hC.2.2.2.2.2.1.1 hW k (xws_get hS) h1 j hj (hC.2.2.2.2.1 _ hl) (fun _ h => h) ?_ hd (kk H locs ls hl' hW hS')
  simp [List.getElem?_mapIdx, hf, xV]
theorem x_getR (hC : xCtx g p s m args meth c cc nL own nm ret) {idx ci j k b : Nat} {t : FieldType} {fin : Bool} {fs : List (Option (Option Nat))} (hF : xF own idx ci j t fin) (hd : decode cc pc = .ok (.getfield idx, 3)) (hS : S[k]? = some (.inl (ci, fs))) (hf : fs[j]? = some (some (some b))) (hp : pc + 3 = pc') (kk : xX g nL p l e R s m args below meth c cells slots Q S μ pc' vs (vR g b :: st)) : xX g nL p l e R s m args below meth c cells slots Q S μ pc vs (vR g k :: st) := by
  subst hp
  obtain ⟨C, T, N, ty, ⟨h1, h2, h3, h4, h5, h6⟩, hj, hl, ht, hfin, hCo⟩ := hF
  intro H locs ls hl' hW hS'
  refine va_get (ref := (T j).1) (T := T) (N := N) (C := C) hC.1 hC.2.1 hC.2.2.2.2.1 h2 hC.2.2.2.1 hC.2.2.2.2.2.1.1 hW k (xws_get hS) h1 j hj (hC.2.2.2.2.1 _ hl) (fun _ h => h) ?_ hd (kk H locs ls hl' hW hS')
  simp [List.getElem?_mapIdx, hf, xV]
theorem xC_put {g : xG} {f : Int → Int} {ci j : Nat} {a : Int} {fs : List (Option (Option Nat))} (hf : fs[j]? = some none) : xC g (fun z => if z = (j : Int) then a else f z) (.inl (ci, fs)) = .inr (ci, (fs.mapIdx (fun j o => xV g f j o)).set j (vI a)) := by
  simp only [xC]
  congr 2
  apply List.ext_getElem?
  intro i
  by_cases hi : j = i
  · subst hi
    have hl : j < (fs.mapIdx (fun j o => xV g f j o)).length := by
      have := (List.getElem?_eq_some_iff.mp hf).1
      simpa using this
    rw [List.getElem?_set_self hl]
    simp [List.getElem?_mapIdx, hf, xV]
  · rw [List.getElem?_set_ne hi]
    simp only [List.getElem?_mapIdx]
    cases ho : fs[i]? with
    | none => rfl
    | some w =>
      simp only [Option.map_some]
      rcases w with _ | _ | t
      · simp only [xV]
        rw [if_neg (by omega)]
      · rfl
      · rfl
theorem x_putI (hC : xCtx g p s m args meth c cc nL own nm ret) {idx ci j k : Nat} {a j' : Int} {t : FieldType} {fs : List (Option (Option Nat))} (hF : xF own idx ci j t false) (hd : decode cc pc = .ok (.putfield idx, 3)) (hS : S[k]? = some (.inl (ci, fs))) (hf : fs[j]? = some none) (hn : narrow t (vI a) = vI a) (hfit : fits t (vI a) = true) (hj' : (j : Int) = j') (hp : pc + 3 = pc') (kk : xX g nL p l e R s m args below meth c cells slots Q S (xU μ k j' a) pc' vs st) : xX g nL p l e R s m args below meth c cells slots Q S μ pc vs (vI a :: vR g k :: st) := by
  subst hp
  subst hj'
  obtain ⟨C, T, N, ty, ⟨h1, h2, h3, h4, h5, h6⟩, hj, hl, ht, hfin, hCo⟩ := hF
  subst ht
  intro H locs ls hl' hW hS'
  have hlen : j < (fs.mapIdx (fun j o => xV g (μ k) j o)).length := by
    have := (List.getElem?_eq_some_iff.mp hf).1
    simpa using this
  refine va_put (ref := (T j).1) (T := T) (N := N) (C := C) hC.1 hC.2.1 hC.2.2.2.2.1 h2 ty h3 h4 hC.2.2.2.1 hC.2.2.2.2.2.1.1 hW xws_D hS' k (xws_get hS) h1 j hj (hC.2.2.2.2.1 _ hl) (fun _ h => h) hfin (h3 j hj) hn hfit hlen hd (fun H1 locs1 hP hD hS1 => ?_)
  rw [xws_setE (μ' := xU μ k j a) hS (by
    have e : xU μ k j a k = fun z => if z = (j : Int) then a else μ k z := by
      funext z
      simp [xU]
    rw [e]
    exact xC_put hf) (fun i hi => xU_ne hi)] at hP
  exact kk H1 locs1 ls hl' hP hS1
theorem xC_putR {g : xG} {f : Int → Int} {ci j b : Nat} {fs : List (Option (Option Nat))} : xC g f (.inl (ci, fs.set j (some (some b)))) = .inr (ci, (fs.mapIdx (fun j o => xV g f j o)).set j (vR g b)) := by
  simp only [xC]
  congr 2
  rw [List.mapIdx_set]
  rfl
/-- a final field that holds a cell, in a constructor -/
theorem x_putR (hC : xCtx g p s m args meth c cc nL own nm ret) (hnm : nm = "<init>") {idx ci j k b : Nat} {t : FieldType} {fs : List (Option (Option Nat))} (hF : xF own idx ci j t true) (hci : ∃ r, vwCl[ci]? = some r ∧ r.1 = own) (hd : decode cc pc = .ok (.putfield idx, 3)) (hS : S[k]? = some (.inl (ci, fs))) (hl9 : j < fs.length) (hn : ∀ x : Nat, narrow t (.ref x) = .ref x) (hfit : ∀ x : Nat, fits t (.ref x) = true) (hp : pc + 3 = pc') (kk : xX g nL p l e R s m args below meth c cells slots Q (S.set k (.inl (ci, fs.set j (some (some b))))) μ pc' vs st) : xX g nL p l e R s m args below meth c cells slots Q S μ pc vs (vR g b :: vR g k :: st) := by
  subst hp
  obtain ⟨C, T, N, ty, ⟨h1, h2, h3, h4, h5, h6⟩, hj, hl, ht, hfin, hCo⟩ := hF
  subst ht
  obtain ⟨r, g1, g2⟩ := hci
  cases g1.symm.trans h1
  intro H locs ls hl' hW hS'
  refine va_putF (ref := (T j).1) (T := T) (N := N) (C := C) hC.1 hC.2.1 hC.2.2.2.2.1 h2 ty h3 h4 hC.2.2.2.1 hC.2.2.2.2.2.1.1 hW xws_D hS' k (xws_get hS) h1 j hj (hC.2.2.2.2.1 _ hl) (fun _ h => h) hfin (hC.2.2.2.2.2.2.2.2.1.trans hnm) (hCo.trans g2) (h3 j hj) (hn _) (hfit _) (by simpa using hl9) hd (fun H1 locs1 hP hD hS1 => ?_)
  have hP := (xws_setS (μ := μ) (sh' := .inl (ci, fs.set j (some (some b)))) hS xC_putR) ▸ hP
  exact kk H1 locs1 ls hl' hP hS1
theorem xTy0 {g : xG} : (xTy g)[0]? = some (g.2.2.1.1, .int) := rfl
theorem xTy1 {g : xG} : (xTy g)[1]? = some (g.2.2.1.2.1, .char) := rfl
theorem xTy2 {g : xG} : (xTy g)[2]? = some (g.2.2.1.2.2, .object RX4) := rfl
theorem x_iald (hC : xCtx g p s m args meth c cc nL own nm ret) {k n : Nat} {i : Int} (hd : decode cc pc = .ok (.iaload, 1)) (hS : S[k]? = some (.inr (.inl (false, n)))) (hi : 0 ≤ i ∧ i < n) (hn : n < 2147483648) (hp : pc + 1 = pc') (kk : xX g nL p l e R s m args below meth c cells slots Q S μ pc' vs (vI (μ k i) :: st)) : xX g nL p l e R s m args below meth c cells slots Q S μ pc vs (vI i :: vR g k :: st) := by
  subst hp
  intro H locs ls hl' hW hS'
  refine va_iald hC.1 hC.2.1 hC.2.2.2.2.2.1.1 hW k 0 (xws_get hS) xTy0 (i_in hi hn) hd ?_
  rw [i_cl (by omega)]
  exact kk H locs ls hl' hW hS'
theorem x_cald (hC : xCtx g p s m args meth c cc nL own nm ret) {k n : Nat} {i : Int} (hd : decode cc pc = .ok (.caload, 1)) (hS : S[k]? = some (.inr (.inl (true, n)))) (hi : 0 ≤ i ∧ i < n) (hn : n < 2147483648) (hp : pc + 1 = pc') (kk : xX g nL p l e R s m args below meth c cells slots Q S μ pc' vs (vI (μ k i) :: st)) : xX g nL p l e R s m args below meth c cells slots Q S μ pc vs (vI i :: vR g k :: st) := by
  subst hp
  intro H locs ls hl' hW hS'
  refine va_cald hC.1 hC.2.1 hC.2.2.2.2.2.1.1 hW k 1 (xws_get hS) xTy1 (i_in hi hn) hd ?_
  rw [i_cl (by omega)]
  exact kk H locs ls hl' hW hS'
theorem x_aald (hC : xCtx g p s m args meth c cc nL own nm ret) {k b : Nat} {ts : List (Option Nat)} {i : Int} (hd : decode cc pc = .ok (.aaload, 1)) (hS : S[k]? = some (.inr (.inr ts))) (hi : 0 ≤ i ∧ i < ts.length) (hn : ts.length < 2147483648) (hb : ts[i.toNat]? = some (some b)) (hp : pc + 1 = pc') (kk : xX g nL p l e R s m args below meth c cells slots Q S μ pc' vs (vR g b :: st)) : xX g nL p l e R s m args below meth c cells slots Q S μ pc vs (vI i :: vR g k :: st) := by
  subst hp
  intro H locs ls hl' hW hS'
  refine va_aldq hC.1 hC.2.1 hC.2.2.2.2.2.1.1 hW k 2 (xws_get hS) xTy2 (i_in hi hn) hd ?_
  have e : (Int32.ofInt i).toNatClampNeg = i.toNat := by
    have := i_cl (a := i) (by omega)
    omega
  have e2 : va_rf ((ts.getD (Int32.ofInt i).toNatClampNeg none).map (fun t => g.1 + t)) = vR g b := by
    rw [e, List.getD_eq_getElem?_getD, hb]
    rfl
  rw [e2]
  exact kk H locs ls hl' hW hS'
theorem xC_ast {g : xG} {f : Int → Int} {b : Bool} {n : Nat} {i a : Int} (hi : 0 ≤ i ∧ i < 2147483648) : xC g (fun z => if z = i then a else f z) (.inr (.inl (b, n))) = .inl (if b then g.2.2.1.2.1 else g.2.2.1.1, n, .inl (upd (fun j => Int32.ofInt (f j)) (Int32.ofInt i).toNatClampNeg (Int32.ofInt a))) := by
  simp only [xC]
  congr 4
  funext j
  have := i_cl hi
  by_cases hj : (j : Int) = i
  · rw [if_pos hj]
    unfold upd
    rw [if_pos (by omega)]
  · rw [if_neg hj]
    unfold upd
    rw [if_neg (by omega)]
theorem xU_at {μ : xM} {k : Nat} {j a : Int} : xU μ k j a k = fun z => if z = j then a else μ k z := by
  funext z
  simp [xU]
theorem x_iast (hC : xCtx g p s m args meth c cc nL own nm ret) {k n : Nat} {i a : Int} (hd : decode cc pc = .ok (.iastore, 1)) (hS : S[k]? = some (.inr (.inl (false, n)))) (hi : 0 ≤ i ∧ i < n) (hn : n < 2147483648) (hp : pc + 1 = pc') (kk : xX g nL p l e R s m args below meth c cells slots Q S (xU μ k i a) pc' vs st) : xX g nL p l e R s m args below meth c cells slots Q S μ pc vs (vI a :: vI i :: vR g k :: st) := by
  subst hp
  intro H locs ls hl' hW hS'
  refine va_iast (x := Int32.ofInt a) hC.1 hC.2.1 hC.2.2.2.2.2.1.1 hW xws_D hS' k 0 (xws_get hS) xTy0 (i_in hi hn) hd (fun H1 locs1 hP hD hS1 => ?_)
  rw [xws_setE (μ' := xU μ k i a) hS (by rw [xU_at]; exact xC_ast (by omega)) (fun i hi => xU_ne hi)] at hP
  exact kk H1 locs1 ls hl' hP hS1
theorem i_nar {a : Int} (ha : 0 ≤ a ∧ a < 65536) : vp_nar .char (Int32.ofInt a) = Int32.ofInt a := by
  have e : Int32.ofInt a = nI a.toNat := by
    show Int32.ofInt a = Int32.ofNat a.toNat
    rw [← Int32.ofInt_eq_ofNat]
    congr 1
    omega
  unfold vp_nar
  rw [e, (pk_charN (by omega)).1]
theorem x_cast (hC : xCtx g p s m args meth c cc nL own nm ret) {k n : Nat} {i a : Int} (hd : decode cc pc = .ok (.castore, 1)) (hS : S[k]? = some (.inr (.inl (true, n)))) (hi : 0 ≤ i ∧ i < n) (hn : n < 2147483648) (ha : 0 ≤ a ∧ a < 65536) (hp : pc + 1 = pc') (kk : xX g nL p l e R s m args below meth c cells slots Q S (xU μ k i a) pc' vs st) : xX g nL p l e R s m args below meth c cells slots Q S μ pc vs (vI a :: vI i :: vR g k :: st) := by
  subst hp
  intro H locs ls hl' hW hS'
  refine va_cast (x := Int32.ofInt a) hC.1 hC.2.1 hC.2.2.2.2.2.1.1 hW xws_D hS' k 1 (xws_get hS) xTy1 (i_in hi hn) hd (fun H1 locs1 hP hD hS1 => ?_)
  rw [i_nar ha, xws_setE (μ' := xU μ k i a) hS (by rw [xU_at]; exact xC_ast (by omega)) (fun i hi => xU_ne hi)] at hP
  exact kk H1 locs1 ls hl' hP hS1
theorem x_alenI (hC : xCtx g p s m args meth c cc nL own nm ret) {k n : Nat} {n' : Int} (hd : decode cc pc = .ok (.arraylength, 1)) (hS : S[k]? = some (.inr (.inl (false, n)))) (hn' : (n : Int) = n') (hp : pc + 1 = pc') (kk : xX g nL p l e R s m args below meth c cells slots Q S μ pc' vs (vI n' :: st)) : xX g nL p l e R s m args below meth c cells slots Q S μ pc vs (vR g k :: st) := by
  subst hp
  subst hn'
  intro H locs ls hl' hW hS'
  exact va_alen hC.1 hC.2.1 hC.2.2.2.2.2.1.1 hW k 0 (xws_get hS) xTy0 Int32.ofInt_eq_ofNat.symm hd (kk H locs ls hl' hW hS')
theorem x_alenC (hC : xCtx g p s m args meth c cc nL own nm ret) {k n : Nat} {n' : Int} (hd : decode cc pc = .ok (.arraylength, 1)) (hS : S[k]? = some (.inr (.inl (true, n)))) (hn' : (n : Int) = n') (hp : pc + 1 = pc') (kk : xX g nL p l e R s m args below meth c cells slots Q S μ pc' vs (vI n' :: st)) : xX g nL p l e R s m args below meth c cells slots Q S μ pc vs (vR g k :: st) := by
  subst hp
  subst hn'
  intro H locs ls hl' hW hS'
  exact va_alen hC.1 hC.2.1 hC.2.2.2.2.2.1.1 hW k 1 (xws_get hS) xTy1 Int32.ofInt_eq_ofNat.symm hd (kk H locs ls hl' hW hS')
theorem x_alenR (hC : xCtx g p s m args meth c cc nL own nm ret) {k : Nat} {n' : Int} {ts : List (Option Nat)} (hd : decode cc pc = .ok (.arraylength, 1)) (hS : S[k]? = some (.inr (.inr ts))) (hn' : (ts.length : Int) = n') (hp : pc + 1 = pc') (kk : xX g nL p l e R s m args below meth c cells slots Q S μ pc' vs (vI n' :: st)) : xX g nL p l e R s m args below meth c cells slots Q S μ pc vs (vR g k :: st) := by
  subst hp
  subst hn'
  intro H locs ls hl' hW hS'
  exact va_alen hC.1 hC.2.1 hC.2.2.2.2.2.1.1 hW k 2 (xws_get hS) xTy2 Int32.ofInt_eq_ofNat.symm hd (kk H locs ls hl' hW hS')
/-! switches -/
theorem x_tabIn (hC : xCtx g p s m args meth c cc nL own nm ret) {dflt lo hi off a : Int} {offs : Array Int} {len tgt : Nat} (hd : decode cc pc = .ok (.tableswitch dflt lo hi offs, len)) (ha : -2147483648 ≤ a ∧ a < 2147483648) (h1 : lo ≤ a ∧ a ≤ hi) (ho : offs[(a - lo).toNat]? = some off) (ht : (pc : Int) + off = (tgt : Int)) (k : xX g nL p l e R s m args below meth c cells slots Q S μ tgt vs st) : xX g nL p l e R s m args below meth c cells slots Q S μ pc vs (vI a :: st) :=
  fun H locs ls hl hW hS => lv_tableIn hC.1 hC.2.1 hd (by rw [i_toInt ha]; omega) (by rw [i_toInt ha]; omega) (by rw [i_toInt ha]; exact ho) ht (k H locs ls hl hW hS)
theorem x_tabOut (hC : xCtx g p s m args meth c cc nL own nm ret) {dflt lo hi a : Int} {offs : Array Int} {len tgt : Nat} (hd : decode cc pc = .ok (.tableswitch dflt lo hi offs, len)) (ha : -2147483648 ≤ a ∧ a < 2147483648) (h1 : a < lo ∨ hi < a) (ht : (pc : Int) + dflt = (tgt : Int)) (k : xX g nL p l e R s m args below meth c cells slots Q S μ tgt vs st) : xX g nL p l e R s m args below meth c cells slots Q S μ pc vs (vI a :: st) :=
  fun H locs ls hl hW hS => lv_tableOut hC.1 hC.2.1 hd (by rw [i_toInt ha]; exact h1) ht (k H locs ls hl hW hS)
theorem x_look (hC : xCtx g p s m args meth c cc nL own nm ret) {dflt off a : Int} {ps : Array (Int × Int)} {len tgt : Nat} (hd : decode cc pc = .ok (.lookupswitch dflt ps, len)) (ha : -2147483648 ≤ a ∧ a < 2147483648) (hq : (ps.toList.zip (ps.toList.drop 1)).all (fun (a, next) => a.1 < next.1) = true) (ho : Op.lookupswitch.offset ps.toList dflt a = off) (ht : (pc : Int) + off = (tgt : Int)) (k : xX g nL p l e R s m args below meth c cells slots Q S μ tgt vs st) : xX g nL p l e R s m args below meth c cells slots Q S μ pc vs (vI a :: st) :=
  fun H locs ls hl hW hS => lv_lookup hC.1 hC.2.1 hd hq (by rw [i_toInt ha]; exact ho) ht (k H locs ls hl hW hS)
/-! ends of a method -/
theorem x_iret (hC : xCtx g p s m args meth c cc nL own nm (some .int)) {Po : Option Value → xM → Prop} {a : Int} (hd : decode cc pc = .ok (.ireturn, 1)) (hpo : Po (some (vI a)) μ) : xX g nL p l e R s m args below meth c cells slots (MQ below (xQ g S Po) args s cells slots (xA0 g)) S μ pc vs [vI a] :=
  fun H locs ls hl hW hS => W.iret (v := Int32.ofInt a) hC.1 hC.2.1 hC.2.2.2.2.2.2.1 (fun t ht hWm => ⟨⟨some (vI a), μ, rfl, hpo, by rw [ht]; exact hW⟩, hS.F ht⟩) hS.2.2 hd hC.2.2.2.2.2.2.2.1
theorem i_bool {a : Int} (h : a = 0 ∨ a = 1) : narrow .boolean (.int (Int32.ofInt a)) = .int (Int32.ofInt a) := by
  rcases h with rfl | rfl <;> rfl
theorem x_zret (hC : xCtx g p s m args meth c cc nL own nm (some .boolean)) {Po : Option Value → xM → Prop} {a : Int} (hd : decode cc pc = .ok (.ireturn, 1)) (h01 : a = 0 ∨ a = 1) (hpo : Po (some (vI a)) μ) : xX g nL p l e R s m args below meth c cells slots (MQ below (xQ g S Po) args s cells slots (xA0 g)) S μ pc vs [vI a] :=
  fun H locs ls hl hW hS => W.zret (v := Int32.ofInt a) hC.1 hC.2.1 hC.2.2.2.2.2.2.1 (i_bool h01) (fun t ht hWm => ⟨⟨some (vI a), μ, rfl, hpo, by rw [ht]; exact hW⟩, hS.F ht⟩) hS.2.2 hd hC.2.2.2.2.2.2.2.1
theorem x_vret (hC : xCtx g p s m args meth c cc nL own nm none) {Po : Option Value → xM → Prop} (hd : decode cc pc = .ok (.return_, 1)) (hpo : Po none μ) : xX g nL p l e R s m args below meth c cells slots (MQ below (xQ g S Po) args s cells slots (xA0 g)) S μ pc vs [] :=
  fun H locs ls hl hW hS => W.vret hC.1 hC.2.1 hC.2.2.2.2.2.2.1 (fun t ht hWm => ⟨⟨none, μ, rfl, hpo, by rw [ht]; exact hW⟩, hS.F ht⟩) hS.2.2 hd hC.2.2.2.2.2.2.2.1
/-! calls -/
theorem x_size {T : State} {H : Heap} {locs : List Loc} (X : Stand p l e R s m args below meth c T locs cells slots) (hT : T.heap = H) (hW : xW g S μ H) (hS : va_S (xA0 g) s.heap H locs) (hlo : g.1 ≤ s.heap.size) (hz : s.heap.size + cells = g.1 + S.length) : H.size = g.1 + S.length := by
  have h1 := X.heapSize
  rw [hT] at h1
  have h2 := xW_ge hW (Nat.le_trans hlo hS.1)
  omega
theorem x_callE {nc ns : Nat} {av : List Value} {S' : List xS} {Po : Option Value → xM → Prop} {pc : Nat} {H : Heap} {locs : List Loc} {ls : Array Slot} (hlo : g.1 ≤ s.heap.size) (hl : xL ls nL vs) (hS : va_S (xA0 g) s.heap H locs)
    (run : va_Run p l e R s m args below meth c H locs cells slots nc ns (F0 m pc ls st) rest (xQ g S' Po av.toArray) (xA0 g)) (kk : ∀ (r : Option Value) (μ' : xM), Po r μ' → xX g nL p l e R s m args below meth c (cells + nc) (slots + ns) Q S' μ' (pc + 3) vs (r.toList ++ rest)) : W p l e R s m args below meth c H locs cells slots Q (F0 m pc ls st) := by
  intro T hT X
  obtain ⟨v, st₀, t, T', L, h0, X', hL, e1, e2, ⟨⟨r, μ', hv, hp, hw⟩, hz, hk⟩, stp⟩ := run T hT X
  cases hv
  rw [h0] at hz hk
  obtain ⟨t2, a1, b1⟩ := kk _ μ' hp T'.heap (locs ++ L) ls hl (by rw [e1]; exact hw) ⟨Nat.le_trans hS.1 (by rw [e1]; exact hz), fun q h1 h2 => by rw [e1, hk q (Nat.lt_of_lt_of_le h1 hS.1) h2]; exact hS.2.1 q h1 h2, fun q hq => by
      rcases List.mem_append.mp hq with h | h
      · exact hS.2.2 q h
      · exact hL q h⟩ T' rfl X'
  exact ⟨t2, stp t2 a1, b1⟩
theorem x_pre {nc : Nat} {av : List Value} {H : Heap} {locs : List Loc} (hC : xCtx g p s m args meth c cc nL own nm ret) (hW : xW g S μ H) (hS : va_S (xA0 g) s.heap H locs) (hz : nc = 0 ∨ H.size = g.1 + S.length) : ∀ U : State, U.heap = H → s.WarmedH U.vm → va_Pc av (fun U => xW g S μ U.heap ∧ xKn g U ∧ (nc = 0 ∨ U.heap.size = g.1 + S.length) ∧ g.1 ≤ U.heap.size) av.toArray U :=
  fun U hU hWm => ⟨rfl, by rw [hU]; exact hW, hC.2.2.2.2.2.1.step hS hU hWm, by rw [hU]; exact hz, by rw [hU]; exact Nat.le_trans hC.2.2.2.2.2.2.2.2.2 hS.1⟩
theorem x_blind {g : xG} {S : List xS} {μ : xM} {nc : Nat} {av : List Value} : FrameBlind (va_Pc av (fun U => xW g S μ U.heap ∧ xKn g U ∧ (nc = 0 ∨ U.heap.size = g.1 + S.length) ∧ g.1 ≤ U.heap.size)) :=
  fun a U gg mk q => ⟨q.1, q.2.1, q.2.2.1.calling gg mk a, q.2.2.2.1, q.2.2.2.2⟩
theorem x_recv (hC : xCtx g p s m args meth c cc nL own nm ret) {H : Heap} {k ci : Nat} {fs : List (Option (Option Nat))} {r : vw_C} (hW : xW g S μ H) (hS : S[k]? = some (.inl (ci, fs))) (hc : vwCl[ci]? = some r) : ∃ cell : Cell, H[g.1 + k]? = some cell ∧ cell.vm.isStatics = false ∧ s.vm.findClass r.1 = some cell.cls :=
  va_recv hC.2.2.2.2.2.1.1 hW hc (xws_get hS)
theorem x_callV (hC : xCtx g p s m args meth c cc nL own nm ret) {y : MethodName} {cy : ByteArray} {maxL rf rl nc ns n idx k ci : Nat} {ry : Option FieldType} {As : List Value} {S' : List xS} {Po : Option Value → xM → Prop} {fs : List (Option (Option Nat))} {r : vw_C}
    (hM : xCt g l y cy maxL ry rf rl nc ns (vR g k :: As) S μ S' Po) (hY : xY y cy maxL ry n) (hV : xYV y) (hl : Cond.methodLink own idx y ∈ xTB) (hd : decode cc pc = .ok (.invokevirtual idx, 3)) (hS : S[k]? = some (.inl (ci, fs))) (hc : vwCl[ci]? = some r) (hr : r.1 = y.cls) (hst : st = As.reverse ++ vR g k :: rest) (hn : As.length = n) (hR : rf + 1 ≤ R.frames ∧ 8 + (maxL + 11) + rl ≤ R.locals) (hcat : (rest.map fun v => v.category).sum ≤ 8) (hcs : cells + nc ≤ R.cells ∧ slots + ns ≤ R.slots) (hz : nc = 0 ∨ s.heap.size + cells = g.1 + S.length) (hp : pc + 3 = pc')
    (kk : ∀ (r : Option Value) (μ' : xM), Po r μ' → xX g nL p l e R s m args below meth c (cells + nc) (slots + ns) Q S' μ' pc' vs (r.toList ++ rest)) : xX g nL p l e R s m args below meth c cells slots Q S μ pc vs st := by
  subst hp
  subst hst
  intro H locs ls hl' hW hS'
  intro T hT X
  have hz2 : nc = 0 ∨ H.size = g.1 + S.length := hz.imp id (x_size X hT hW hS' hC.2.2.2.2.2.2.2.2.2)
  have hG : GoodIn xTB (wsV own idx y.cls y (.code y cy maxL ry :: xTB)) := xGI (fun w hw => by
    simp only [wsV, List.cons_append, List.nil_append, List.mem_cons] at hw
    rcases hw with rfl | rfl | rfl | rfl | rfl | hw
    · exact hl
    · exact hV.1
    · exact hV.2
    · exact hY.2.1
    · exact hY.1
    · exact hw)
  have run := va_runV (p := p) (l := l) (e := e) (R := R) (s := s) (m := m) (args := args) (below := below) (meth := meth) (c := c) (As := As) (rest := rest) (H := H) (locs := locs) (cells := cells) (slots := slots) (nL := nL) (n := n) (C := y.cls) (b := g.1 + k) (g := F0 m pc ls (As.reverse ++ vR g k :: rest)) ⟨hC.1, hC.2.1, hC.2.2.1, hC.2.2.2.1, hC.2.2.2.2.1⟩ hM (cwV n hC.2.2.2.2.1 hG rfl rfl rfl ⟨rfl, hY.2.2⟩ hR) ⟨x_blind, by rw [← hr]; exact x_recv hC hW hS hc, x_pre hC hW hS' hz2⟩ rfl hn hl'.1 rfl (lv_room hcat) hd hcs
  exact x_callE (av := vR g k :: As) hC.2.2.2.2.2.2.2.2.2 hl' hS' run kk T hT X
theorem x_callS (hC : xCtx g p s m args meth c cc nL own nm ret) {y : MethodName} {cy : ByteArray} {maxL rf rl nc ns n idx : Nat} {ry : Option FieldType} {As : List Value} {S' : List xS} {Po : Option Value → xM → Prop}
    (hM : xCt g l y cy maxL ry rf rl nc ns As S μ S' Po) (hY : xY y cy maxL ry n) (hV : xYS y) (hl : Cond.methodLink own idx y ∈ xTB) (hd : decode cc pc = .ok (.invokestatic idx, 3)) (hst : st = As.reverse ++ rest) (hn : As.length = n) (hR : rf + 1 ≤ R.frames ∧ 8 + (maxL + 11) + rl ≤ R.locals) (hcat : (rest.map fun v => v.category).sum ≤ 8) (hcs : cells + nc ≤ R.cells ∧ slots + ns ≤ R.slots) (hz : nc = 0 ∨ s.heap.size + cells = g.1 + S.length) (hp : pc + 3 = pc')
    (kk : ∀ (r : Option Value) (μ' : xM), Po r μ' → xX g nL p l e R s m args below meth c (cells + nc) (slots + ns) Q S' μ' pc' vs (r.toList ++ rest)) : xX g nL p l e R s m args below meth c cells slots Q S μ pc vs st := by
  subst hp
  subst hst
  intro H locs ls hl' hW hS'
  intro T hT X
  have hz2 : nc = 0 ∨ H.size = g.1 + S.length := hz.imp id (x_size X hT hW hS' hC.2.2.2.2.2.2.2.2.2)
  have hG : GoodIn xTB (va_wsS own idx y (.code y cy maxL ry :: xTB)) := xGI (fun w hw => by
    simp only [va_wsS, List.cons_append, List.nil_append, List.mem_cons] at hw
    rcases hw with rfl | rfl | rfl | rfl | hw
    · exact hl
    · exact hV
    · exact hY.2.1
    · exact hY.1
    · exact hw)
  have run := va_runS (p := p) (l := l) (e := e) (R := R) (s := s) (m := m) (args := args) (below := below) (meth := meth) (c := c) (As := As) (rest := rest) (H := H) (locs := locs) (cells := cells) (slots := slots) (nL := nL) (n := n) (g := F0 m pc ls (As.reverse ++ rest)) ⟨hC.1, hC.2.1, hC.2.2.1, hC.2.2.2.1, hC.2.2.2.2.1⟩ hM (va_cwS n hC.2.2.2.2.1 hG rfl rfl rfl hY.2.2 hR) ⟨x_blind, x_pre hC hW hS' hz2⟩ rfl hn hl'.1 rfl (lv_room hcat) hd hcs
  exact x_callE (av := As) hC.2.2.2.2.2.2.2.2.2 hl' hS' run kk T hT X
theorem x_callSN (hC : xCtx g p s m args meth c cc nL own nm ret) {y : MethodName} {cy : ByteArray} {host : String} {maxL rf rl nc ns n idx : Nat} {ry : Option FieldType} {As : List Value} {S' : List xS} {Po : Option Value → xM → Prop}
    (hM : xCt g l y cy maxL ry rf rl nc ns As S μ S' Po) (hY : xY y cy maxL ry n) (hV : xYS y) (hl : Cond.methodLinkNest own idx y host ∈ xNest) (hd : decode cc pc = .ok (.invokestatic idx, 3)) (hst : st = As.reverse ++ rest) (hn : As.length = n) (hR : rf + 1 ≤ R.frames ∧ 8 + (maxL + 11) + rl ≤ R.locals) (hcat : (rest.map fun v => v.category).sum ≤ 8) (hcs : cells + nc ≤ R.cells ∧ slots + ns ≤ R.slots) (hz : nc = 0 ∨ s.heap.size + cells = g.1 + S.length) (hp : pc + 3 = pc')
    (kk : ∀ (r : Option Value) (μ' : xM), Po r μ' → xX g nL p l e R s m args below meth c (cells + nc) (slots + ns) Q S' μ' pc' vs (r.toList ++ rest)) : xX g nL p l e R s m args below meth c cells slots Q S μ pc vs st := by
  subst hp
  subst hst
  intro H locs ls hl' hW hS'
  intro T hT X
  have hz2 : nc = 0 ∨ H.size = g.1 + S.length := hz.imp id (x_size X hT hW hS' hC.2.2.2.2.2.2.2.2.2)
  have hG : GoodIn xTB (.code y cy maxL ry :: xTB) := xGI (fun w hw => by
    rcases List.mem_cons.mp hw with rfl | hw
    · exact hY.1
    · exact hw)
  have run := va_runSN (p := p) (l := l) (e := e) (R := R) (s := s) (m := m) (args := args) (below := below) (meth := meth) (c := c) (As := As) (rest := rest) (H := H) (locs := locs) (cells := cells) (slots := slots) (nL := nL) (n := n) (g := F0 m pc ls (As.reverse ++ rest)) ⟨hC.1, hC.2.1, hC.2.2.1, hC.2.2.2.1, hC.2.2.2.2.1⟩ hM ⟨va_cnB n hC.2.2.2.2.1 hG rfl rfl rfl (hC.2.2.2.2.2.1.2.1 _ hl) (hC.2.2.2.2.1 _ hY.2.1) hY.2.2 hR, hC.2.2.2.2.1 _ hV, trivial⟩ ⟨x_blind, x_pre hC hW hS' hz2⟩ rfl hn hl'.1 rfl (lv_room hcat) hd hcs
  exact x_callE (av := As) hC.2.2.2.2.2.2.2.2.2 hl' hS' run kk T hT X
theorem x_callI (hC : xCtx g p s m args meth c cc nL own nm ret) {y : MethodName} {cy : ByteArray} {maxL rf rl nc ns n idx k : Nat} {As : List Value} {S' : List xS} {Po : Option Value → xM → Prop}
    (hM : xCt g l y cy maxL none rf rl nc ns (vR g k :: As) S μ S' Po) (hY : xY y cy maxL none n) (hV : Cond.instanceMethod y ∈ xTB) (hy1 : y.name = "<init>") (hl : Cond.methodLink own idx y ∈ xTB) (hd : decode cc pc = .ok (.invokespecial idx, 3)) (hst : st = As.reverse ++ vR g k :: rest) (hn : As.length = n) (hR : rf + 1 ≤ R.frames ∧ 8 + (maxL + 11) + rl ≤ R.locals) (hcat : (rest.map fun v => v.category).sum ≤ 8) (hcs : cells + nc ≤ R.cells ∧ slots + ns ≤ R.slots) (hz : nc = 0 ∨ s.heap.size + cells = g.1 + S.length) (hp : pc + 3 = pc')
    (kk : ∀ (r : Option Value) (μ' : xM), Po r μ' → xX g nL p l e R s m args below meth c (cells + nc) (slots + ns) Q S' μ' pc' vs (r.toList ++ rest)) : xX g nL p l e R s m args below meth c cells slots Q S μ pc vs st := by
  subst hp
  subst hst
  intro H locs ls hl' hW hS'
  intro T hT X
  have hz2 : nc = 0 ∨ H.size = g.1 + S.length := hz.imp id (x_size X hT hW hS' hC.2.2.2.2.2.2.2.2.2)
  have hG : GoodIn xTB (.code y cy maxL none :: xTB) := xGI (fun w hw => by
    rcases List.mem_cons.mp hw with rfl | hw
    · exact hY.1
    · exact hw)
  have run := va_runI (p := p) (l := l) (e := e) (R := R) (s := s) (m := m) (args := args) (below := below) (meth := meth) (c := c) (As := As) (rest := rest) (H := H) (locs := locs) (cells := cells) (slots := slots) (nL := nL) (n := n) (b := g.1 + k) (g := F0 m pc ls (As.reverse ++ vR g k :: rest)) ⟨hC.1, hC.2.1, hC.2.2.1, hC.2.2.2.1, hC.2.2.2.2.1⟩ hM (cwI n hC.2.2.2.2.1 hG rfl rfl rfl (hC.2.2.2.2.1 _ hY.2.1) (hC.2.2.2.2.1 _ hl) (hC.2.2.2.2.1 _ hV) hy1 hY.2.2 hR) ⟨x_blind, x_pre hC hW hS' hz2⟩ rfl hn hl'.1 rfl (lv_room hcat) hd hcs
  exact x_callE (av := vR g k :: As) hC.2.2.2.2.2.2.2.2.2 hl' hS' run kk T hT X
theorem x_callIN (hC : xCtx g p s m args meth c cc nL own nm ret) {y : MethodName} {cy : ByteArray} {host : String} {maxL rf rl nc ns n idx k : Nat} {As : List Value} {S' : List xS} {Po : Option Value → xM → Prop}
    (hM : xCt g l y cy maxL none rf rl nc ns (vR g k :: As) S μ S' Po) (hY : xY y cy maxL none n) (hV : Cond.instanceMethod y ∈ xTB) (hy1 : y.name = "<init>") (hl : Cond.methodLinkNest own idx y host ∈ xNest) (hd : decode cc pc = .ok (.invokespecial idx, 3)) (hst : st = As.reverse ++ vR g k :: rest) (hn : As.length = n) (hR : rf + 1 ≤ R.frames ∧ 8 + (maxL + 11) + rl ≤ R.locals) (hcat : (rest.map fun v => v.category).sum ≤ 8) (hcs : cells + nc ≤ R.cells ∧ slots + ns ≤ R.slots) (hz : nc = 0 ∨ s.heap.size + cells = g.1 + S.length) (hp : pc + 3 = pc')
    (kk : ∀ (r : Option Value) (μ' : xM), Po r μ' → xX g nL p l e R s m args below meth c (cells + nc) (slots + ns) Q S' μ' pc' vs (r.toList ++ rest)) : xX g nL p l e R s m args below meth c cells slots Q S μ pc vs st := by
  subst hp
  subst hst
  intro H locs ls hl' hW hS'
  intro T hT X
  have hz2 : nc = 0 ∨ H.size = g.1 + S.length := hz.imp id (x_size X hT hW hS' hC.2.2.2.2.2.2.2.2.2)
  have hG : GoodIn xTB (.code y cy maxL none :: xTB) := xGI (fun w hw => by
    rcases List.mem_cons.mp hw with rfl | hw
    · exact hY.1
    · exact hw)
  have run := va_runIN (p := p) (l := l) (e := e) (R := R) (s := s) (m := m) (args := args) (below := below) (meth := meth) (c := c) (As := As) (rest := rest) (H := H) (locs := locs) (cells := cells) (slots := slots) (nL := nL) (n := n) (b := g.1 + k) (g := F0 m pc ls (As.reverse ++ vR g k :: rest)) ⟨hC.1, hC.2.1, hC.2.2.1, hC.2.2.2.1, hC.2.2.2.2.1⟩ hM ⟨va_cnB n hC.2.2.2.2.1 hG rfl rfl rfl (hC.2.2.2.2.2.1.2.1 _ hl) (hC.2.2.2.2.1 _ hY.2.1) hY.2.2 hR, hy1, hC.2.2.2.2.1 _ hV⟩ ⟨x_blind, x_pre hC hW hS' hz2⟩ rfl hn hl'.1 rfl (lv_room hcat) hd hcs
  exact x_callE (av := vR g k :: As) hC.2.2.2.2.2.2.2.2.2 hl' hS' run kk T hT X
theorem i_div {a b : Int} (ha : 0 ≤ a ∧ a < 2147483648) (hb : 0 < b ∧ b < 2147483648) : iDiv a b = a / b := by
  unfold iDiv
  have hm : Int32.ofInt a ≠ Int32.minValue := by
    intro z
    have := congrArg Int32.toInt z
    rw [i_toInt (by omega)] at this
    have h2 : Int32.minValue.toInt = -2147483648 := by decide
    omega
  rw [Int32.toInt_div_of_ne_left _ _ hm, i_toInt (by omega), i_toInt (by omega), Int.tdiv_eq_ediv_of_nonneg ha.1]
theorem i_rem {a b : Int} (ha : 0 ≤ a ∧ a < 2147483648) (hb : 0 < b ∧ b < 2147483648) : iRem a b = a % b := by
  unfold iRem
  have e : Int32.ofInt a / Int32.ofInt b = Int32.ofInt (a / b) := by
    have := i_div ha hb
    unfold iDiv at this
    rw [← this, i_back]
  have h0 := Int.emod_nonneg a (show b ≠ 0 by omega)
  have h1 := Int.emod_lt_of_pos a hb.1
  rw [e, ← Int32.ofInt_mul, ← Int32.ofInt_sub]
  have e2 : a - a / b * b = a % b := by rw [Int.emod_def, Int.mul_comm]
  rw [e2, i_toInt (by omega)]
theorem x_mmax (hC : xCtx g p s m args meth c cc nL own nm ret) {a b : Int} {idx : Nat} (hl : Cond.methodLink own idx Lib.Math.max.name ∈ xTB) (hd : decode cc pc = .ok (.invokestatic idx, 3)) (ha : -2147483648 ≤ a ∧ a < 2147483648) (hb : -2147483648 ≤ b ∧ b < 2147483648) (hR : 1 ≤ R.frames ∧ 21 ≤ R.locals) (hcat : (st.map fun v => v.category).sum ≤ 8) (hcs : cells ≤ R.cells ∧ slots ≤ R.slots) (hp : pc + 3 = pc') (k : xX g nL p l e R s m args below meth c cells slots Q S μ pc' vs (vI (max a b) :: st)) : xX g nL p l e R s m args below meth c cells slots Q S μ pc vs (vI b :: vI a :: st) := by
  subst hp
  intro H locs ls hl' hW hS
  refine va_mmax hC.1 hC.2.1 (hC.2.2.1.trans hl'.1.symm) hC.2.2.2.1 (hC.2.2.2.2.1 _ hl) (hC.2.2.2.2.1 _ ks_max) (hC.2.2.2.2.1 _ ki_RJ9) (hC.2.2.2.2.1 _ kx_max) hR.1 (by omega) hcs.1 hcs.2 hd ?_
  have e : (if Int32.ofInt a < Int32.ofInt b then Int32.ofInt b else Int32.ofInt a) = Int32.ofInt (max a b) := by
    by_cases h : a < b
    · rw [if_pos ((i_lt ha hb).mpr h)]
      congr 1
      omega
    · rw [if_neg (fun z => h ((i_lt ha hb).mp z))]
      congr 1
      omega
  rw [e]
  exact k H locs ls hl' hW hS
theorem x_mmin (hC : xCtx g p s m args meth c cc nL own nm ret) {a b : Int} {idx : Nat} (hl : Cond.methodLink own idx Lib.Math.min.name ∈ xTB) (hd : decode cc pc = .ok (.invokestatic idx, 3)) (ha : -2147483648 ≤ a ∧ a < 2147483648) (hb : -2147483648 ≤ b ∧ b < 2147483648) (hR : 1 ≤ R.frames ∧ 21 ≤ R.locals) (hcat : (st.map fun v => v.category).sum ≤ 8) (hcs : cells ≤ R.cells ∧ slots ≤ R.slots) (hp : pc + 3 = pc') (k : xX g nL p l e R s m args below meth c cells slots Q S μ pc' vs (vI (min a b) :: st)) : xX g nL p l e R s m args below meth c cells slots Q S μ pc vs (vI b :: vI a :: st) := by
  subst hp
  intro H locs ls hl' hW hS
  refine va_mmin hC.1 hC.2.1 (hC.2.2.1.trans hl'.1.symm) hC.2.2.2.1 (hC.2.2.2.2.1 _ hl) (hC.2.2.2.2.1 _ ks_min) (hC.2.2.2.2.1 _ ki_RJ9) (hC.2.2.2.2.1 _ kx_min) hR.1 (by omega) hcs.1 hcs.2 hd ?_
  have e : (if Int32.ofInt b < Int32.ofInt a then Int32.ofInt b else Int32.ofInt a) = Int32.ofInt (min a b) := by
    by_cases h : b < a
    · rw [if_pos ((i_lt hb ha).mpr h)]
      congr 1
      omega
    · rw [if_neg (fun z => h ((i_lt hb ha).mp z))]
      congr 1
      omega
  rw [e]
  exact k H locs ls hl' hW hS
/-- n numbers of cell k0 laid into cell k1, from the first on -/
def xCp (μ : xM) (k0 k1 : Nat) (n : Int) : xM := fun k j => if k = k1 ∧ 0 ≤ j ∧ j < n then μ k0 j else μ k j
theorem xCp_at {μ : xM} {k0 k1 : Nat} {n j : Int} (h0 : 0 ≤ j) (h : j < n) : xCp μ k0 k1 n k1 j = μ k0 j := by
  unfold xCp
  rw [if_pos ⟨rfl, h0, h⟩]
theorem xCp_ne {μ : xM} {k0 k1 k : Nat} {n j : Int} (h : k ≠ k1) : xCp μ k0 k1 n k j = μ k j := by
  unfold xCp
  rw [if_neg (fun z => h z.1)]
/-- System.arraycopy of n numbers, from the first on -/
theorem x_copyi (hC : xCtx g p s m args meth c cc nL own nm ret) {k0 k1 n0 n1 idx n : Nat} {n' : Int} (hl : Cond.methodLink own idx arraycopyName ∈ xTB) (hd : decode cc pc = .ok (.invokestatic idx, 3)) (h0 : S[k0]? = some (.inr (.inl (false, n0)))) (h1 : S[k1]? = some (.inr (.inl (false, n1)))) (hn0 : n ≤ n0) (hn1 : n ≤ n1) (hn : n < 2147483648) (hn' : (n : Int) = n') (hR : 1 ≤ R.frames ∧ (st.map fun v => v.category).sum + (nativeFrameWords "java/lang/System" "arraycopy" 5 + 11) ≤ R.locals) (hp : pc + 3 = pc') (kk : xX g nL p l e R s m args below meth c cells slots Q S (xCp μ k0 k1 n') pc' vs st) : xX g nL p l e R s m args below meth c cells slots Q S μ pc vs (vI n' :: vI 0 :: vR g k1 :: vI 0 :: vR g k0 :: st) := by
  subst hp
  subst hn'
  intro H locs ls hl' hW hS
  have z0 : ((0 : Int32).toNatClampNeg) = 0 := rfl
  have zn : (Int32.ofInt n).toNatClampNeg = n := by
    have := i_cl (a := (n : Int)) (by omega)
    omega
  have e0 : Int32.ofInt 0 = 0 := rfl
  have hnn : ¬ Int32.ofInt (n : Int) < 0 := by
    rw [← e0, i_lt (by omega) (by omega)]
    omega
  show W p l e R s m args below meth c H locs cells slots Q (F0 m pc ls (.int (Int32.ofInt n) :: .int 0 :: .ref (g.1 + k1) :: .int 0 :: .ref (g.1 + k0) :: st))
  refine va_copyi (ty := .int) hC.1 hC.2.1 (hC.2.2.1.trans hl'.1.symm) hC.2.2.2.1 (hC.2.2.2.2.1 _ hl) (hC.2.2.2.2.1 _ kn_acopy) (hC.2.2.2.2.1 _ ks_acopy) (hC.2.2.2.2.1 _ ki_RJ10) hC.2.2.2.2.2.1.1 hW xws_D hS k0 k1 0 0 (xws_get h0) (xws_get h1) xTy0 xTy0 rfl (by decide) (by decide) hnn (by rw [z0, zn]; omega) (by rw [z0, zn]; omega) (fun i hi => rfl) hR.1 hR.2 hd (fun H1 locs1 hP hD hS1 => ?_)
  rw [z0, zn] at hP
  have e : (xws g S μ).set k1 (g.1 + k1, .inl (if false = true then g.2.2.1.2.1 else g.2.2.1.1, n1, .inl (va_cpy (fun j => Int32.ofInt (μ k0 j)) (fun j => Int32.ofInt (μ k1 j)) 0 0 n))) = xws g S (xCp μ k0 k1 n) := by
    refine xws_setE h1 ?_ (fun i hi => ?_)
    · simp only [xC]
      congr 4
      funext j
      unfold va_cpy xCp
      by_cases hj : j < n
      · have c1 : (0 : Int) ≤ (j : Int) ∧ (j : Int) < n := by omega
        rw [if_pos (show 0 ≤ j ∧ j < 0 + n by omega)]
        simp [hj]
      · rw [if_neg (show ¬ (0 ≤ j ∧ j < 0 + n) by omega)]
        simp [hj]
    · funext j
      exact xCp_ne hi
  have hP2 : va_P g.2.1 vwCl ((xws g S μ).set k1 (g.1 + k1, .inl (if false = true then g.2.2.1.2.1 else g.2.2.1.1, n1, .inl (va_cpy (fun j => Int32.ofInt (μ k0 j)) (fun j => Int32.ofInt (μ k1 j)) 0 0 n)))) H1 := hP
  rw [e] at hP2
  exact kk H1 locs1 ls hl' hP2 hS1
end XR
/-- a method's walk from its entry -/
theorem x_enter {g : xG} {l : Launch} {y : MethodName} {cc : ByteArray} {maxL : Nat} {ret : Option FieldType} {rf rl nc ns : Nat} {av : List Value} {S : List xS} {μ : xM} {S' : List xS} {Po : Option Value → xM → Prop} (hy : plainName y.cls = true) (hlen : (lg_sl av).length ≤ maxL)
    (body : ∀ (p : Program) (e : Env) (s : State) (m : MethodId) (args : Array Value) (below : List Frame) (meth : Method) (c : Code), xCtx g p s m args meth c cc maxL y.cls y.name ret → (nc = 0 ∨ s.heap.size = g.1 + S.length) → xX g maxL p l e { frames := rf, cells := nc, slots := ns, locals := rl } s m args below meth c 0 0 (MQ below (xQ g S' Po) args s nc ns (xA0 g)) S μ 0 (xA av maxL) []) :
    xCt g l y cc maxL ret rf rl nc ns av S μ S' Po := by
  refine Met.ofW (cc := cc) (maxL := maxL) (ret := ret) hy rfl ?_
  intro p e s m args below meth c s₁ B hml hv
  obtain ⟨rfl, hW, hK, hz, hlo⟩ := hv
  have hts := atoms_spec (ws := .code y cc maxL ret :: xTB) B.pre
  have hC : xCtx g p s m av.toArray meth c cc maxL y.cls y.name ret := ⟨B.exec, B.bytes, hml, findClass_of_methodNamed B.named, fun w hw => hts w (List.mem_cons_of_mem _ hw), hK, B.returns, B.notSynchronized, (name_of_methodNamed B.named B.method).1, hlo⟩
  rw [lg_entry_eq]
  exact body p e s m av.toArray below meth c hC hz s.heap [] _ (xL_entry av hlen) hW va_S.rf
