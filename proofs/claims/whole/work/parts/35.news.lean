/-! making cells: rows of the machine for new objects, new arrays, and the String constant -/
def xZ (μ : xM) (k : Nat) : xM := fun k' j => if k' = k then 0 else μ k' j
theorem xZ_at {μ : xM} {k : Nat} {j : Int} : xZ μ k k j = 0 := by simp [xZ]
theorem xZ_ne {μ : xM} {k k' : Nat} {j : Int} (h : k' ≠ k) : xZ μ k k' j = μ k' j := by simp [xZ, h]
theorem FrI.z {lo hi : Nat} {μ μ' : xM} {k : Nat} (h : FrI lo hi μ μ') (hk : lo ≤ k ∧ k < hi) : FrI lo hi μ (xZ μ' k) := fun k' j hk' => (xZ_ne (by omega)).trans (h k' j hk')
/-- a world with one cell more -/
theorem xW_app {g : xG} {S : List xS} {μ : xM} {k : Nat} {sh : xS} {H H' : Heap} (hW : xW g S μ H) (hk : S.length = k) (hz : H.size = g.1 + k) (o1 : ∀ q, q < g.1 + k → H'[q]? = H[q]?) (hn : va_at g.2.1 vwCl (g.1 + k, xC g (fun _ => 0) sh) H') : xW g (S ++ [sh]) (xZ μ k) H' := by
  refine xWof fun i si hi => ?_
  by_cases hl : i < k
  · rw [List.getElem?_append_left (by omega)] at hi
    have e : xZ μ k i = μ i := funext fun j => xZ_ne (by omega)
    rw [e]
    exact (xWat hW hi).kept (o1 _ (by show g.1 + i < g.1 + k; omega))
  · rw [List.getElem?_append_right (by omega)] at hi
    have hz2 : i - S.length < 1 := (List.getElem?_eq_some_iff.mp hi).1
    have e : i = k := by omega
    subst e
    rw [show i - S.length = 0 by omega] at hi
    cases hi
    have e : xZ μ i i = fun _ => 0 := funext fun j => xZ_at
    rw [e]
    exact hn
theorem xS_app {g : xG} {H0 H H' : Heap} {locs : List Loc} {h : Nat} (hS : va_S (xA0 g) H0 H locs) (hz : H.size = h) (z1 : H'.size = h + 1) (o1 : ∀ q, q < h → H'[q]? = H[q]?) : va_S (xA0 g) H0 H' locs :=
  ⟨Nat.le_trans hS.1 (by omega), fun q h1 h2 => (o1 q (by have := hS.1; omega)).trans (hS.2.1 q h1 h2), hS.2.2⟩
section XR3
variable {g : xG} {nL : Nat} {p : Program} {l : Launch} {e : Env} {R : Room} {s : State} {m : MethodId} {args : Array Value} {below : List Frame} {meth : Method} {c : Code} {cells slots : Nat} {Q : State → Prop} {S : List xS} {μ : xM} {pc pc' : Nat} {vs : List (Option Value)} {st rest : List Value} {cc : ByteArray} {own nm : String} {ret : Option FieldType}
theorem x_S {S' : List xS} (h : S = S') (k : xX g nL p l e R s m args below meth c cells slots Q S' μ pc vs st) : xX g nL p l e R s m args below meth c cells slots Q S μ pc vs st := by subst h; exact k
theorem x_newI (hC : xCtx g p s m args meth c cc nL own nm ret) {n k : Nat} {n' : Int} (hd : decode cc pc = .ok (.newarray .int, 2)) (hn' : n' = n) (hn : n < 100000) (hk : S.length = k) (hz : s.heap.size + cells = g.1 + k) (hcs : cells + 1 ≤ R.cells ∧ slots + n ≤ R.slots) (hp : pc + 2 = pc')
    (kk : xX g nL p l e R s m args below meth c (cells + 1) (slots + n) Q (S ++ [.inr (.inl (false, n))]) (xZ μ k) pc' vs (vR g k :: st)) : xX g nL p l e R s m args below meth c cells slots Q S μ pc vs (vI n' :: st) := by
  subst hp
  subst hn'
  intro H locs ls hl hW hS T hT X
  have hsz : H.size = g.1 + k := by rw [← hk]; exact x_size X hT hW hS hC.2.2.2.2.2.2.2.2.2 (by rw [hk]; exact hz)
  have hneg : ¬ Int32.ofInt (n : Int) < 0 := by
    have e0 : Int32.ofInt 0 = 0 := rfl
    rw [← e0, i_lt (by omega) (by omega)]
    omega
  have hN : (Int32.ofInt (n : Int)).toNatClampNeg = n := by
    have := i_cl (a := (n : Int)) (by omega)
    omega
  refine va_newaK (atype := .int) hC.1 hC.2.1 (hC.2.2.2.2.1 _ ka_int) (g := F0 m pc ls (vI (n : Int) :: st)) rfl hd (n := Int32.ofInt (n : Int)) (N := n) (rest := st) rfl hneg hN (by show n * 4 ≤ 536870912; omega) hcs.1 hcs.2 (h := g.1 + k) hsz (fun H' cA e1 z1 o1 hAr hNm => ?_) T hT X
  have hcA : cA = g.2.2.1.1 := Option.some.inj (hNm.symm.trans (hC.2.2.2.2.2.1.1.2 0 _ xTy0).2)
  subst hcA
  exact kk H' locs ls hl (xW_app hW hk hsz o1 (by show H'[g.1 + k]? = some (vp_cell _ _); rw [e1]; rfl)) (xS_app hS hsz z1 o1)
theorem x_newC (hC : xCtx g p s m args meth c cc nL own nm ret) {n k : Nat} {n' : Int} (hd : decode cc pc = .ok (.newarray .char, 2)) (hn' : n' = n) (hn : n < 100000) (hk : S.length = k) (hz : s.heap.size + cells = g.1 + k) (hcs : cells + 1 ≤ R.cells ∧ slots + n ≤ R.slots) (hp : pc + 2 = pc')
    (kk : xX g nL p l e R s m args below meth c (cells + 1) (slots + n) Q (S ++ [.inr (.inl (true, n))]) (xZ μ k) pc' vs (vR g k :: st)) : xX g nL p l e R s m args below meth c cells slots Q S μ pc vs (vI n' :: st) := by
  subst hp
  subst hn'
  intro H locs ls hl hW hS T hT X
  have hsz : H.size = g.1 + k := by rw [← hk]; exact x_size X hT hW hS hC.2.2.2.2.2.2.2.2.2 (by rw [hk]; exact hz)
  have hneg : ¬ Int32.ofInt (n : Int) < 0 := by
    have e0 : Int32.ofInt 0 = 0 := rfl
    rw [← e0, i_lt (by omega) (by omega)]
    omega
  have hN : (Int32.ofInt (n : Int)).toNatClampNeg = n := by
    have := i_cl (a := (n : Int)) (by omega)
    omega
  refine va_newaK (atype := .char) hC.1 hC.2.1 (hC.2.2.2.2.1 _ ka_char) (g := F0 m pc ls (vI (n : Int) :: st)) rfl hd (n := Int32.ofInt (n : Int)) (N := n) (rest := st) rfl hneg hN (by show n * 2 ≤ 536870912; omega) hcs.1 hcs.2 (h := g.1 + k) hsz (fun H' cA e1 z1 o1 hAr hNm => ?_) T hT X
  have hcA : cA = g.2.2.1.2.1 := Option.some.inj (hNm.symm.trans (hC.2.2.2.2.2.1.1.2 1 _ xTy1).2)
  subst hcA
  exact kk H' locs ls hl (xW_app hW hk hsz o1 (by show H'[g.1 + k]? = some (vp_cell _ _); rw [e1]; rfl)) (xS_app hS hsz z1 o1)
theorem x_newO (hC : xCtx g p s m args meth c cc nL own nm ret) {idx ci N k : Nat} {C : String} {T : u_T} {ty : Nat → FieldType} {fs : List (Option (Option Nat))} (hcl : xCl ci C T N ty) (hl9 : Cond.classLink own idx C ∈ xTB) (hd : decode cc pc = .ok (.new idx, 3)) (hfs : ∀ j, j < N → defaultValue (ty j) = vp_V (fs.mapIdx (fun j o => xV g (fun _ => 0) j o)) j) (hk : S.length = k) (hz : s.heap.size + cells = g.1 + k) (hcs : cells + 1 ≤ R.cells ∧ slots + N ≤ R.slots) (hp : pc + 3 = pc')
    (kk : xX g nL p l e R s m args below meth c (cells + 1) (slots + N) Q (S ++ [.inl (ci, fs)]) (xZ μ k) pc' vs (vR g k :: st)) : xX g nL p l e R s m args below meth c cells slots Q S μ pc vs st := by
  subst hp
  obtain ⟨h1, h2, h3, h4, h5, h6⟩ := hcl
  intro H locs ls hl hW hS T hT X
  have hsz : H.size = g.1 + k := by rw [← hk]; exact x_size X hT hW hS hC.2.2.2.2.2.2.2.2.2 (by rw [hk]; exact hz)
  have hKn := hC.2.2.2.2.2.1.1.1 ci _ h1
  refine W.newcK hC.1 hC.2.1 hC.2.2.2.1 (hC.2.2.2.2.1 _ hl9) (hC.2.2.2.2.1 _ h5) (hC.2.2.2.2.1 _ h6) (g := F0 m pc ls st) rfl hd hcs.1 hcs.2 hKn.2.1 (h := g.1 + k) hsz (fun H1 kC hkC e1 z1 o1 => ?_) T hT X
  exact kk H1 locs ls hl (xW_app hW hk hsz o1 ⟨_, h1, (u_born ty hC.2.2.2.2.1 h2 hKn hkC e1 h3).to hfs⟩) (xS_app hS hsz z1 o1)
theorem x_newR (hC : xCtx g p s m args meth c cc nL own nm ret) {n k idx : Nat} {n' : Int} (hl9 : Cond.classLink own idx RX4 ∈ xTB) (hd : decode cc pc = .ok (.anewarray idx, 3)) (hn' : n' = n) (hn : n < 100000) (hk : S.length = k) (hz : s.heap.size + cells = g.1 + k) (hcs : cells + 1 ≤ R.cells ∧ slots + n ≤ R.slots) (hp : pc + 3 = pc')
    (kk : xX g nL p l e R s m args below meth c (cells + 1) (slots + n) Q (S ++ [.inr (.inr (List.replicate n none))]) (xZ μ k) pc' vs (vR g k :: st)) : xX g nL p l e R s m args below meth c cells slots Q S μ pc vs (vI n' :: st) := by
  subst hp
  subst hn'
  intro H locs ls hl hW hS T hT X
  have hsz : H.size = g.1 + k := by rw [← hk]; exact x_size X hT hW hS hC.2.2.2.2.2.2.2.2.2 (by rw [hk]; exact hz)
  have hneg : ¬ Int32.ofInt (n : Int) < 0 := by
    have e0 : Int32.ofInt 0 = 0 := rfl
    rw [← e0, i_lt (by omega) (by omega)]
    omega
  have hN : (Int32.ofInt (n : Int)).toNatClampNeg = n := by
    have := i_cl (a := (n : Int)) (by omega)
    omega
  refine W.anew (n := Int32.ofInt (n : Int)) (rest := st) (g := F0 m pc ls (vI (n : Int) :: st)) hC.1 hC.2.1 hC.2.2.2.1 (hC.2.2.2.2.1 _ hl9) (va_AO.use hC.2.2.2.2.2.1.2.2.1) rfl hd rfl hneg (by rw [hN]; omega) hcs.1 (by rw [hN]; exact hcs.2) (fun cA kA comp f1 f2 f3 f4 => ?_) T hT X
  rw [hN, hsz]
  obtain ⟨kA', comp', j1, j2, j3, j4⟩ := (hC.2.2.2.2.2.1.1.2 2 _ xTy2).2
  have hcA : cA = g.2.2.1.2.2 := Option.some.inj (f1.symm.trans j4)
  subst hcA
  have o1 : ∀ q, q < g.1 + k → (H.push ({ cls := g.2.2.1.2.2, slots := Array.replicate n .null, vm := .none } : Cell))[q]? = H[q]? := fun q hq => by rw [Array.getElem?_push, if_neg (by omega)]
  refine kk _ locs ls hl (xW_app hW hk hsz o1 ?_) (xS_app hS hsz (by rw [Array.size_push, hsz]) o1)
  show (H.push _)[g.1 + k]? = some (vp_cell _ _)
  rw [← hsz, Array.getElem?_push_size, List.length_replicate, vp_cell_q, arrV_new]
  congr 2
  funext j
  have e : (List.replicate n (none : Option Nat)).getD j none = none := by
    rw [List.getD_eq_getElem?_getD, List.getElem?_replicate]
    split <;> rfl
  rw [e]
  rfl
theorem x_aast (hC : xCtx g p s m args meth c cc nL own nm ret) {k kv ci : Nat} {i : Int} {ts : List (Option Nat)} {fs : List (Option (Option Nat))} {r : vw_C} (hd : decode cc pc = .ok (.aastore, 1)) (hS : S[k]? = some (.inr (.inr ts))) (hi : 0 ≤ i ∧ i < ts.length) (hn : ts.length < 2147483648) (hv : S[kv]? = some (.inl (ci, fs))) (hc : vwCl[ci]? = some r) (hr : r.1 = RX4) (hp : pc + 1 = pc') (kk : xX g nL p l e R s m args below meth c cells slots Q (S.set k (.inr (.inr (ts.set i.toNat (some kv))))) μ pc' vs st) : xX g nL p l e R s m args below meth c cells slots Q S μ pc vs (vR g kv :: vI i :: vR g k :: st) := by
  subst hp
  intro H locs ls hl hW hS'
  have hcl : (Int32.ofInt i).toNatClampNeg = i.toNat := by
    have := i_cl (a := i) (by omega)
    omega
  have e1 : (fun j => ((ts.set i.toNat (some kv)).getD j none).map (fun t => g.1 + t)) = va_up (fun j => (ts.getD j none).map (fun t => g.1 + t)) (Int32.ofInt i).toNatClampNeg (some (g.1 + kv)) := by
    funext j
    rw [hcl]
    unfold va_up
    by_cases hj : j = i.toNat
    · subst hj
      rw [if_pos rfl, List.getD_eq_getElem?_getD, List.getElem?_set_self (by omega)]
      rfl
    · rw [if_neg hj, List.getD_eq_getElem?_getD, List.getElem?_set_ne (by omega), ← List.getD_eq_getElem?_getD]
  have e2 : (xws g S μ).set k (g.1 + k, .inl (g.2.2.1.2.2, ts.length, .inr (.inr (.inr (.inr (va_up (fun j => (ts.getD j none).map (fun t => g.1 + t)) (Int32.ofInt i).toNatClampNeg (some (g.1 + kv)))))))) = xws g (S.set k (.inr (.inr (ts.set i.toNat (some kv))))) μ :=
    xws_setS hS (by rw [← e1]; simp only [xC, List.length_set])
  refine va_astq (i := Int32.ofInt i) hC.1 hC.2.1 hC.2.2.2.2.2.1.1 hW xws_D hS' k 2 kv ci (xws_get hS) (by rw [hr]; exact xTy2) (xws_get hv) hc (i_in hi hn) hd (fun H1 locs1 hP hD hS1 => ?_)
  rw [e2] at hP
  exact kk H1 locs1 ls hl hP hS1
theorem x_objInit (hC : xCtx g p s m args meth c cc nL own nm ret) {idx k : Nat} (hl9 : Cond.methodLink own idx objectInit ∈ xTB) (hd : decode cc pc = .ok (.invokespecial idx, 3)) (hR : 1 ≤ R.frames ∧ (st.map fun v => v.category).sum + 12 ≤ R.locals) (hp : pc + 3 = pc') (kk : xX g nL p l e R s m args below meth c cells slots Q S μ pc' vs st) : xX g nL p l e R s m args below meth c cells slots Q S μ pc vs (vR g k :: st) := by
  subst hp
  exact fun H locs ls hl hW hS => W.objInit (g := F0 m pc ls (vR g k :: st)) hC.1 hC.2.1 hC.2.2.2.1 (hC.2.2.2.2.1 _ hl9) (hC.2.2.2.2.1 _ km_objectInit) (hC.2.2.2.2.1 _ kx_objectInit) rfl (hl.1.trans hC.2.2.1.symm) rfl hd hR.1 (by show 2 * 0 + _ + 12 ≤ _; omega) (kk H locs ls hl hW hS)
/-! the String constant -/
theorem x_aloadQ (hC : xCtx g p s m args meth c cc nL own nm ret) {i : Fin 4} {q : Nat} (hd : decode cc pc = .ok (.aload_n i, 1)) (hv : vs[(i : Nat)]? = some (some (.ref q))) (hp : pc + 1 = pc') (k : xX g nL p l e R s m args below meth c cells slots Q S μ pc' vs (.ref q :: st)) : xX g nL p l e R s m args below meth c cells slots Q S μ pc vs st := by
  subst hp; exact fun H locs ls hl hW hS => lv_aload_n hC.1 hC.2.1 hd rfl (hl.2.2 _ _ hv) (k H locs ls hl hW hS)
theorem x_ldcS (hC : xCtx g p s m args meth c cc nL own nm ret) (ho : own = RX6) (hd : decode cc pc = .ok (.ldc 61, 2)) (hp : pc + 2 = pc') (k : xX g nL p l e R s m args below meth c cells slots Q S μ pc' vs (.ref (g.2.2.2.1 0) :: st)) : xX g nL p l e R s m args below meth c cells slots Q S μ pc vs st := by
  subst hp; subst ho; exact fun H locs ls hl hW hS => va_ldcS hC.1 hC.2.1 hC.2.2.2.1 hC.2.2.2.2.2.1.2.2.2.2.1 hd (k H locs ls hl hW hS)
theorem x_kval (hC : xCtx g p s m args meth c cc nL own nm ret) (ho : own = RJ0) (hd : decode cc pc = .ok (.getfield 9, 3)) (hp : pc + 3 = pc') (k : xX g nL p l e R s m args below meth c cells slots Q S μ pc' vs (.ref (g.2.2.2.2 0) :: st)) : xX g nL p l e R s m args below meth c cells slots Q S μ pc vs (.ref (g.2.2.2.1 0) :: st) := by
  subst hp; subst ho; exact fun H locs ls hl hW hS => vk_getf hC.1 hC.2.1 (hC.2.2.2.2.2.1.2.2.2.1.1 0 (by decide)).2.2.1 hS hC.2.2.2.1 (hC.2.2.2.2.1 _ kg_J0_9) (fun _ h => h) hd (k H locs ls hl hW hS)
theorem x_kcod (hC : xCtx g p s m args meth c cc nL own nm ret) (ho : own = RJ0) (hd : decode cc pc = .ok (.getfield 15, 3)) (hp : pc + 3 = pc') (k : xX g nL p l e R s m args below meth c cells slots Q S μ pc' vs (vI 0 :: st)) : xX g nL p l e R s m args below meth c cells slots Q S μ pc vs (.ref (g.2.2.2.1 0) :: st) := by
  subst hp; subst ho; exact fun H locs ls hl hW hS => vk_getf hC.1 hC.2.1 (hC.2.2.2.2.2.1.2.2.2.1.1 0 (by decide)).2.1 hS hC.2.2.2.1 (hC.2.2.2.2.1 _ kg_J0_15) (fun _ h => h) hd (k H locs ls hl hW hS)
theorem x_kcs (hC : xCtx g p s m args meth c cc nL own nm ret) (ho : own = RJ0) (hd : decode cc pc = .ok (.getstatic 38, 3)) (hp : pc + 3 = pc') (k : xX g nL p l e R s m args below meth c cells slots Q S μ pc' vs (vI 1 :: st)) : xX g nL p l e R s m args below meth c cells slots Q S μ pc vs st := by
  subst hp; subst ho; exact fun H locs ls hl hW hS => va_gets hC.1 hC.2.1 hC.2.2.2.2.2.1.2.2.2.2.2.1 hS hC.2.2.2.1 (hC.2.2.2.2.1 _ kg_J0_38) (fun _ h => h) hd (k H locs ls hl hW hS)
theorem x_ksi (hC : xCtx g p s m args meth c cc nL own nm ret) (ho : own = RJ0) (hd : decode cc pc = .ok (.getstatic 1053, 3)) (hp : pc + 3 = pc') (k : ∀ o : Option Nat, xX g nL p l e R s m args below meth c cells slots Q S μ pc' vs (va_rf o :: st)) : xX g nL p l e R s m args below meth c cells slots Q S μ pc vs st := by
  subst hp; subst ho
  intro H locs ls hl hW hS
  rcases hC.2.2.2.2.2.1.2.2.2.2.2.2 with z | ⟨t, z⟩
  · exact va_gets hC.1 hC.2.1 z hS hC.2.2.2.1 (hC.2.2.2.2.1 _ kg_J0_1053) (fun _ h => h) hd (k none H locs ls hl hW hS)
  · exact va_gets hC.1 hC.2.1 z hS hC.2.2.2.1 (hC.2.2.2.2.1 _ kg_J0_1053) (fun _ h => h) hd (k (some t) H locs ls hl hW hS)
theorem x_klen (hC : xCtx g p s m args meth c cc nL own nm ret) (hd : decode cc pc = .ok (.arraylength, 1)) (hp : pc + 1 = pc') (k : xX g nL p l e R s m args below meth c cells slots Q S μ pc' vs (vI 69 :: st)) : xX g nL p l e R s m args below meth c cells slots Q S μ pc vs (.ref (g.2.2.2.2 0) :: st) := by
  subst hp; exact fun H locs ls hl hW hS => va_tlen hC.1 hC.2.1 (hC.2.2.2.2.2.1.2.2.2.1.1 0 (by decide)).2.2.2 hS (v := Int32.ofInt 69) rfl hd (k H locs ls hl hW hS)
def xTxt (i : Int) : Int := (xBytes.getD i.toNat 0).toInt
theorem x_kbald (hC : xCtx g p s m args meth c cc nL own nm ret) {i : Int} (hi : 0 ≤ i ∧ i < 69) (hd : decode cc pc = .ok (.baload, 1)) (hp : pc + 1 = pc') (k : xX g nL p l e R s m args below meth c cells slots Q S μ pc' vs (vI (xTxt i) :: st)) : xX g nL p l e R s m args below meth c cells slots Q S μ pc vs (vI i :: .ref (g.2.2.2.2 0) :: st) := by
  subst hp
  have hcl : (Int32.ofInt i).toNatClampNeg = i.toNat := by
    have := i_cl (a := i) (by omega)
    omega
  exact fun H locs ls hl hW hS => va_tb (v := vI (xTxt i)) hC.1 hC.2.1 (hC.2.2.2.2.2.1.2.2.2.1.1 0 (by decide)).2.2.2 hS (i_in (n := 69) hi (by decide)) (by
    rw [hcl]
    show Value.int (xBytes.getD i.toNat 0) = .int (Int32.ofInt (xBytes.getD i.toNat 0).toInt)
    rw [i_back]) hd (k H locs ls hl hW hS)
theorem x_nret {ty : FieldType} (hC : xCtx g p s m args meth c cc nL own nm (some ty)) {Po : Option Value → xM → Prop} {a : Int} (hd : decode cc pc = .ok (.ireturn, 1)) (hn : narrow ty (.int (Int32.ofInt a)) = .int (Int32.ofInt a)) (hpo : Po (some (vI a)) μ) : xX g nL p l e R s m args below meth c cells slots (MQ below (xQ g S Po) args s cells slots (xA0 g)) S μ pc vs [vI a] :=
  fun H locs ls hl hW hS => W.zret (ty := ty) hC.1 hC.2.1 hC.2.2.2.2.2.2.1 hn (fun t ht hWm => ⟨⟨some (vI a), μ, rfl, hpo, by rw [ht]; exact hW⟩, hS.F ht⟩) hS.2.2 hd hC.2.2.2.2.2.2.2.1
theorem x_callK (hC : xCtx g p s m args meth c cc nL own nm ret) {y : MethodName} {cy : ByteArray} {maxL rf rl nc ns n idx : Nat} {ry : Option FieldType} {As : List Value} {S' : List xS} {Po : Option Value → xM → Prop}
    (hM : xCt g l y cy maxL ry rf rl nc ns (.ref (g.2.2.2.1 0) :: As) S μ S' Po) (hY : xY y cy maxL ry n) (hV : xYV y) (hyc : y.cls = "java/lang/String") (hl : Cond.methodLink own idx y ∈ xTB) (hd : decode cc pc = .ok (.invokevirtual idx, 3)) (hst : st = As.reverse ++ .ref (g.2.2.2.1 0) :: rest) (hn : As.length = n) (hR : rf + 1 ≤ R.frames ∧ 8 + (maxL + 11) + rl ≤ R.locals) (hcat : (rest.map fun v => v.category).sum ≤ 8) (hcs : cells + nc ≤ R.cells ∧ slots + ns ≤ R.slots) (hz : nc = 0 ∨ s.heap.size + cells = g.1 + S.length) (hp : pc + 3 = pc')
    (kk : ∀ (r : Option Value) (μ' : xM), Po r μ' → xX g nL p l e R s m args below meth c (cells + nc) (slots + ns) Q S' μ' pc' vs (r.toList ++ rest)) : xX g nL p l e R s m args below meth c cells slots Q S μ pc vs st := by
  subst hp
  subst hst
  intro H locs ls hl' hW hS'
  intro T hT X
  have hz2 : nc = 0 ∨ H.size = g.1 + S.length := hz.imp id (x_size X hT hW hS' hC.2.2.2.2.2.2.2.2.2)
  have hG : GoodIn xTB (wsV own idx y.cls y (.code y cy maxL ry :: xTB)) := xGI (fun w hw => by
    simp only [wsV, List.cons_append, List.nil_append, List.mem_cons] at hw
    rcases hw with rfl | rfl | rfl | rfl | rfl | hw
    · exact hl
    · exact hV.1
    · exact hV.2
    · exact hY.2.1
    · exact hY.1
    · exact hw)
  have run := va_runV (p := p) (l := l) (e := e) (R := R) (s := s) (m := m) (args := args) (below := below) (meth := meth) (c := c) (As := As) (rest := rest) (H := H) (locs := locs) (cells := cells) (slots := slots) (nL := nL) (n := n) (C := y.cls) (b := g.2.2.2.1 0) (g := F0 m pc ls (As.reverse ++ .ref (g.2.2.2.1 0) :: rest)) ⟨hC.1, hC.2.1, hC.2.2.1, hC.2.2.2.1, hC.2.2.2.2.1⟩ hM (cwV n hC.2.2.2.2.1 hG rfl rfl rfl ⟨rfl, hY.2.2⟩ hR) ⟨x_blind, by rw [hyc]; exact vk_recv hC.2.2.2.2.2.1.2.2.2.1 (by decide) hS', x_pre hC hW hS' hz2⟩ rfl hn hl'.1 rfl (lv_room hcat) hd hcs
  exact x_callE (av := .ref (g.2.2.2.1 0) :: As) hC.2.2.2.2.2.2.2.2.2 hl' hS' run kk T hT X
end XR3
