/-! THE FIXED WORLD: all cells of the class's object and of the reference stand in the heap behind the old part (from lo = g.1 on), one behind the other, in the order in which the constructors make them; S tells the shape of each, μ the whole numbers in each: cell k, place j. Numbers are Int; a cell holds them as Int32.ofInt. A walk's goal is xX: pc, locals, stack, μ; nothing else. -/
abbrev xM : Type := Nat → Int → Int
abbrev xS : Type := (Nat × List (Option (Option Nat))) ⊕ ((Bool × Nat) ⊕ List (Option Nat))
abbrev xG : Type := Nat × va_G × (ClassId × ClassId × ClassId) × (Nat → Nat) × (Nat → Nat)
def vI (a : Int) : Value := .int (Int32.ofInt a)
def vL (a : Int) : Value := .long (Int64.ofInt a)
def vR (g : xG) (k : Nat) : Value := .ref (g.1 + k)
def xV (g : xG) (f : Int → Int) (j : Nat) : Option (Option Nat) → Value
  | none => vI (f j)
  | some none => .null
  | some (some t) => vR g t
def xC (g : xG) (f : Int → Int) : xS → va_E
  | .inl o => .inr (o.1, o.2.mapIdx (fun j o => xV g f j o))
  | .inr (.inl a) => .inl (if a.1 then g.2.2.1.2.1 else g.2.2.1.1, a.2, .inl (fun j => Int32.ofInt (f j)))
  | .inr (.inr ts) => .inl (g.2.2.1.2.2, ts.length, .inr (.inr (.inr (.inr (fun j => (ts.getD j none).map (fun t => g.1 + t))))))
def xws (g : xG) (S : List xS) (μ : xM) : va_W := S.mapIdx (fun k sh => (g.1 + k, xC g (μ k) sh))
def xW (g : xG) (S : List xS) (μ : xM) (H : Heap) : Prop := va_P g.2.1 vwCl (xws g S μ) H
/-- the old part of the heap: addresses below lo -/
abbrev xA0 (g : xG) : Nat → Prop := fun q => g.1 ≤ q
def xU (μ : xM) (k : Nat) (j a : Int) : xM := fun k' j' => if k' = k ∧ j' = j then a else μ k' j'
def xTy (g : xG) : List (ClassId × FieldType) := [(g.2.2.1.1, .int), (g.2.2.1.2.1, .char), (g.2.2.1.2.2, .object RX4)]
/-- links between nest mates -/
def xNest : List Cond := [.methodLinkNest RX6 9 yX5_init RX6, .methodLinkNest RX6 18 yX1_init RX6, .methodLinkNest RX6 25 yX0_init RX6, .methodLinkNest RX6 56 yX3_init RX6, .methodLinkNest RX1 11 yX0_init RX6, .methodLinkNest RX1 83 yX6_within RX6]
def xText : String := "s10;w3,2;w5,4;w6,1;w9,6;k2;t5;m0,9,5;m1,6,3;m2,8,0;m3,4,2;m0,1,4;f20;"
def xBytes : List Int32 := [115,49,48,59,119,51,44,50,59,119,53,44,52,59,119,54,44,49,59,119,57,44,54,59,107,50,59,116,53,59,109,48,44,57,44,53,59,109,49,44,54,44,51,59,109,50,44,56,44,48,59,109,51,44,52,44,50,59,109,48,44,49,44,52,59,102,50,48,59]
/-- what was there before: the String constant and the JDK's statics -/
def xOld (g : xG) (U : State) : Prop := vk_S 1 [69] [xBytes] g.2.2.2.1 g.2.2.2.2 (xA0 g) U U.heap ∧ vk_R RX6 61 xText (g.2.2.2.1 0) U ∧ va_Z "java/lang/String" "COMPACT_STRINGS" "Z" (.int 1) (xA0 g) U U.heap ∧ va_Zq "jdk/internal/util/Preconditions" "SIOOBE_FORMATTER" "Ljava/util/function/BiFunction;" (xA0 g) U U.heap
def xKn (g : xG) (U : State) : Prop := va_K g.2.1 vwCl (xTy g) U ∧ (∀ w ∈ xNest, va_Nw w U) ∧ va_AO RX4 U ∧ xOld g U
theorem xws_get {g : xG} {S : List xS} {μ : xM} {k : Nat} {sh : xS} (h : S[k]? = some sh) : (xws g S μ)[k]? = some (g.1 + k, xC g (μ k) sh) := by
  simp [xws, List.getElem?_mapIdx, h]
theorem xws_inv {g : xG} {S : List xS} {μ : xM} {k : Nat} {q : Nat × va_E} (h : (xws g S μ)[k]? = some q) : ∃ sh, S[k]? = some sh ∧ q = (g.1 + k, xC g (μ k) sh) := by
  simp only [xws, List.getElem?_mapIdx, Option.map_eq_some_iff] at h
  obtain ⟨sh, h1, h2⟩ := h
  exact ⟨sh, h1, h2.symm⟩
theorem xws_D {g : xG} {S : List xS} {μ : xM} : va_D (xA0 g) (xws g S μ) := by
  refine ⟨fun i j p q hi hj hpq => ?_, fun k q hk => ?_⟩
  · obtain ⟨_, -, rfl⟩ := xws_inv hi
    obtain ⟨_, -, rfl⟩ := xws_inv hj
    have : g.1 + i = g.1 + j := hpq
    omega
  · obtain ⟨_, -, rfl⟩ := xws_inv hk
    show g.1 ≤ g.1 + k
    omega
theorem xWof {g : xG} {S : List xS} {μ : xM} {H : Heap} (h : ∀ k sh, S[k]? = some sh → va_at g.2.1 vwCl (g.1 + k, xC g (μ k) sh) H) : xW g S μ H := by
  intro k q hk
  obtain ⟨sh, h1, rfl⟩ := xws_inv hk
  exact h k sh h1
theorem xWat {g : xG} {S : List xS} {μ : xM} {H : Heap} (h : xW g S μ H) {k : Nat} {sh : xS} (hk : S[k]? = some sh) : va_at g.2.1 vwCl (g.1 + k, xC g (μ k) sh) H := h k _ (xws_get hk)
theorem xW_ge {g : xG} {S : List xS} {μ : xM} {H : Heap} (h : xW g S μ H) (hn : g.1 ≤ H.size) : g.1 + S.length ≤ H.size := by
  cases hl : S.length with
  | zero => omega
  | succ n =>
    have : ∃ sh, S[n]? = some sh := ⟨S[n]'(by omega), List.getElem?_eq_getElem (by omega)⟩
    obtain ⟨sh, hs⟩ := this
    have := (xWat h hs).lt
    have h2 : g.1 + n < H.size := this
    omega
/-- which places of a cell count -/
def xOn (sh : xS) (j : Int) : Prop := match sh with
  | .inl o => ∃ i : Nat, j = i ∧ o.2[i]? = some none
  | .inr (.inl a) => 0 ≤ j ∧ j < a.2
  | .inr (.inr _) => False
/-- two memories that tell the same -/
def xEq (S : List xS) (μ μ' : xM) : Prop := ∀ k sh, S[k]? = some sh → ∀ j, xOn sh j → μ k j = μ' k j
theorem xC_congr {g : xG} {f f' : Int → Int} {sh : xS} {D : va_G} {H : Heap} {a : Nat} (h : ∀ j, xOn sh j → f j = f' j) (hv : va_at D vwCl (a, xC g f sh) H) : va_at D vwCl (a, xC g f' sh) H := by
  rcases sh with o | b | ts
  · have : xC g f (.inl o) = xC g f' (.inl o) := by
      simp only [xC]
      congr 2
      apply List.ext_getElem?
      intro i
      simp only [List.getElem?_mapIdx]
      cases ho : o.2[i]? with
      | none => rfl
      | some w =>
        simp only [Option.map_some]
        rcases w with _ | _ | t
        · simp only [xV]; rw [h i ⟨i, rfl, ho⟩]
        · rfl
        · rfl
    rw [← this]; exact hv
  · refine Eq.trans hv ?_
    show some (arrV _ b.2 (fun j => .int (Int32.ofInt (f j)))) = some (arrV _ b.2 (fun j => .int (Int32.ofInt (f' j))))
    congr 1
    unfold arrV
    congr 1
    congr 1
    funext j
    show Value.int (Int32.ofInt (f (j.val : Int))) = Value.int (Int32.ofInt (f' (j.val : Int)))
    rw [h (j.val : Int) ⟨by omega, by have := j.2; omega⟩]
  · exact hv
theorem xW_eq {g : xG} {S : List xS} {μ μ' : xM} {H : Heap} (h : xW g S μ H) (he : xEq S μ μ') : xW g S μ' H := xWof fun k sh hk => xC_congr (he k sh hk) (xWat h hk)
/-! locals -/
def xL (ls : Array Slot) (nL : Nat) (vs : List (Option Value)) : Prop := ls.size = nL ∧ lv_wf ls ∧ ∀ (i : Nat) (v : Value), vs[i]? = some (some v) → ls[i]? = some (.val v)
def xLl (vs : List (Option Value)) : List (Nat × Value) := vs.zipIdx.filterMap (fun q => q.1.map (fun v => (q.2, v)))
theorem xLl_mem {vs : List (Option Value)} {i : Nat} {v : Value} : (i, v) ∈ xLl vs ↔ vs[i]? = some (some v) := by
  unfold xLl
  rw [List.mem_filterMap]
  constructor
  · rintro ⟨⟨o, j⟩, h1, h2⟩
    cases o with
    | none => simp at h2
    | some w =>
      simp only [Option.map_some, Option.some.injEq, Prod.mk.injEq] at h2
      obtain ⟨rfl, rfl⟩ := h2
      exact List.mem_zipIdx_iff_getElem?.mp h1
  · intro h
    exact ⟨(some v, i), List.mem_zipIdx_iff_getElem?.mpr h, rfl⟩
theorem xL.has {ls : Array Slot} {nL : Nat} {vs : List (Option Value)} (h : xL ls nL vs) : lv_has ls nL (xLl vs) := ⟨h.1, h.2.1, fun q hq => h.2.2 q.1 q.2 (xLl_mem.mp hq)⟩
def xOk (vs : List (Option Value)) : Nat → Bool
  | 0 => true
  | i + 1 => match vs[i]? with
    | some (some v) => v.category == 1
    | _ => true
theorem xOk_at {vs : List (Option Value)} {i j : Nat} {v : Value} (h : xOk vs i = true) (hj : j + 1 = i) (hv : vs[j]? = some (some v)) : (v.category == 2) = false := by
  subst hj
  simp only [xOk, hv] at h
  have h2 : v.category = 1 := by simpa using h
  simp [h2]
theorem xL.set1 {ls : Array Slot} {nL i : Nat} {vs : List (Option Value)} {v : Value} (hk : xOk vs i = true) (h : lv_has ls nL ((i, v) :: (xLl vs).filter (fun q => !(q.1 == i) && !(q.1 + 1 == i && q.2.category == 2)))) : xL ls nL (vs.set i (some v)) := by
  refine ⟨h.1, h.2.1, fun j w hj => ?_⟩
  by_cases hij : i = j
  · subst hij
    have hl : i < vs.length := by
      have := (List.getElem?_eq_some_iff.mp hj).1
      simpa using this
    rw [List.getElem?_set_self hl] at hj
    cases hj
    exact h.2.2 (i, v) List.mem_cons_self
  · rw [List.getElem?_set_ne hij] at hj
    refine h.2.2 (j, w) (List.mem_cons_of_mem _ (List.mem_filter.mpr ⟨xLl_mem.mpr hj, ?_⟩))
    have h1 : (j == i) = false := by simp; omega
    by_cases hz : j + 1 = i
    · simp [h1, xOk_at hk hz hj]
    · simp [h1, hz]
theorem xL.set2 {ls : Array Slot} {nL i : Nat} {vs : List (Option Value)} {v : Value} (hk : xOk vs i = true) (h : lv_has ls nL ((i, v) :: (xLl vs).filter (fun q => !(q.1 == i) && (!(q.1 == i + 1) && !(q.1 + 1 == i && q.2.category == 2))))) : xL ls nL ((vs.set i (some v)).set (i + 1) none) := by
  refine ⟨h.1, h.2.1, fun j w hj => ?_⟩
  by_cases h2 : i + 1 = j
  · subst h2
    rw [List.getElem?_set] at hj
    simp only [if_true] at hj
    split at hj
    · cases hj
    · cases hj
  · rw [List.getElem?_set_ne h2] at hj
    by_cases hij : i = j
    · subst hij
      have hl : i < vs.length := by
        have := (List.getElem?_eq_some_iff.mp hj).1
        simpa using this
      rw [List.getElem?_set_self hl] at hj
      cases hj
      exact h.2.2 (i, v) List.mem_cons_self
    · rw [List.getElem?_set_ne hij] at hj
      refine h.2.2 (j, w) (List.mem_cons_of_mem _ (List.mem_filter.mpr ⟨xLl_mem.mpr hj, ?_⟩))
      have h1 : (j == i) = false := by simp; omega
      have h3 : (j == i + 1) = false := by simp; omega
      by_cases hz : j + 1 = i
      · simp [h1, h3, xOk_at hk hz hj]
      · simp [h1, h3, hz]
def xA : List Value → Nat → List (Option Value)
  | [], n => List.replicate n none
  | v :: vs, n => if v.category = 2 then some v :: none :: xA vs (n - 2) else some v :: xA vs (n - 1)
theorem xA_mem : ∀ (av : List Value) (k n i : Nat) (v : Value), (xA av n)[i]? = some (some v) → (k + i, v) ∈ lv_args k av
  | [], k, n, i, v, h => by
    simp only [xA, List.getElem?_replicate] at h
    split at h <;> simp at h
  | w :: av, k, n, i, v, h => by
    by_cases hc : w.category = 2
    · simp only [xA, hc, if_true] at h
      simp only [lv_args, hc, if_true]
      match i, h with
      | 0, h =>
        simp only [List.getElem?_cons_zero, Option.some.injEq] at h
        subst h
        exact List.mem_cons_self
      | 1, h => simp at h
      | i + 2, h =>
        simp only [List.getElem?_cons_succ] at h
        have := xA_mem av (k + 2) (n - 2) i v h
        rw [show k + (i + 2) = k + 2 + i by omega]
        exact List.mem_cons_of_mem _ this
    · simp only [xA, hc, if_false] at h
      simp only [lv_args, hc, if_false]
      match i, h with
      | 0, h =>
        simp only [List.getElem?_cons_zero, Option.some.injEq] at h
        subst h
        exact List.mem_cons_self
      | i + 1, h =>
        simp only [List.getElem?_cons_succ] at h
        have := xA_mem av (k + 1) (n - 1) i v h
        rw [show k + (i + 1) = k + 1 + i by omega]
        exact List.mem_cons_of_mem _ this
theorem xL_entry (av : List Value) {n : Nat} (h : (lg_sl av).length ≤ n) : xL ((lg_sl av ++ List.replicate (n - (lg_sl av).length) Slot.unset).toArray) n (xA av n) := by
  have h1 := lv_entry av h
  refine ⟨h1.1, h1.2.1, fun i v hv => ?_⟩
  have := xA_mem av 0 n i v hv
  rw [Nat.zero_add] at this
  exact h1.2.2 (i, v) this
/-! a walk's goal, and what stands all through it -/
def xCtx (g : xG) (p : Program) (s : State) (m : MethodId) (args : Array Value) (meth : Method) (c : Code) (cc : ByteArray) (nL : Nat) (own nm : String) (ret : Option FieldType) : Prop :=
  p.tables.exec = Jvm.exec ∧ c.code = cc ∧ c.maxLocals = nL ∧ s.vm.findClass own = some m.cls ∧ (∀ w ∈ xTB, w.before args s = true) ∧ xKn g s ∧ meth.sig.returnType = ret ∧ meth.locks = false ∧ meth.name = nm ∧ g.1 ≤ s.heap.size
def xX (g : xG) (nL : Nat) (p : Program) (l : Launch) (e : Env) (R : Room) (s : State) (m : MethodId) (args : Array Value) (below : List Frame) (meth : Method) (c : Code) (cells slots : Nat) (Q : State → Prop) (S : List xS) (μ : xM) (pc : Nat) (vs : List (Option Value)) (st : List Value) : Prop :=
  ∀ (H : Heap) (locs : List Loc) (ls : Array Slot), xL ls nL vs → xW g S μ H → va_S (xA0 g) s.heap H locs → W p l e R s m args below meth c H locs cells slots Q (F0 m pc ls st)
def xQ (g : xG) (S : List xS) (Po : Option Value → xM → Prop) : Array Value → State → Outcome → State → Prop := fun _ st o t => (∃ (r : Option Value) (μ' : xM), o = .returned r ∧ Po r μ' ∧ xW g S μ' t.heap) ∧ va_F (xA0 g) st t
/-- a method's contract: from the shapes S and the numbers μ, with arguments av: it returns; r and μ' as Po says, the shapes are S'; nc cells of ns slots are made -/
def xCt (g : xG) (l : Launch) (y : MethodName) (cc : ByteArray) (maxL : Nat) (ret : Option FieldType) (rf rl nc ns : Nat) (av : List Value) (S : List xS) (μ : xM) (S' : List xS) (Po : Option Value → xM → Prop) : Prop :=
  Met l y (.code y cc maxL ret :: xTB) { frames := rf, cells := nc, slots := ns, locals := rl } (va_Pc av (fun U => xW g S μ U.heap ∧ xKn g U ∧ (nc = 0 ∨ U.heap.size = g.1 + S.length) ∧ g.1 ≤ U.heap.size)) (xQ g S' Po) nc ns (xA0 g)
/-- the answer is a number -/
def xI (P : Int → xM → Prop) : Option Value → xM → Prop := fun r μ' => ∃ a : Int, r = some (vI a) ∧ P a μ'
def xN (P : xM → Prop) : Option Value → xM → Prop := fun r μ' => r = none ∧ P μ'
theorem xOld.step {g : xG} {s U : State} {H : Heap} {locs : List Loc} (h : xOld g s) (hS : va_S (xA0 g) s.heap H locs) (hU : U.heap = H) (hW : s.WarmedH U.vm) : xOld g U := by
  obtain ⟨h1, h2, h3, h4⟩ := h
  refine ⟨?_, vk_R.warm hW h2, ?_, ?_⟩
  · rw [hU]; exact vk_S.moved hW.alike (vk_S.kept h1 hS.2.1)
  · rw [hU]; exact va_Z.moved hW.alike (va_Z.kept h3 hS.2.1)
  · rw [hU]; exact va_Zq.moved hW.alike (va_Zq.kept h4 hS.2.1)
theorem xNest_warm {w : Cond} (h : w ∈ xNest) {s U : State} (hW : s.WarmedH U.vm) (hZ : va_Nw w s) : va_Nw w U := by
  simp only [xNest, List.mem_cons, List.not_mem_nil, or_false] at h
  rcases h with rfl | rfl | rfl | rfl | rfl | rfl <;> exact va_Nw.warmM hW hZ
theorem xNest_same {w : Cond} (h : w ∈ xNest) {s U : State} (hv : s.vm = U.vm) (hZ : va_Nw w s) : va_Nw w U := by
  simp only [xNest, List.mem_cons, List.not_mem_nil, or_false] at h
  rcases h with rfl | rfl | rfl | rfl | rfl | rfl <;> exact va_Nw.same rfl hv hZ
theorem xKn.step {g : xG} {s U : State} {H : Heap} {locs : List Loc} (h : xKn g s) (hS : va_S (xA0 g) s.heap H locs) (hU : U.heap = H) (hW : s.WarmedH U.vm) : xKn g U :=
  ⟨va_K.moved hW.alike h.1, fun w hw => xNest_warm hw hW (h.2.1 w hw), va_AO.moved hW.alike h.2.2.1, h.2.2.2.step hS hU hW⟩
theorem xKn.calling {g : xG} {U : State} (h : xKn g U) (gg : JFrame) (mk : MethodId) (a : Array Value) : xKn g (U.calling gg mk a) := by
  obtain ⟨h1, h2, h3, h4, h5, h6, h7⟩ := h
  exact ⟨va_K.moved (u := U) (U := U.calling gg mk a) (Vm.Alike.refl U.vm) h1, fun w hw => xNest_same hw (s := U) (U := U.calling gg mk a) rfl (h2 w hw), va_AO.moved (u := U) (U := U.calling gg mk a) (Vm.Alike.refl U.vm) h3, vk_S.moved (u := U) (U := U.calling gg mk a) (Vm.Alike.refl U.vm) h4, vk_R.same (u := U) (U := U.calling gg mk a) rfl h5, va_Z.moved (u := U) (U := U.calling gg mk a) (Vm.Alike.refl U.vm) h6, va_Zq.moved (u := U) (U := U.calling gg mk a) (Vm.Alike.refl U.vm) h7⟩
