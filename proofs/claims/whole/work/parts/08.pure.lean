/-! what the numbers mean: T what a TEXT tells (0 STEPS, 1 KNOBS, 2 TURNS, 3 how many MINISTERS, 4.. KINDS, 11.. GRIPS), r how it stands (0 YEAR, 1 FUNDS, 2.. WAX, 18.. STEP of each, 25.. YEARS of each) -/
theorem x_ki {g : xG} {nL : Nat} {p : Program} {l : Launch} {e : Env} {R : Room} {s : State} {m : MethodId} {args : Array Value} {below : List Frame} {meth : Method} {c : Code} {cells slots : Nat} {Q : State → Prop} {S : List xS} {pc : Nat} {vs : List (Option Value)} {rest : List Value} {P : Int → xM → Prop} (h : ∀ (a : Int) (μ' : xM), P a μ' → xX g nL p l e R s m args below meth c cells slots Q S μ' pc vs (vI a :: rest)) : ∀ (r : Option Value) (μ' : xM), xI P r μ' → xX g nL p l e R s m args below meth c cells slots Q S μ' pc vs (r.toList ++ rest) := by
  rintro r μ' ⟨a, rfl, hp⟩
  exact h a μ' hp
theorem x_kn {g : xG} {nL : Nat} {p : Program} {l : Launch} {e : Env} {R : Room} {s : State} {m : MethodId} {args : Array Value} {below : List Frame} {meth : Method} {c : Code} {cells slots : Nat} {Q : State → Prop} {S : List xS} {pc : Nat} {vs : List (Option Value)} {rest : List Value} {P : xM → Prop} (h : ∀ (μ' : xM), P μ' → xX g nL p l e R s m args below meth c cells slots Q S μ' pc vs rest) : ∀ (r : Option Value) (μ' : xM), xN P r μ' → xX g nL p l e R s m args below meth c cells slots Q S μ' pc vs (r.toList ++ rest) := by
  rintro r μ' ⟨rfl, hp⟩
  exact h μ' hp
theorem x_kd {g : xG} {nL : Nat} {p : Program} {l : Launch} {e : Env} {R : Room} {s : State} {m : MethodId} {args : Array Value} {below : List Frame} {meth : Method} {c : Code} {cells slots : Nat} {Q : State → Prop} {S : List xS} {μ0 : xM} {pc : Nat} {vs : List (Option Value)} {rest : List Value} {v : Int} (h : xX g nL p l e R s m args below meth c cells slots Q S μ0 pc vs (vI v :: rest)) : ∀ (r : Option Value) (μ' : xM), xI (fun a μ' => a = v ∧ μ' = μ0) r μ' → xX g nL p l e R s m args below meth c cells slots Q S μ' pc vs (r.toList ++ rest) := by
  rintro r μ' ⟨a, rfl, h1, h2⟩
  rw [h1, h2]
  exact h
theorem x_kdn {g : xG} {nL : Nat} {p : Program} {l : Launch} {e : Env} {R : Room} {s : State} {m : MethodId} {args : Array Value} {below : List Frame} {meth : Method} {c : Code} {cells slots : Nat} {Q : State → Prop} {S : List xS} {μ0 : xM} {pc : Nat} {vs : List (Option Value)} {rest : List Value} (h : xX g nL p l e R s m args below meth c cells slots Q S μ0 pc vs rest) : ∀ (r : Option Value) (μ' : xM), xN (fun μ' => μ' = μ0) r μ' → xX g nL p l e R s m args below meth c cells slots Q S μ' pc vs (r.toList ++ rest) := by
  rintro r μ' ⟨rfl, h2⟩
  rw [h2]
  exact h
theorem x_ifb_eq {g : xG} {nL : Nat} {p : Program} {l : Launch} {e : Env} {R : Room} {s : State} {m : MethodId} {args : Array Value} {below : List Frame} {meth : Method} {c : Code} {cells slots : Nat} {Q : State → Prop} {S : List xS} {μ : xM} {pc pc' : Nat} {vs : List (Option Value)} {st : List Value} {cc : ByteArray} {own nm : String} {ret : Option FieldType} (hC : xCtx g p s m args meth c cc nL own nm ret) {off : Int} {tgt : Nat} {P : Prop} {_ : Decidable P} (hd : decode cc pc = .ok (.ifCond .eq off, 3)) (ht : (pc : Int) + off = (tgt : Int)) (hp : pc + 3 = pc') (kt : ¬ P → xX g nL p l e R s m args below meth c cells slots Q S μ tgt vs st) (kf : P → xX g nL p l e R s m args below meth c cells slots Q S μ pc' vs st) : xX g nL p l e R s m args below meth c cells slots Q S μ pc vs (vI (if P then 1 else 0) :: st) :=
  x_if_eq (tgt := tgt) hC hd ht hp (by split <;> omega) (fun z => kt (fun w => by rw [if_pos w] at z; exact absurd z (by decide))) (fun z => kf (Classical.byContradiction (fun w => z (if_neg w))))
theorem x_ifb_ne {g : xG} {nL : Nat} {p : Program} {l : Launch} {e : Env} {R : Room} {s : State} {m : MethodId} {args : Array Value} {below : List Frame} {meth : Method} {c : Code} {cells slots : Nat} {Q : State → Prop} {S : List xS} {μ : xM} {pc pc' : Nat} {vs : List (Option Value)} {st : List Value} {cc : ByteArray} {own nm : String} {ret : Option FieldType} (hC : xCtx g p s m args meth c cc nL own nm ret) {off : Int} {tgt : Nat} {P : Prop} {_ : Decidable P} (hd : decode cc pc = .ok (.ifCond .ne off, 3)) (ht : (pc : Int) + off = (tgt : Int)) (hp : pc + 3 = pc') (kt : P → xX g nL p l e R s m args below meth c cells slots Q S μ tgt vs st) (kf : ¬ P → xX g nL p l e R s m args below meth c cells slots Q S μ pc' vs st) : xX g nL p l e R s m args below meth c cells slots Q S μ pc vs (vI (if P then 1 else 0) :: st) :=
  x_if_ne (tgt := tgt) hC hd ht hp (by split <;> omega) (fun z => kt (Classical.byContradiction (fun w => z (if_neg w)))) (fun z => kf (fun w => by rw [if_pos w] at z; exact absurd z (by decide)))
/-- shapes -/
abbrev sStd (b pl : Nat) : xS := .inl (4, [some (some pl), some (some (b + 1)), some (some (b + 2)), some (some (b + 3)), some (some (b + 4)), none, none])
abbrev sPln (pl : Nat) : xS := .inl (0, [some (some (pl + 1)), none, none, none, none])
abbrev sArr (n : Nat) : xS := .inr (.inl (false, n))
def xPln (S : List xS) (pl : Nat) : Prop := S[pl]? = some (sPln pl) ∧ S[pl + 1]? = some (sArr 7)
def xStd (S : List xS) (b pl : Nat) : Prop := S[b]? = some (sStd b pl) ∧ S[b + 1]? = some (sArr 16) ∧ S[b + 2]? = some (sArr 7) ∧ S[b + 3]? = some (sArr 7) ∧ S[b + 4]? = some (sArr 7) ∧ xPln S pl ∧ pl + 1 < b
def up (r : Int → Int) (k v : Int) : Int → Int := fun j => if j = k then v else r j
theorem up_at {r : Int → Int} {k v : Int} : up r k v k = v := by simp [up]
theorem up_ne {r : Int → Int} {k v j : Int} (h : j ≠ k) : up r k v j = r j := by simp [up, h]
theorem xU_at2 {μ : xM} {k : Nat} {j a : Int} : xU μ k j a k j = a := by simp [xU]
theorem xU_nj {μ : xM} {k k' : Nat} {j a j' : Int} (h : j' ≠ j) : xU μ k j a k' j' = μ k' j' := by simp [xU, h]
theorem xU_nk {μ : xM} {k k' : Nat} {j a j' : Int} (h : k' ≠ k) : xU μ k j a k' j' = μ k' j' := by simp [xU, h]
def Pl (μ : xM) (pl : Nat) (T : Int → Int) : Prop := μ pl 1 = T 3 ∧ μ pl 2 = T 0 ∧ μ pl 3 = T 1 ∧ μ pl 4 = T 2 ∧ ∀ m : Int, 0 ≤ m → m < T 3 → μ (pl + 1) m = T (4 + m)
def Gr (μ : xM) (b : Nat) (T : Int → Int) : Prop := ∀ m : Int, 0 ≤ m → m < T 3 → μ (b + 3) m = T (11 + m)
def St (μ : xM) (b : Nat) (r : Int → Int) : Prop := μ b 6 = r 0 ∧ μ b 5 = r 1 ∧ (∀ j : Int, 0 ≤ j → j < 16 → μ (b + 1) j = r (2 + j)) ∧ (∀ j : Int, 0 ≤ j → j < 7 → μ (b + 2) j = r (18 + j)) ∧ ∀ j : Int, 0 ≤ j → j < 7 → μ (b + 4) j = r (25 + j)
def FrS (b : Nat) (μ μ' : xM) : Prop := ∀ (k : Nat) (j : Int), k ≠ b → k ≠ b + 1 → k ≠ b + 2 → k ≠ b + 4 → μ' k j = μ k j
theorem FrS.rf {b : Nat} {μ : xM} : FrS b μ μ := fun _ _ _ _ _ _ => rfl
theorem FrS.tr {b : Nat} {μ μ' μ'' : xM} (h : FrS b μ μ') (h2 : FrS b μ' μ'') : FrS b μ μ'' := fun k j a1 a2 a3 a4 => (h2 k j a1 a2 a3 a4).trans (h k j a1 a2 a3 a4)
theorem FrS.u0 {b : Nat} {μ μ' : xM} {j a : Int} (h : FrS b μ μ') : FrS b μ (xU μ' b j a) := fun k j' a1 a2 a3 a4 => (xU_nk a1).trans (h k j' a1 a2 a3 a4)
theorem FrS.u1 {b : Nat} {μ μ' : xM} {j a : Int} (h : FrS b μ μ') : FrS b μ (xU μ' (b + 1) j a) := fun k j' a1 a2 a3 a4 => (xU_nk a2).trans (h k j' a1 a2 a3 a4)
theorem FrS.u2 {b : Nat} {μ μ' : xM} {j a : Int} (h : FrS b μ μ') : FrS b μ (xU μ' (b + 2) j a) := fun k j' a1 a2 a3 a4 => (xU_nk a3).trans (h k j' a1 a2 a3 a4)
theorem FrS.u4 {b : Nat} {μ μ' : xM} {j a : Int} (h : FrS b μ μ') : FrS b μ (xU μ' (b + 4) j a) := fun k j' a1 a2 a3 a4 => (xU_nk a4).trans (h k j' a1 a2 a3 a4)
theorem Pl.fr {b pl : Nat} {μ μ' : xM} {T : Int → Int} (h : Pl μ pl T) (hb : pl + 1 < b) (hf : FrS b μ μ') : Pl μ' pl T := by
  obtain ⟨h1, h2, h3, h4, h5⟩ := h
  refine ⟨?_, ?_, ?_, ?_, fun m a1 a2 => ?_⟩
  · rw [hf pl 1 (by omega) (by omega) (by omega) (by omega), h1]
  · rw [hf pl 2 (by omega) (by omega) (by omega) (by omega), h2]
  · rw [hf pl 3 (by omega) (by omega) (by omega) (by omega), h3]
  · rw [hf pl 4 (by omega) (by omega) (by omega) (by omega), h4]
  · rw [hf (pl + 1) m (by omega) (by omega) (by omega) (by omega), h5 m a1 a2]
theorem Gr.fr {b : Nat} {μ μ' : xM} {T : Int → Int} (h : Gr μ b T) (hf : FrS b μ μ') : Gr μ' b T := fun m a1 a2 => by
  rw [hf (b + 3) m (by omega) (by omega) (by omega) (by omega), h m a1 a2]
theorem St.wax {μ : xM} {b : Nat} {r : Int → Int} {x v : Int} (h : St μ b r) (h0 : 0 ≤ x) (h1 : x < 16) : St (xU μ (b + 1) x v) b (up r (2 + x) v) := by
  obtain ⟨a1, a2, a3, a4, a5⟩ := h
  refine ⟨?_, ?_, fun j b1 b2 => ?_, fun j b1 b2 => ?_, fun j b1 b2 => ?_⟩
  · rw [xU_nk (by omega), up_ne (by omega), a1]
  · rw [xU_nk (by omega), up_ne (by omega), a2]
  · by_cases hj : j = x
    · subst hj; rw [xU_at2, up_at]
    · rw [xU_nj hj, up_ne (by omega), a3 j b1 b2]
  · rw [xU_nk (by omega), up_ne (by omega), a4 j b1 b2]
  · rw [xU_nk (by omega), up_ne (by omega), a5 j b1 b2]
theorem St.place {μ : xM} {b : Nat} {r : Int → Int} {m v : Int} (h : St μ b r) (h0 : 0 ≤ m) (h1 : m < 7) : St (xU μ (b + 2) m v) b (up r (18 + m) v) := by
  obtain ⟨a1, a2, a3, a4, a5⟩ := h
  refine ⟨?_, ?_, fun j b1 b2 => ?_, fun j b1 b2 => ?_, fun j b1 b2 => ?_⟩
  · rw [xU_nk (by omega), up_ne (by omega), a1]
  · rw [xU_nk (by omega), up_ne (by omega), a2]
  · rw [xU_nk (by omega), up_ne (by omega), a3 j b1 b2]
  · by_cases hj : j = m
    · subst hj; rw [xU_at2, up_at]
    · rw [xU_nj hj, up_ne (by omega), a4 j b1 b2]
  · rw [xU_nk (by omega), up_ne (by omega), a5 j b1 b2]
theorem St.reign {μ : xM} {b : Nat} {r : Int → Int} {m v : Int} (h : St μ b r) (h0 : 0 ≤ m) (h1 : m < 7) : St (xU μ (b + 4) m v) b (up r (25 + m) v) := by
  obtain ⟨a1, a2, a3, a4, a5⟩ := h
  refine ⟨?_, ?_, fun j b1 b2 => ?_, fun j b1 b2 => ?_, fun j b1 b2 => ?_⟩
  · rw [xU_nk (by omega), up_ne (by omega), a1]
  · rw [xU_nk (by omega), up_ne (by omega), a2]
  · rw [xU_nk (by omega), up_ne (by omega), a3 j b1 b2]
  · rw [xU_nk (by omega), up_ne (by omega), a4 j b1 b2]
  · by_cases hj : j = m
    · subst hj; rw [xU_at2, up_at]
    · rw [xU_nj hj, up_ne (by omega), a5 j b1 b2]
theorem St.funds {μ : xM} {b : Nat} {r : Int → Int} {v : Int} (h : St μ b r) : St (xU μ b 5 v) b (up r 1 v) := by
  obtain ⟨a1, a2, a3, a4, a5⟩ := h
  refine ⟨?_, ?_, fun j b1 b2 => ?_, fun j b1 b2 => ?_, fun j b1 b2 => ?_⟩
  · rw [xU_nj (by omega), up_ne (by omega), a1]
  · rw [xU_at2, up_at]
  · rw [xU_nk (by omega), up_ne (by omega), a3 j b1 b2]
  · rw [xU_nk (by omega), up_ne (by omega), a4 j b1 b2]
  · rw [xU_nk (by omega), up_ne (by omega), a5 j b1 b2]
theorem St.year {μ : xM} {b : Nat} {r : Int → Int} {v : Int} (h : St μ b r) : St (xU μ b 6 v) b (up r 0 v) := by
  obtain ⟨a1, a2, a3, a4, a5⟩ := h
  refine ⟨?_, ?_, fun j b1 b2 => ?_, fun j b1 b2 => ?_, fun j b1 b2 => ?_⟩
  · rw [xU_at2, up_at]
  · rw [xU_nj (by omega), up_ne (by omega), a2]
  · rw [xU_nk (by omega), up_ne (by omega), a3 j b1 b2]
  · rw [xU_nk (by omega), up_ne (by omega), a4 j b1 b2]
  · rw [xU_nk (by omega), up_ne (by omega), a5 j b1 b2]
/-- what holds of every TEXT that is LAID, and of how it stands -/
def WT (T : Int → Int) : Prop := 3 ≤ T 0 ∧ T 0 ≤ 16 ∧ 1 ≤ T 3 ∧ T 3 ≤ 7 ∧ ∀ m : Int, 0 ≤ m → m < T 3 → 0 ≤ T (4 + m) ∧ T (4 + m) ≤ 3 ∧ 0 ≤ T (11 + m) ∧ T (11 + m) ≤ 9
def WR (T r : Int → Int) : Prop := (∀ j : Int, 0 ≤ j → j < 16 → 0 ≤ r (2 + j) ∧ r (2 + j) ≤ 9) ∧ (∀ m : Int, 0 ≤ m → m < T 3 → 0 ≤ r (18 + m) ∧ r (18 + m) < T 0) ∧ 0 ≤ r 1 ∧ r 1 ≤ 99
def SA (μ : xM) (b pl : Nat) (T r : Int → Int) : Prop := Pl μ pl T ∧ Gr μ b T ∧ St μ b r
theorem SA.step {μ μ' : xM} {b pl : Nat} {T r r' : Int → Int} (h : SA μ b pl T r) (hb : pl + 1 < b) (hf : FrS b μ μ') (hs : St μ' b r') : SA μ' b pl T r' := ⟨h.1.fr hb hf, h.2.1.fr hf, hs⟩
/-- bit x of a set -/
def hsb (k x : Int) : Bool := decide (iAnd (iShr k x) 1 = 1)
def stp (T : Int → Int) (m x : Int) : Bool := hsb (T 1) x || (decide (T (4 + m) = 2) && hsb (T 2) x)
def lack (T r : Int → Int) (m : Int) : Int := r (2 + r (18 + m)) - T (11 + m) - (if T (4 + m) = 3 ∧ r (18 + m) = T 0 - 1 then 3 else 0)
def slide (T : Int → Int) (m : Int) : Nat → Int → (Int → Int) → (Int → Int)
  | 0, _, r => r
  | n + 1, sp, r => if 0 < sp ∧ 0 < r (18 + m) then slide T m n (if stp T m (r (18 + m) - 1) = true then 0 else sp + r (2 + (r (18 + m) - 1)) - (if T (4 + m) = 1 then 4 else 2)) (up (up r (2 + r (18 + m)) (max 0 (r (2 + r (18 + m)) - 1))) (18 + m) (r (18 + m) - 1)) else r
def goOne (T r : Int → Int) (m : Int) : Int → Int := if 0 < lack T r m then slide T m 16 (lack T r m) r else if r (18 + m) < T 0 - 1 then up r (18 + m) (r (18 + m) + 1) else r
def goN (T r : Int → Int) : Nat → (Int → Int)
  | 0 => r
  | k + 1 => goOne T (goN T r k) k
/-- the governor of those below k + 1 -/
def govN (r : Int → Int) : Nat → Int
  | 0 => 0
  | k + 1 => if r (18 + govN r k) < r (18 + ((k : Int) + 1)) then (k : Int) + 1 else govN r k
def gov (T r : Int → Int) : Int := govN r (T 3 - 1).toNat
def reignUp (T r : Int → Int) : Int → Int := up r (25 + gov T r) (r (25 + gov T r) + 1)
def fundsUp (r : Int → Int) : Int → Int := up r 1 (min 99 (r 1 + 3))
def yearUp (r : Int → Int) : Int → Int := up r 0 (r 0 + 1)
def goYear (T r : Int → Int) : Int → Int := yearUp (fundsUp (reignUp T (goN T r (T 3).toNat)))
def goYears (T : Int → Int) : Nat → (Int → Int) → (Int → Int)
  | 0, r => r
  | k + 1, r => goYears T k (goYear T r)
theorem xI.mk {P : Int → xM → Prop} {a : Int} {μ : xM} (h : P a μ) : xI P (some (vI a)) μ := ⟨a, rfl, h⟩
theorem xN.mk {P : xM → Prop} {μ : xM} (h : P μ) : xN P none μ := ⟨rfl, h⟩
theorem xStd.pl {S : List xS} {b pl : Nat} (h : xStd S b pl) : xPln S pl := h.2.2.2.2.2.1
theorem xStd.lt {S : List xS} {b pl : Nat} (h : xStd S b pl) : pl + 1 < b := h.2.2.2.2.2.2
section SAacc
variable {μ : xM} {b pl : Nat} {T r : Int → Int}
theorem SA.wx (h : SA μ b pl T r) {j : Int} (h0 : 0 ≤ j) (h1 : j < 16) : μ (b + 1) j = r (2 + j) := h.2.2.2.2.1 j h0 h1
theorem SA.pc (h : SA μ b pl T r) {j : Int} (h0 : 0 ≤ j) (h1 : j < 7) : μ (b + 2) j = r (18 + j) := h.2.2.2.2.2.1 j h0 h1
theorem SA.rg (h : SA μ b pl T r) {j : Int} (h0 : 0 ≤ j) (h1 : j < 7) : μ (b + 4) j = r (25 + j) := h.2.2.2.2.2.2 j h0 h1
theorem SA.gp (h : SA μ b pl T r) {j : Int} (h0 : 0 ≤ j) (h1 : j < T 3) : μ (b + 3) j = T (11 + j) := h.2.1 j h0 h1
theorem SA.kd (h : SA μ b pl T r) {j : Int} (h0 : 0 ≤ j) (h1 : j < T 3) : μ (pl + 1) j = T (4 + j) := h.1.2.2.2.2 j h0 h1
theorem SA.yr (h : SA μ b pl T r) : μ b 6 = r 0 := h.2.2.1
theorem SA.fu (h : SA μ b pl T r) : μ b 5 = r 1 := h.2.2.2.1
theorem SA.mi (h : SA μ b pl T r) : μ pl 1 = T 3 := h.1.1
theorem SA.sp (h : SA μ b pl T r) : μ pl 2 = T 0 := h.1.2.1
end SAacc
theorem slide_stop {T r : Int → Int} {m sp : Int} {n : Nat} (h : ¬ (0 < sp ∧ 0 < r (18 + m))) : slide T m n sp r = r := by
  cases n with
  | zero => rfl
  | succ n => rw [slide, if_neg h]
theorem St.down {μ : xM} {b : Nat} {r : Int → Int} {m a v : Int} (h : St (xU μ (b + 2) m a) b r) (h0 : 0 ≤ a) (h1 : a < 16) (h2 : 0 ≤ m) (h3 : m < 7) : St (xU (xU μ (b + 1) a v) (b + 2) m (a + -1)) b (up (up r (2 + a) v) (18 + m) (a - 1)) := by
  have e : xU (xU (xU μ (b + 2) m a) (b + 1) a v) (b + 2) m (a - 1) = xU (xU μ (b + 1) a v) (b + 2) m (a + -1) := by
    funext k j
    by_cases hk : k = b + 2
    · subst hk
      by_cases hj : j = m
      · subst hj; rw [xU_at2, xU_at2]; omega
      · rw [xU_nj hj, xU_nj hj, xU_nk (by omega), xU_nj hj, xU_nk (by omega)]
    · rw [xU_nk hk, xU_nk hk]
      by_cases hk1 : k = b + 1
      · subst hk1
        by_cases hj : j = a
        · subst hj; rw [xU_at2, xU_at2]
        · rw [xU_nj hj, xU_nj hj, xU_nk hk]
      · rw [xU_nk hk1, xU_nk hk1, xU_nk hk]
  rw [← e]
  exact (h.wax h0 h1).place h2 h3
theorem WR_wax {T r : Int → Int} {x v : Int} (h : WR T r) (h0 : 0 ≤ x) (h1 : x < 16) (hv : 0 ≤ v ∧ v ≤ 9) : WR T (up r (2 + x) v) := by
  obtain ⟨a1, a2, a3, a4⟩ := h
  refine ⟨fun j b1 b2 => ?_, fun m b1 b2 => ?_, ?_, ?_⟩
  · by_cases hj : j = x
    · subst hj; rw [up_at]; exact hv
    · rw [up_ne (by omega)]; exact a1 j b1 b2
  · by_cases hm : 18 + m = 2 + x
    · omega
    · rw [up_ne hm]; exact a2 m b1 b2
  · rw [up_ne (by omega)]; exact a3
  · rw [up_ne (by omega)]; exact a4
theorem WR_place {T r : Int → Int} {m v : Int} (hT : WT T) (h : WR T r) (h0 : 0 ≤ m) (hv : 0 ≤ v ∧ v < T 0) : WR T (up r (18 + m) v) := by
  obtain ⟨a1, a2, a3, a4⟩ := h
  refine ⟨fun j b1 b2 => ?_, fun k b1 b2 => ?_, ?_, ?_⟩
  · rw [up_ne (by omega)]; exact a1 j b1 b2
  · by_cases hm : k = m
    · subst hm; rw [up_at]; exact hv
    · rw [up_ne (by omega)]; exact a2 k b1 b2
  · rw [up_ne (by omega)]; exact a3
  · rw [up_ne (by omega)]; exact a4
theorem WR_hi {T r : Int → Int} {k v : Int} (hT : WT T) (h : WR T r) (hk : 25 ≤ k ∨ k = 0) : WR T (up r k v) := by
  obtain ⟨a1, a2, a3, a4⟩ := h
  have := hT.2.2.2.1
  refine ⟨fun j b1 b2 => ?_, fun j b1 b2 => ?_, ?_, ?_⟩
  · rw [up_ne (by omega)]; exact a1 j b1 b2
  · rw [up_ne (by omega)]; exact a2 j b1 b2
  · rw [up_ne (by omega)]; exact a3
  · rw [up_ne (by omega)]; exact a4
theorem WR_funds {T r : Int → Int} {v : Int} (h : WR T r) (hv : 0 ≤ v ∧ v ≤ 99) : WR T (up r 1 v) := by
  obtain ⟨a1, a2, a3, a4⟩ := h
  refine ⟨fun j b1 b2 => ?_, fun j b1 b2 => ?_, ?_, ?_⟩
  · rw [up_ne (by omega)]; exact a1 j b1 b2
  · rw [up_ne (by omega)]; exact a2 j b1 b2
  · rw [up_at]; exact hv.1
  · rw [up_at]; exact hv.2
theorem WR_slide {T : Int → Int} {m : Int} (hT : WT T) (hm : 0 ≤ m ∧ m < T 3) : ∀ (n : Nat) (sp : Int) (r : Int → Int), WR T r → WR T (slide T m n sp r)
  | 0, _, r, h => h
  | n + 1, sp, r, h => by
    rw [slide]
    split
    · rename_i hc
      have h1 := h.2.1 m hm.1 hm.2
      have h2 := hT.2.1
      have h3 := h.1 (r (18 + m)) (by omega) (by omega)
      exact WR_slide hT hm n _ _ (WR_place hT (WR_wax h (by omega) (by omega) (by omega)) hm.1 (by omega))
    · exact h
theorem WR_goOne {T r : Int → Int} {m : Int} (hT : WT T) (hm : 0 ≤ m ∧ m < T 3) (h : WR T r) : WR T (goOne T r m) := by
  unfold goOne
  have h1 := h.2.1 m hm.1 hm.2
  split
  · exact WR_slide hT hm _ _ _ h
  · split
    · exact WR_place hT h hm.1 (by omega)
    · exact h
theorem WR_goN {T r : Int → Int} (hT : WT T) (h : WR T r) : ∀ (k : Nat), (k : Int) ≤ T 3 → WR T (goN T r k)
  | 0, _ => h
  | k + 1, hk => WR_goOne hT (by omega) (WR_goN hT h k (by omega))
theorem govN_in {r : Int → Int} : ∀ k : Nat, 0 ≤ govN r k ∧ govN r k ≤ k
  | 0 => by simp [govN]
  | k + 1 => by
    have := govN_in (r := r) k
    rw [govN]
    split <;> omega
theorem gov_in {T r : Int → Int} (hT : WT T) : 0 ≤ gov T r ∧ gov T r < T 3 := by
  have h1 := hT.2.2.1
  have := govN_in (r := r) (T 3 - 1).toNat
  unfold gov
  omega
theorem WR_goYear {T r : Int → Int} (hT : WT T) (h : WR T r) : WR T (goYear T r) := by
  have h1 := hT.2.2.1
  have h2 := WR_goN hT h (T 3).toNat (by omega)
  have h3 := gov_in (r := goN T r (T 3).toNat) hT
  have h4 := WR_hi (k := 25 + gov T (goN T r (T 3).toNat)) (v := goN T r (T 3).toNat (25 + gov T (goN T r (T 3).toNat)) + 1) hT h2 (by omega)
  have h5 : 0 ≤ reignUp T (goN T r (T 3).toNat) 1 ∧ reignUp T (goN T r (T 3).toNat) 1 ≤ 99 := h4.2.2
  exact WR_hi hT (WR_funds h4 (by omega)) (Or.inr rfl)
theorem WR_goYears {T : Int → Int} (hT : WT T) : ∀ (k : Nat) (r : Int → Int), WR T r → WR T (goYears T k r)
  | 0, _, h => h
  | k + 1, _, h => WR_goYears hT k _ (WR_goYear hT h)
theorem lack_rg {T r : Int → Int} {m : Int} (hT : WT T) (hR : WR T r) (hm : 0 ≤ m ∧ m < T 3) : -20 ≤ lack T r m ∧ lack T r m ≤ 9 := by
  have h1 := hR.2.1 m hm.1 hm.2
  have h2 := hT.2.1
  have h3 := hR.1 (r (18 + m)) (by omega) (by omega)
  have h4 := hT.2.2.2.2 m hm.1 hm.2
  unfold lack
  split <;> omega
