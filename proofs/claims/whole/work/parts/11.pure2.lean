/-- what is left of v more WAX at STEP x -/
def waxBy (r : Int → Int) (x v : Int) : Int → Int := up r (2 + x) (max 0 (min 9 (r (2 + x) + v)))
def cnt (r : Int → Int) (x : Int) : Nat → Int
  | 0 => 0
  | k + 1 => cnt r x k + (if r (18 + (k : Int)) = x then 1 else 0)
def sumW (r : Int → Int) : Nat → Int
  | 0 => 0
  | k + 1 => sumW r k + r (2 + (k : Int))
def wgt (r : Int → Int) (set : Int) : Nat → Int
  | 0 => 0
  | k + 1 => wgt r set k + (if hsb set k = true then r (18 + (k : Int)) + 1 else 0)
def weath (T r : Int → Int) (d : Int) : Int → Int :=
  let r1 := if d / 16 % 2 = 0 then waxBy r (d % T 0) 1 else r
  if d / 512 % 3 = 0 then waxBy r1 (d / 32 % T 0) (-2) else r1
theorem goYear_eq (T r : Int → Int) : goYear T r = up (up (up (goN T r (T 3).toNat) (25 + gov T (goN T r (T 3).toNat)) (goN T r (T 3).toNat (25 + gov T (goN T r (T 3).toNat)) + 1)) 1 (min 99 (reignUp T (goN T r (T 3).toNat) 1 + 3))) 0 (fundsUp (reignUp T (goN T r (T 3).toNat)) 0 + 1) := rfl
theorem WR_waxBy {T r : Int → Int} {x v : Int} (h : WR T r) (h0 : 0 ≤ x) (h1 : x < 16) : WR T (waxBy r x v) := WR_wax h h0 h1 (by omega)
/-- outside a Standing's five cells -/
def FrB (b : Nat) (μ μ' : xM) : Prop := ∀ (k : Nat) (j : Int), k < b ∨ b + 5 ≤ k → μ' k j = μ k j
theorem FrS.B {b : Nat} {μ μ' : xM} (h : FrS b μ μ') : FrB b μ μ' := fun k j hk => h k j (by omega) (by omega) (by omega) (by omega)
theorem FrB.rf {b : Nat} {μ : xM} : FrB b μ μ := fun _ _ _ => rfl
theorem FrB.tr {b : Nat} {μ μ' μ'' : xM} (h : FrB b μ μ') (h2 : FrB b μ' μ'') : FrB b μ μ'' := fun k j hk => (h2 k j hk).trans (h k j hk)
theorem FrB.u {b : Nat} {μ μ' : xM} {k : Nat} {j a : Int} (h : FrB b μ μ') (hk : b ≤ k ∧ k < b + 5) : FrB b μ (xU μ' k j a) := fun k' j' hk' => (xU_nk (by omega)).trans (h k' j' hk')
theorem FrB.cp {b : Nat} {μ μ' : xM} {k k0 : Nat} {n : Int} (h : FrB b μ μ') (hk : b ≤ k ∧ k < b + 5) : FrB b μ (xCp μ' k0 k n) := fun k' j' hk' => (xCp_ne (by omega)).trans (h k' j' hk')
theorem St.frB {b b2 : Nat} {μ μ' : xM} {r : Int → Int} (h : St μ b2 r) (hf : FrB b μ μ') (hd : b + 5 ≤ b2 ∨ b2 + 5 ≤ b) : St μ' b2 r := by
  obtain ⟨a1, a2, a3, a4, a5⟩ := h
  refine ⟨?_, ?_, fun j b1 b2 => ?_, fun j b1 b2 => ?_, fun j b1 b2 => ?_⟩
  · rw [hf _ _ (by omega), a1]
  · rw [hf _ _ (by omega), a2]
  · rw [hf _ _ (by omega), a3 j b1 b2]
  · rw [hf _ _ (by omega), a4 j b1 b2]
  · rw [hf _ _ (by omega), a5 j b1 b2]
theorem Gr.frB {b b2 : Nat} {μ μ' : xM} {T : Int → Int} (h : Gr μ b2 T) (hf : FrB b μ μ') (hd : b + 5 ≤ b2 ∨ b2 + 5 ≤ b) : Gr μ' b2 T := fun m a1 a2 => by
  rw [hf _ _ (by omega), h m a1 a2]
theorem Pl.frB {b pl : Nat} {μ μ' : xM} {T : Int → Int} (h : Pl μ pl T) (hf : FrB b μ μ') (hd : b + 5 ≤ pl ∨ pl + 1 < b) : Pl μ' pl T := by
  obtain ⟨h1, h2, h3, h4, h5⟩ := h
  refine ⟨?_, ?_, ?_, ?_, fun m a1 a2 => ?_⟩
  · rw [hf _ _ (by omega), h1]
  · rw [hf _ _ (by omega), h2]
  · rw [hf _ _ (by omega), h3]
  · rw [hf _ _ (by omega), h4]
  · rw [hf _ _ (by omega), h5 m a1 a2]
/-- n numbers v laid into cell k -/
def xFl (μ : xM) (k : Nat) (n v : Int) : xM := fun k' j => if k' = k ∧ 0 ≤ j ∧ j < n then v else μ k' j
theorem xFl_at {μ : xM} {k : Nat} {n v j : Int} (h0 : 0 ≤ j) (h : j < n) : xFl μ k n v k j = v := by
  unfold xFl
  rw [if_pos ⟨rfl, h0, h⟩]
theorem xFl_ne {μ : xM} {k k' : Nat} {n v j : Int} (h : k' ≠ k) : xFl μ k n v k' j = μ k' j := by
  unfold xFl
  rw [if_neg (fun z => h z.1)]
theorem xFl_0 {μ : xM} {k : Nat} {v : Int} : xFl μ k 0 v = μ := by
  funext k' j
  unfold xFl
  rw [if_neg (by omega)]
theorem xFl_s {μ : xM} {k : Nat} {i v : Int} (hi : 0 ≤ i) : xU (xFl μ k i v) k i v = xFl μ k (i + 1) v := by
  funext k' j
  unfold xU xFl
  by_cases hk : k' = k
  · by_cases hj : j = i
    · rw [if_pos ⟨hk, hj⟩, if_pos (by omega)]
    · rw [if_neg (by omega)]
      by_cases h2 : 0 ≤ j ∧ j < i
      · rw [if_pos ⟨hk, h2⟩, if_pos (by omega)]
      · rw [if_neg (by omega), if_neg (by omega)]
  · rw [if_neg (by omega), if_neg (by omega), if_neg (by omega)]
theorem x_kv {g : xG} {nL : Nat} {p : Program} {l : Launch} {e : Env} {R : Room} {s : State} {m : MethodId} {args : Array Value} {below : List Frame} {meth : Method} {c : Code} {cells slots : Nat} {Q : State → Prop} {S : List xS} {P : xM → Prop} {pc : Nat} {vs : List (Option Value)} {rest : List Value} {v : Int} (h : ∀ μ' : xM, P μ' → xX g nL p l e R s m args below meth c cells slots Q S μ' pc vs (vI v :: rest)) : ∀ (r : Option Value) (μ' : xM), xI (fun a μ' => a = v ∧ P μ') r μ' → xX g nL p l e R s m args below meth c cells slots Q S μ' pc vs (r.toList ++ rest) := by
  rintro r μ' ⟨a, rfl, h1, h2⟩
  rw [h1]
  exact h μ' h2
