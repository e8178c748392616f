/-! THE TEXT told by a document: numbers, items, the whole -/
def dch (nt : Int) (tx : Int → Int) (p : Int) : Int := if 0 ≤ p ∧ p < nt then tx p else 0
abbrev isD (c : Int) : Prop := 48 ≤ c ∧ c ≤ 57
def nf (d : Int → Int) (p : Int) : Int := if isD (d p) then (if isD (d (p + 1)) then (if isD (d (p + 2)) then 3 else 2) else 1) else 0
def nv (d : Int → Int) (p : Int) : Int := if isD (d (p + 1)) then 10 * (d p - 48) + d (p + 1) - 48 else d p - 48
abbrev oneN (d : Int → Int) (p : Int) : Prop := 1 ≤ nf d p ∧ nf d p ≤ 2
def nx (d : Int → Int) (p : Int) : Int := p + nf d p + 1
/-- numbers from q on, at most k of them, c before: behind the last's mark, and how many; or the fault -/
def rdN (d : Int → Int) : Nat → Int → Int → Int × Int
  | 0, _, _ => (-4, 0)
  | k + 1, q, c => if oneN d q then (if d (q + nf d q) = 59 then (nx d q, c + 1) else if d (q + nf d q) = 44 then rdN d k (nx d q) (c + 1) else (-4, 0)) else (-4, 0)
theorem nf_rg {d : Int → Int} {p : Int} : 0 ≤ nf d p ∧ nf d p ≤ 3 := by
  unfold nf; split <;> (try split) <;> (try split) <;> omega
theorem rdN_z {d : Int → Int} {q c : Int} : (rdN d 0 q c).1 = -4 := rfl
theorem rdN_a {d : Int → Int} {k : Nat} {q c : Int} (h : ¬ oneN d q) : (rdN d k q c).1 = -4 := by
  cases k with
  | zero => rfl
  | succ k => rw [rdN, if_neg h]
theorem rdN_b {d : Int → Int} {k : Nat} {q c : Int} (h : d (q + nf d q) ≠ 59) (h2 : d (q + nf d q) ≠ 44) : (rdN d k q c).1 = -4 := by
  cases k with
  | zero => rfl
  | succ k => rw [rdN, if_neg h, if_neg h2]; split <;> rfl
theorem rdN_s {d : Int → Int} {k : Nat} {q c : Int} (h : oneN d q) (h2 : d (q + nf d q) = 59) : rdN d (k + 1) q c = (nx d q, c + 1) := by
  rw [rdN, if_pos h, if_pos h2]
theorem rdN_c {d : Int → Int} {k : Nat} {q c : Int} (h : oneN d q) (h2 : d (q + nf d q) = 44) : rdN d (k + 1) q c = rdN d k (nx d q) (c + 1) := by
  rw [rdN, if_pos h, if_neg (by omega), if_pos h2]
/-- f figures of a number stand from q on; v is what they tell -/
def NF (d : Int → Int) (q f v : Int) : Prop := (f = 0 ∧ v = 0) ∨ (f = 1 ∧ isD (d q) ∧ v = d q - 48) ∨ (f = 2 ∧ isD (d q) ∧ isD (d (q + 1)) ∧ v = 10 * (d q - 48) + d (q + 1) - 48)
theorem NF.st {d : Int → Int} {q f v : Int} (h : NF d q f v) (hf : f < 2) (hD : isD (d (q + f))) : NF d q (f + 1) (10 * v + d (q + f) - 48) := by
  rcases h with ⟨rfl, rfl⟩ | ⟨rfl, h1, rfl⟩ | ⟨rfl, -⟩
  · rw [Int.add_zero] at *
    exact Or.inr (Or.inl ⟨rfl, hD, by omega⟩)
  · exact Or.inr (Or.inr ⟨rfl, h1, hD, by omega⟩)
  · omega
theorem NF.rg {d : Int → Int} {q f v : Int} (h : NF d q f v) : 0 ≤ f ∧ f ≤ 2 ∧ 0 ≤ v ∧ v ≤ 99 := by
  rcases h with ⟨rfl, rfl⟩ | ⟨rfl, ⟨h1, h2⟩, rfl⟩ | ⟨rfl, ⟨h1, h2⟩, ⟨h3, h4⟩, rfl⟩ <;> omega
theorem NF.en {d : Int → Int} {q f v : Int} (h : NF d q f v) (hD : ¬ isD (d (q + f))) : nf d q = f ∧ (0 < f → nv d q = v) := by
  rcases h with ⟨rfl, rfl⟩ | ⟨rfl, h1, rfl⟩ | ⟨rfl, h1, h2, rfl⟩
  · rw [Int.add_zero] at hD
    exact ⟨by rw [nf, if_neg hD], fun z => absurd z (by omega)⟩
  · exact ⟨by rw [nf, if_pos h1, if_neg hD], fun _ => by rw [nv, if_neg hD]⟩
  · exact ⟨by rw [nf, if_pos h1, if_pos h2, if_neg hD], fun _ => by rw [nv, if_pos h2]⟩
theorem NF.th {d : Int → Int} {q v : Int} (h : NF d q 2 v) (hD : isD (d (q + 2))) : ¬ oneN d q := by
  rcases h with ⟨h0, -⟩ | ⟨h0, -⟩ | ⟨-, h1, h2, -⟩
  · omega
  · omega
  · unfold oneN; rw [nf, if_pos h1, if_pos h2, if_pos hD]; omega
theorem NF.one {d : Int → Int} {q f v : Int} (h : NF d q f v) (hD : ¬ isD (d (q + f))) : oneN d q ↔ 0 < f := by
  have := h.rg; unfold oneN; rw [(h.en hD).1]; omega
/-- the numbers read stand in their places -/
def VL (d : Int → Int) (q0 : Int) (a : Int → Int) (c q : Int) : Prop := (c = 0 ∧ q = q0) ∨ (c = 1 ∧ q = nx d q0 ∧ (a 0 = nv d q0 ∧ 0 ≤ a 0 ∧ a 0 ≤ 99)) ∨ (c = 2 ∧ q = nx d (nx d q0) ∧ (a 0 = nv d q0 ∧ 0 ≤ a 0 ∧ a 0 ≤ 99) ∧ (a 1 = nv d (nx d q0) ∧ 0 ≤ a 1 ∧ a 1 ≤ 99)) ∨ (c = 3 ∧ q = nx d (nx d (nx d q0)) ∧ (a 0 = nv d q0 ∧ 0 ≤ a 0 ∧ a 0 ≤ 99) ∧ (a 1 = nv d (nx d q0) ∧ 0 ≤ a 1 ∧ a 1 ≤ 99) ∧ (a 2 = nv d (nx d (nx d q0)) ∧ 0 ≤ a 2 ∧ a 2 ≤ 99))
theorem VL.st {d : Int → Int} {q0 c q v : Int} {a a' : Int → Int} (h : VL d q0 a c q) (hc : c < 3) (h1 : a' c = v) (hv : nv d q = v) (h2 : 0 ≤ v ∧ v ≤ 99) (hk : ∀ j : Int, j ≠ c → a' j = a j) : VL d q0 a' (c + 1) (nx d q) := by
  rcases h with ⟨rfl, rfl⟩ | ⟨rfl, rfl, b0⟩ | ⟨rfl, rfl, b0, b1⟩ | ⟨rfl, -⟩
  · exact Or.inr (Or.inl ⟨rfl, rfl, by omega⟩)
  · exact Or.inr (Or.inr (Or.inl ⟨rfl, rfl, by rw [hk 0 (by omega)]; exact b0, by omega⟩))
  · exact Or.inr (Or.inr (Or.inr ⟨rfl, rfl, by rw [hk 0 (by omega)]; exact b0, by rw [hk 1 (by omega)]; exact b1, by omega⟩))
  · omega
/-- one item: whether it is right, and what it leaves -/
abbrev tkOk (c n v0 v1 v2 : Int) (T : Int → Int) (os : Int) : Prop := (0 ≤ v0 ∧ v0 ≤ 99) ∧ ((c = 115 ∧ os = 1 ∧ n = 1 ∧ 3 ≤ v0 ∧ v0 ≤ 16) ∨ (c = 119 ∧ n = 2 ∧ v0 < T 0 ∧ 0 ≤ v1 ∧ v1 ≤ 9) ∨ ((c = 107 ∨ c = 116) ∧ n = 1 ∧ v0 < T 0) ∨ (c = 109 ∧ n = 3 ∧ T 3 < 7 ∧ v0 ≤ 3 ∧ 0 ≤ v1 ∧ v1 < T 0 ∧ 0 ≤ v2 ∧ v2 ≤ 9) ∨ (c = 102 ∧ n = 1))
def tkT (c v0 v2 : Int) (T : Int → Int) : Int → Int := if c = 115 then up T 0 v0 else if c = 107 then up T 1 (iOr (T 1) (iShl 1 v0)) else if c = 116 then up T 2 (iOr (T 2) (iShl 1 v0)) else if c = 109 then up (up (up T (4 + T 3) v0) (11 + T 3) v2) 3 (T 3 + 1) else T
def tkR (c v0 v1 : Int) (T r : Int → Int) : Int → Int := if c = 119 then up r (2 + v0) v1 else if c = 109 then up r (18 + T 3) v1 else if c = 102 then up r 1 v0 else r
def tkS (c os : Int) : Int := if c = 115 then os else 0
/-- the whole TEXT: the first fault or -4, and what it tells -/
def prs (nt : Int) (d : Int → Int) : Nat → Int → Int → (Int → Int) → (Int → Int) → Int × (Int → Int) × (Int → Int)
  | 0, _, _, T, r => (-4, T, r)
  | k + 1, p, os, T, r => if p < nt then (if (rdN d 3 (p + 1) 0).1 ≠ -4 ∧ tkOk (d p) (rdN d 3 (p + 1) 0).2 (nv d (p + 1)) (nv d (nx d (p + 1))) (nv d (nx d (nx d (p + 1)))) T os then prs nt d k (rdN d 3 (p + 1) 0).1 (tkS (d p) os) (tkT (d p) (nv d (p + 1)) (nv d (nx d (nx d (p + 1)))) T) (tkR (d p) (nv d (p + 1)) (nv d (nx d (p + 1))) T r) else (p, T, r)) else (-4, T, r)
def T00 : Int → Int := fun k => if k = 0 then 10 else 0
def r00 : Int → Int := fun k => if k = 1 then 20 else 0
def prsA (nt : Int) (tx : Int → Int) : Int × (Int → Int) × (Int → Int) := prs nt (dch nt tx) nt.toNat 0 1 T00 r00
/-- what holds of what is told, all the way -/
def PT (T r : Int → Int) (os : Int) : Prop := (3 ≤ T 0 ∧ T 0 ≤ 16) ∧ (0 ≤ T 3 ∧ T 3 ≤ 7) ∧ (∀ m : Int, 0 ≤ m → m < T 3 → 0 ≤ T (4 + m) ∧ T (4 + m) ≤ 3 ∧ 0 ≤ T (11 + m) ∧ T (11 + m) ≤ 9) ∧ (∀ j : Int, 0 ≤ j → j < 16 → 0 ≤ r (2 + j) ∧ r (2 + j) ≤ 9) ∧ (∀ j : Int, T 0 ≤ j → j < 16 → r (2 + j) = 0) ∧ (∀ m : Int, 0 ≤ m → m < T 3 → 0 ≤ r (18 + m) ∧ r (18 + m) < T 0) ∧ (0 ≤ r 1 ∧ r 1 ≤ 99) ∧ r 0 = 0 ∧ (os = 1 → T 3 = 0 ∧ ∀ j : Int, 0 ≤ j → j < 16 → r (2 + j) = 0)
theorem PT_00 : PT T00 r00 1 := by
  refine ⟨by decide, by decide, fun m a b => ?_, fun j a b => ?_, fun j a b => ?_, fun m a b => ?_, by decide, by decide, fun _ => ⟨by decide, fun j a b => ?_⟩⟩
  · have : T00 3 = 0 := by decide
    omega
  · unfold r00; rw [if_neg (by omega)]; omega
  · have : T00 0 = 10 := by decide
    unfold r00; rw [if_neg (by omega)]
  · have : T00 3 = 0 := by decide
    omega
  · unfold r00; rw [if_neg (by omega)]
theorem PT_tk {c n v0 v1 v2 os : Int} {T r : Int → Int} (h : PT T r os) (hk : tkOk c n v0 v1 v2 T os) : PT (tkT c v0 v2 T) (tkR c v0 v1 T r) (tkS c os) := by
  obtain ⟨a1, a2, a3, a4, a5, a6, a7, a8, a9⟩ := h
  obtain ⟨hv, ⟨rfl, k1, k2, k3, k4⟩ | ⟨rfl, k1, k2, k3, k4⟩ | ⟨k0, k1, k2⟩ | ⟨rfl, k1, k2, k3, k4, k5, k6, k7⟩ | ⟨rfl, k1⟩⟩ := hk
  · obtain ⟨z1, z2⟩ := a9 k1
    rw [tkT, if_pos rfl, tkR, if_neg (by decide), if_neg (by decide), if_neg (by decide), tkS, if_pos rfl]
    refine ⟨by rw [up_at]; omega, by rw [up_ne (by omega)]; omega, fun m b c => ?_, a4, fun j b c => ?_, fun m b c => ?_, a7, a8, fun _ => ⟨by rw [up_ne (by omega)]; exact z1, z2⟩⟩
    · rw [up_ne (by omega)] at c; omega
    · rw [up_at] at b; exact z2 j (by omega) c
    · rw [up_ne (by omega)] at c; omega
  · rw [tkT, if_neg (by decide), if_neg (by decide), if_neg (by decide), if_neg (by decide), tkR, if_pos rfl, tkS, if_neg (by decide)]
    refine ⟨a1, a2, a3, fun j b c => ?_, fun j b c => ?_, fun m b c => ?_, ?_, ?_, fun z => absurd z (by omega)⟩
    · by_cases hj : j = v0
      · subst hj; rw [up_at]; omega
      · rw [up_ne (by omega)]; exact a4 j b c
    · rw [up_ne (by omega)]; exact a5 j b c
    · rw [up_ne (by omega)]; exact a6 m b c
    · rw [up_ne (by omega)]; exact a7
    · rw [up_ne (by omega)]; exact a8
  · have e1 : tkR c v0 v1 T r = r := by rw [tkR, if_neg (by omega), if_neg (by omega), if_neg (by omega)]
    have e2 : tkS c os = 0 := by rw [tkS, if_neg (by omega)]
    have e3 : ∀ j : Int, j ≠ 1 → j ≠ 2 → tkT c v0 v2 T j = T j := fun j b1 b2 => by
      rw [tkT, if_neg (by omega)]
      rcases k0 with k0 | k0
      · rw [if_pos k0, up_ne b1]
      · rw [if_neg (by omega), if_pos k0, up_ne b2]
    rw [e1, e2]
    refine ⟨by rw [e3 0 (by omega) (by omega)]; exact a1, by rw [e3 3 (by omega) (by omega)]; exact a2, fun m b c => ?_, a4, fun j b c => ?_, fun m b c => ?_, a7, a8, fun z => absurd z (by omega)⟩
    · rw [e3 3 (by omega) (by omega)] at c
      rw [e3 _ (by omega) (by omega), e3 _ (by omega) (by omega)]; exact a3 m b c
    · rw [e3 0 (by omega) (by omega)] at b; exact a5 j b c
    · rw [e3 3 (by omega) (by omega)] at c
      rw [e3 0 (by omega) (by omega)]; exact a6 m b c
  · rw [tkT, if_neg (by decide), if_neg (by decide), if_neg (by decide), if_pos rfl, tkR, if_neg (by decide), if_pos rfl, tkS, if_neg (by decide)]
    refine ⟨by rw [up_ne (by omega), up_ne (by omega), up_ne (by omega)]; exact a1, by rw [up_at]; omega, fun m b c => ?_, fun j b c => ?_, fun j b c => ?_, fun m b c => ?_, ?_, ?_, fun z => absurd z (by omega)⟩
    · rw [up_at] at c
      by_cases hm : m = T 3
      · subst hm
        rw [up_ne (by omega), up_ne (by omega), up_at, up_ne (by omega), up_at]; omega
      · rw [up_ne (by omega), up_ne (by omega), up_ne (by omega), up_ne (by omega), up_ne (by omega), up_ne (by omega)]
        exact a3 m b (by omega)
    · rw [up_ne (by omega)]; exact a4 j b c
    · rw [up_ne (by omega), up_ne (by omega), up_ne (by omega)] at b
      rw [up_ne (by omega)]; exact a5 j b c
    · rw [up_at] at c
      have e0 : up (up (up T (4 + T 3) v0) (11 + T 3) v2) 3 (T 3 + 1) 0 = T 0 := by rw [up_ne (by omega), up_ne (by omega), up_ne (by omega)]
      rw [e0]
      by_cases hm : m = T 3
      · subst hm; rw [up_at]; omega
      · rw [up_ne (by omega)]; exact a6 m b (by omega)
    · rw [up_ne (by omega)]; exact a7
    · rw [up_ne (by omega)]; exact a8
  · rw [tkT, if_neg (by decide), if_neg (by decide), if_neg (by decide), if_neg (by decide), tkR, if_neg (by decide), if_neg (by decide), if_pos rfl, tkS, if_neg (by decide)]
    refine ⟨a1, a2, a3, fun j b c => ?_, fun j b c => ?_, fun m b c => ?_, ?_, ?_, fun z => absurd z (by omega)⟩
    · rw [up_ne (by omega)]; exact a4 j b c
    · rw [up_ne (by omega)]; exact a5 j b c
    · rw [up_ne (by omega)]; exact a6 m b c
    · rw [up_at]; exact hv
    · rw [up_ne (by omega)]; exact a8
theorem prs_PT {nt : Int} {d : Int → Int} : ∀ (k : Nat) (p os : Int) (T r : Int → Int), PT T r os → ∃ os', PT (prs nt d k p os T r).2.1 (prs nt d k p os T r).2.2 os'
  | 0, _, os, _, _, h => ⟨os, h⟩
  | k + 1, p, os, T, r, h => by
    rw [prs]
    split
    · split
      · rename_i hk
        exact prs_PT k _ _ _ _ (PT_tk h hk.2)
      · exact ⟨os, h⟩
    · exact ⟨os, h⟩
theorem prsA_PT (nt : Int) (tx : Int → Int) : ∃ os', PT (prsA nt tx).2.1 (prsA nt tx).2.2 os' := prs_PT _ _ _ _ _ PT_00
theorem PT.WF {T r : Int → Int} {os : Int} (h : PT T r os) (h3 : T 3 ≠ 0) : WF T r [] [] := by
  obtain ⟨a1, a2, a3, a4, a5, a6, a7, a8, a9⟩ := h
  exact ⟨⟨a1.1, a1.2, by omega, a2.2, a3⟩, ⟨⟨a4, a6, a7⟩, by omega, by omega, a5⟩, fun u hu => by simp at hu, fun u hu => by simp at hu⟩
/-- the calls -/
def aFault (nt : Int) (tx : Int → Int) : Int := (prsA nt tx).1
abbrev okLay (nt : Int) (tx : Int → Int) : Prop := (prsA nt tx).1 = -4 ∧ (prsA nt tx).2.1 3 ≠ 0
def aLay (nt : Int) (tx : Int → Int) : Int := if okLay nt tx then (prsA nt tx).2.1 3 else -2
/-- the Reader's numbers, and what it holds -/
def VV (μ : xM) (n v0 v1 v2 : Int) : Prop := μ 3 3 = n ∧ (1 ≤ n ∧ n ≤ 3) ∧ (μ 11 0 = v0 ∧ 0 ≤ v0 ∧ v0 ≤ 99) ∧ (2 ≤ n → μ 11 1 = v1 ∧ 0 ≤ v1 ∧ v1 ≤ 99) ∧ (3 ≤ n → μ 11 2 = v2 ∧ 0 ≤ v2 ∧ v2 ≤ 99)
def RdA (μ : xM) (T r : Int → Int) (os : Int) : Prop := SA μ 6 4 T r ∧ μ 3 4 = os
def FrN (μ μ' : xM) : Prop := ∀ (k : Nat) (j : Int), k ≠ 3 ∨ j ≠ 3 → k ≠ 11 → μ' k j = μ k j
theorem FrN.I {μ μ' : xM} (h : FrN μ μ') : FrI 3 12 μ μ' := fun k j hk => h k j (by omega) (by omega)
theorem RdA.N {μ μ' : xM} {T r : Int → Int} {os : Int} (h : RdA μ T r os) (hf : FrN μ μ') : RdA μ' T r os := by
  obtain ⟨⟨⟨h1, h2, h3, h4, h5⟩, hg, ⟨a1, a2, a3, a4, a5⟩⟩, ho⟩ := h
  refine ⟨⟨⟨?_, ?_, ?_, ?_, fun m b1 b2 => ?_⟩, fun m b1 b2 => ?_, ?_, ?_, fun j b1 b2 => ?_, fun j b1 b2 => ?_, fun j b1 b2 => ?_⟩, ?_⟩
  · rw [hf _ _ (by omega) (by omega), h1]
  · rw [hf _ _ (by omega) (by omega), h2]
  · rw [hf _ _ (by omega) (by omega), h3]
  · rw [hf _ _ (by omega) (by omega), h4]
  · rw [hf _ _ (by omega) (by omega), h5 m b1 b2]
  · rw [hf _ _ (by omega) (by omega), hg m b1 b2]
  · rw [hf _ _ (by omega) (by omega), a1]
  · rw [hf _ _ (by omega) (by omega), a2]
  · rw [hf _ _ (by omega) (by omega), a3 j b1 b2]
  · rw [hf _ _ (by omega) (by omega), a4 j b1 b2]
  · rw [hf _ _ (by omega) (by omega), a5 j b1 b2]
  · rw [hf _ _ (by omega) (by omega), ho]
theorem VL.vv {d : Int → Int} {q0 c q : Int} {μ : xM} (h : VL d q0 (μ 11) c q) (h3 : μ 3 3 = c) (hc : 1 ≤ c) : VV μ c (nv d q0) (nv d (nx d q0)) (nv d (nx d (nx d q0))) := by
  rcases h with ⟨rfl, -⟩ | ⟨rfl, -, b0⟩ | ⟨rfl, -, b0, b1⟩ | ⟨rfl, -, b0, b1, b2⟩
  · omega
  · exact ⟨h3, by omega, by omega, fun z => absurd z (by omega), fun z => absurd z (by omega)⟩
  · exact ⟨h3, by omega, by omega, fun _ => by omega, fun z => absurd z (by omega)⟩
  · exact ⟨h3, by omega, by omega, fun _ => by omega, fun _ => by omega⟩
theorem RdA.wax {μ : xM} {T r : Int → Int} {os x v : Int} (h : RdA μ T r os) (h0 : 0 ≤ x) (h1 : x < 16) : RdA (xU μ 7 x v) T (up r (2 + x) v) os := ⟨⟨h.1.1.frI (lo := 7) (hi := 8) (FrI.rf.u (by omega)) (by omega), fun m m0 m1 => by rw [xU_nk (by omega)]; exact h.1.2.1 m m0 m1, h.1.2.2.wax h0 h1⟩, by rw [xU_nk (by omega)]; exact h.2⟩
theorem RdA.funds {μ : xM} {T r : Int → Int} {os v : Int} (h : RdA μ T r os) : RdA (xU μ 6 5 v) T (up r 1 v) os := ⟨⟨h.1.1.frI (lo := 6) (hi := 7) (FrI.rf.u (by omega)) (by omega), fun m m0 m1 => by rw [xU_nk (by omega)]; exact h.1.2.1 m m0 m1, h.1.2.2.funds⟩, by rw [xU_nk (by omega)]; exact h.2⟩
theorem RdA.pl {μ : xM} {T T' r : Int → Int} {os j v : Int} (h : RdA μ T r os) (hp : Pl (xU μ 4 j v) 4 T') (hg : T' 3 = T 3 ∧ ∀ m : Int, 0 ≤ m → m < T 3 → T' (11 + m) = T (11 + m)) : RdA (xU μ 4 j v) T' r os := ⟨⟨hp, fun m m0 m1 => by rw [xU_nk (by omega), hg.2 m m0 (by omega)]; exact h.1.2.1 m m0 (by omega), h.1.2.2.frI (lo := 4) (hi := 5) (FrI.rf.u (by omega)) (by omega)⟩, by rw [xU_nk (by omega)]; exact h.2⟩
theorem RdA.steps {μ : xM} {T r : Int → Int} {os v : Int} (h : RdA μ T r os) : RdA (xU μ 4 2 v) (up T 0 v) r os := by
  obtain ⟨h1, h2, h3, h4, h5⟩ := h.1.1
  refine h.pl ⟨by rw [xU_nj (by omega), up_ne (by omega), h1], by rw [xU_at2, up_at], by rw [xU_nj (by omega), up_ne (by omega), h3], by rw [xU_nj (by omega), up_ne (by omega), h4], fun m m0 m1 => ?_⟩ ⟨up_ne (by omega), fun m m0 m1 => up_ne (by omega)⟩
  rw [up_ne (by omega)] at m1
  rw [xU_nk (by omega), up_ne (by omega), h5 m m0 m1]
theorem RdA.knobs {μ : xM} {T r : Int → Int} {os v : Int} (h : RdA μ T r os) : RdA (xU μ 4 3 v) (up T 1 v) r os := by
  obtain ⟨h1, h2, h3, h4, h5⟩ := h.1.1
  refine h.pl ⟨by rw [xU_nj (by omega), up_ne (by omega), h1], by rw [xU_nj (by omega), up_ne (by omega), h2], by rw [xU_at2, up_at], by rw [xU_nj (by omega), up_ne (by omega), h4], fun m m0 m1 => ?_⟩ ⟨up_ne (by omega), fun m m0 m1 => up_ne (by omega)⟩
  rw [up_ne (by omega)] at m1
  rw [xU_nk (by omega), up_ne (by omega), h5 m m0 m1]
theorem RdA.turns {μ : xM} {T r : Int → Int} {os v : Int} (h : RdA μ T r os) : RdA (xU μ 4 4 v) (up T 2 v) r os := by
  obtain ⟨h1, h2, h3, h4, h5⟩ := h.1.1
  refine h.pl ⟨by rw [xU_nj (by omega), up_ne (by omega), h1], by rw [xU_nj (by omega), up_ne (by omega), h2], by rw [xU_nj (by omega), up_ne (by omega), h3], by rw [xU_at2, up_at], fun m m0 m1 => ?_⟩ ⟨up_ne (by omega), fun m m0 m1 => up_ne (by omega)⟩
  rw [up_ne (by omega)] at m1
  rw [xU_nk (by omega), up_ne (by omega), h5 m m0 m1]
theorem RdA.mini {μ : xM} {T r : Int → Int} {os v0 v1 v2 : Int} (h : RdA μ T r os) (h3 : 0 ≤ T 3 ∧ T 3 < 7) : RdA (xU (xU (xU (xU μ 5 (T 3) v0) 8 (T 3) v1) 9 (T 3) v2) 4 1 (T 3 + 1)) (up (up (up T (4 + T 3) v0) (11 + T 3) v2) 3 (T 3 + 1)) (up r (18 + T 3) v1) os := by
  obtain ⟨⟨⟨p1, p2, p3, p4, p5⟩, hg, ⟨a1, a2, a3, a4, a5⟩⟩, ho⟩ := h
  refine ⟨⟨⟨?_, ?_, ?_, ?_, fun m b1 b2 => ?_⟩, fun m b1 b2 => ?_, ?_, ?_, fun j b1 b2 => ?_, fun j b1 b2 => ?_, fun j b1 b2 => ?_⟩, ?_⟩
  · rw [xU_at2, up_at]
  · rw [xU_nj (by omega), xU_nk (by omega), xU_nk (by omega), xU_nk (by omega), up_ne (by omega), up_ne (by omega), up_ne (by omega), p2]
  · rw [xU_nj (by omega), xU_nk (by omega), xU_nk (by omega), xU_nk (by omega), up_ne (by omega), up_ne (by omega), up_ne (by omega), p3]
  · rw [xU_nj (by omega), xU_nk (by omega), xU_nk (by omega), xU_nk (by omega), up_ne (by omega), up_ne (by omega), up_ne (by omega), p4]
  · rw [up_at] at b2
    rw [xU_nk (by omega), xU_nk (by omega), xU_nk (by omega)]
    by_cases hm : m = T 3
    · subst hm; rw [xU_at2, up_ne (by omega), up_ne (by omega), up_at]
    · rw [xU_nj hm, up_ne (by omega), up_ne (by omega), up_ne (by omega)]; exact p5 m b1 (by omega)
  · rw [up_at] at b2
    rw [xU_nk (by omega)]
    by_cases hm : m = T 3
    · subst hm; rw [xU_at2, up_ne (by omega), up_at]
    · rw [xU_nj hm, xU_nk (by omega), xU_nk (by omega), up_ne (by omega), up_ne (by omega), up_ne (by omega)]; exact hg m b1 (by omega)
  · rw [xU_nk (by omega), xU_nk (by omega), xU_nk (by omega), xU_nk (by omega), up_ne (by omega), a1]
  · rw [xU_nk (by omega), xU_nk (by omega), xU_nk (by omega), xU_nk (by omega), up_ne (by omega), a2]
  · rw [xU_nk (by omega), xU_nk (by omega), xU_nk (by omega), xU_nk (by omega), up_ne (by omega), a3 j b1 b2]
  · rw [xU_nk (by omega), xU_nk (by omega)]
    by_cases hj : j = T 3
    · subst hj; rw [xU_at2, up_at]
    · rw [xU_nj hj, xU_nk (by omega), up_ne (by omega)]; exact a4 j b1 b2
  · rw [xU_nk (by omega), xU_nk (by omega), xU_nk (by omega), xU_nk (by omega), up_ne (by omega), a5 j b1 b2]
  · rw [xU_nk (by omega), xU_nk (by omega), xU_nk (by omega), xU_nk (by omega), ho]
