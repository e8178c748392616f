/-! THE REFERENCE: its cells 81 .. 91 -/
def Rw (μ : xM) (c : Nat) (r : Int → Int) : Prop := ∀ k : Int, 0 ≤ k → k < 32 → μ c k = r k
def TT (μ : xM) (c : Nat) (T : Int → Int) : Prop := (μ c 0 = T 0 ∧ μ c 1 = T 1 ∧ μ c 2 = T 2 ∧ μ c 3 = T 3) ∧ ∀ m : Int, 0 ≤ m → m < T 3 → μ c (4 + m) = T (4 + m) ∧ μ c (11 + m) = T (11 + m)
def SD (μ : xM) (T r : Int → Int) : Prop := TT μ 83 T ∧ Rw μ 87 r
theorem Rw.u {μ : xM} {c : Nat} {r : Int → Int} {k v : Int} (h : Rw μ c r) : Rw (xU μ c k v) c (up r k v) := fun j a b => by
  by_cases hj : j = k
  · subst hj; rw [xU_at2, up_at]
  · rw [xU_nj hj, up_ne hj]; exact h j a b
theorem Rw.fr {lo hi : Nat} {μ μ' : xM} {c : Nat} {r : Int → Int} (h : Rw μ c r) (hf : FrI lo hi μ μ') (hd : hi ≤ c ∨ c < lo) : Rw μ' c r := fun j a b => by rw [hf _ _ (by omega)]; exact h j a b
theorem TT.fr {lo hi : Nat} {μ μ' : xM} {c : Nat} {T : Int → Int} (h : TT μ c T) (hf : FrI lo hi μ μ') (hd : hi ≤ c ∨ c < lo) : TT μ' c T := by
  obtain ⟨⟨a1, a2, a3, a4⟩, h5⟩ := h
  exact ⟨⟨by rw [hf _ _ (by omega), a1], by rw [hf _ _ (by omega), a2], by rw [hf _ _ (by omega), a3], by rw [hf _ _ (by omega), a4]⟩, fun m b1 b2 => by rw [hf _ _ (by omega), hf _ _ (by omega)]; exact h5 m b1 b2⟩
theorem up_self {r : Int → Int} {k : Int} : up r k (r k) = r := by
  funext j
  by_cases h : j = k
  · subst h; exact up_at
  · exact up_ne h
theorem SD.st {μ μ' : xM} {T r r' : Int → Int} (h : SD μ T r) (hf : FrI 87 88 μ μ') (h2 : Rw μ' 87 r') : SD μ' T r' := ⟨h.1.fr hf (by omega), h2⟩
theorem slide_st {T r : Int → Int} {m sp : Int} {n : Nat} (h : 0 < sp) (h2 : 0 < r (18 + m)) : slide T m (n + 1) sp r = slide T m n (if stp T m (r (18 + m) - 1) = true then 0 else sp + r (2 + (r (18 + m) - 1)) - (if T (4 + m) = 1 then 4 else 2)) (up (up r (2 + r (18 + m)) (max 0 (r (2 + r (18 + m)) - 1))) (18 + m) (r (18 + m) - 1)) := by
  rw [slide, if_pos ⟨h, h2⟩]
theorem WR_down {T r : Int → Int} {m v : Int} (hT : WT T) (h : WR T r) (hm : 0 ≤ m ∧ m < T 3) (h0 : 0 < r (18 + m)) (hv : v = max 0 (r (2 + r (18 + m)) - 1)) : WR T (up (up r (2 + r (18 + m)) v) (18 + m) (r (18 + m) - 1)) := by
  have t1 := hT.2.1
  have p := h.2.1 m hm.1 hm.2
  have w := h.1 (r (18 + m)) (by omega) (by omega)
  exact WR_place hT (WR_wax h (by omega) (by omega) (by omega)) hm.1 (by omega)
theorem lg_all {a b : Int} (ha : -9223372036854775808 ≤ a ∧ a < 9223372036854775808) (hb : -9223372036854775808 ≤ b ∧ b < 9223372036854775808) : (lCmp a b < 0 ↔ a < b) ∧ (0 < lCmp a b ↔ b < a) ∧ -1 ≤ lCmp a b ∧ lCmp a b ≤ 1 := by
  have e1 : Int64.ofInt a < Int64.ofInt b ↔ a < b := by
    rw [Int64.lt_iff_toInt_lt, Int64.toInt_ofInt_of_le (by omega) (by omega), Int64.toInt_ofInt_of_le (by omega) (by omega)]
  have e2 : Int64.ofInt b < Int64.ofInt a ↔ b < a := by
    rw [Int64.lt_iff_toInt_lt, Int64.toInt_ofInt_of_le (by omega) (by omega), Int64.toInt_ofInt_of_le (by omega) (by omega)]
  have e3 : Int64.ofInt a = Int64.ofInt b ↔ a = b := by
    rw [← Int64.toInt_inj, Int64.toInt_ofInt_of_le (by omega) (by omega), Int64.toInt_ofInt_of_le (by omega) (by omega)]
  unfold lCmp lg_cmp
  have k1 : (1 : Int32).toInt = 1 := by decide
  have k0 : (0 : Int32).toInt = 0 := by decide
  have km : (-1 : Int32).toInt = -1 := by decide
  rcases Int.lt_trichotomy a b with h | h | h
  · rw [if_neg (fun z => absurd (e2.mp z) (by omega)), if_neg (fun z => absurd (e3.mp z) (by omega)), km]; omega
  · rw [if_neg (fun z => absurd (e2.mp z) (by omega)), if_pos (e3.mpr h), k0]; omega
  · rw [if_pos (e2.mpr h), k1]; omega
/-- bits, one by one -/
theorem ones_st : ∀ X : Nat, X < 128 → X ≠ 0 → iAnd X ((X : Int) - 1) = ((iAnd X ((X : Int) - 1)).toNat : Int) ∧ (iAnd X ((X : Int) - 1)).toNat < X ∧ pop (iAnd X ((X : Int) - 1)) + 1 = pop X := by decide +kernel
/-- SIGHTINGS, and stacks of rows -/
def Sm (μ : xM) (T : Int → Int) (sl : List (Int × Int)) : Prop := μ 81 13 = (sl.length : Int) ∧ sl.length ≤ 6 ∧ ∀ (i : Nat) (q : Int × Int), sl[i]? = some q → μ 90 (2 * (i : Int)) = q.1 ∧ μ 90 (2 * (i : Int) + 1) = q.2 ∧ 0 ≤ q.1 ∧ q.1 < T 3 ∧ 0 ≤ q.2 ∧ q.2 < T 0
def Sk (μ : xM) (c : Nat) (j : Int) (M : Nat) (un : List (Int → Int)) : Prop := μ 81 j = (un.length : Int) ∧ un.length ≤ M ∧ ∀ (i : Nat) (u : Int → Int), un[i]? = some u → ∀ k : Int, 0 ≤ k → k < 32 → μ c (32 * ((un.length : Int) - 1 - i) + k) = u k
def Txm (μ : xM) (nt : Int) (tx : Int → Int) : Prop := μ 81 0 = nt ∧ 0 ≤ nt ∧ nt ≤ 200 ∧ ∀ j : Int, 0 ≤ j → j < nt → μ 82 j = tx j ∧ 32 ≤ tx j ∧ tx j ≤ 126
def RM (μ : xM) (T r : Int → Int) (nt : Int) (tx : Int → Int) (un kp : List (Int → Int)) (sl : List (Int × Int)) : Prop := Txm μ nt tx ∧ TT μ 83 T ∧ Rw μ 85 r ∧ Sk μ 88 9 8 un ∧ Sk μ 89 11 2 kp ∧ Sm μ T sl
theorem sumW_16 {r : Int → Int} {N : Nat} (h : ∀ j : Int, (N : Int) ≤ j → j < 16 → r (2 + j) = 0) : ∀ k : Nat, N + k ≤ 16 → sumW r (N + k) = sumW r N
  | 0, _ => rfl
  | k + 1, hk => by
    rw [← Nat.add_assoc, sumW, h _ (by omega) (by omega), sumW_16 h k (by omega), Int.add_zero]
theorem stp_iff {T : Int → Int} {m x : Int} : stp T m x = true ↔ hsb (T 1) x = true ∨ (T (4 + m) = 2 ∧ hsb (T 2) x = true) := by
  unfold stp
  simp [Bool.or_eq_true, Bool.and_eq_true]
