theorem xTrial {μ μ1 : xM} {T r : Int → Int} (hT : WT T) (hN : SA μ 14 12 T r) (h : FrB 19 μ μ1 ∧ St μ1 19 r ∧ ∀ j : Int, 0 ≤ j → j < 7 → μ1 (19 + 3) j = μ (14 + 3) j) : SA μ1 19 12 T r :=
  ⟨hN.1.frB h.1 (by omega), fun m m0 m1 => by have := hT.2.2.2.1; rw [h.2.2 m m0 (by omega)]; exact hN.2.1 m m0 m1, h.2.1⟩
theorem WT.grip {T : Int → Int} {m v : Int} (hT : WT T) (hm : 0 ≤ m ∧ m < T 3) (hv : 0 ≤ v ∧ v ≤ 9) : WT (up T (11 + m) v) := by
  obtain ⟨a1, a2, a3, a4, a5⟩ := hT
  refine ⟨by rw [up_ne (by omega)]; exact a1, by rw [up_ne (by omega)]; exact a2, by rw [up_ne (by omega)]; exact a3, by rw [up_ne (by omega)]; exact a4, fun k k0 k1 => ?_⟩
  rw [up_ne (by omega)] at k1
  have := a5 k k0 k1
  rw [up_ne (by omega)]
  by_cases hk : k = m
  · subst hk; rw [up_at]; omega
  · rw [up_ne (by omega)]; exact this
theorem WR.grip {T r : Int → Int} {m v : Int} (hT : WT T) (hm : 0 ≤ m ∧ m < T 3) (h : WR T r) : WR (up T (11 + m) v) r := by
  obtain ⟨a1, a2, a3, a4⟩ := h
  refine ⟨a1, fun k k0 k1 => ?_, a3, a4⟩
  rw [up_ne (by omega)] at k1
  rw [up_ne (by omega)]
  exact a2 k k0 k1
theorem SA.grip {μ : xM} {b pl : Nat} {T r : Int → Int} {m v : Int} (hT : WT T) (hm : 0 ≤ m ∧ m < T 3) (h : SA μ b pl T r) (hb : pl + 1 < b) : SA (xU μ (b + 3) m v) b pl (up T (11 + m) v) r := by
  obtain ⟨⟨a1, a2, a3, a4, a5⟩, a6, b1, b2, b3, b4, b5⟩ := h
  have t3 := hT.2.2.2.1
  refine ⟨⟨?_, ?_, ?_, ?_, fun k k0 k1 => ?_⟩, fun k k0 k1 => ?_, ?_, ?_, fun j j0 j1 => ?_, fun j j0 j1 => ?_, fun j j0 j1 => ?_⟩
  · rw [xU_nk (by omega), up_ne (by omega), a1]
  · rw [xU_nk (by omega), up_ne (by omega), a2]
  · rw [xU_nk (by omega), up_ne (by omega), a3]
  · rw [xU_nk (by omega), up_ne (by omega), a4]
  · rw [up_ne (by omega)] at k1
    rw [xU_nk (by omega), up_ne (by omega), a5 k k0 k1]
  · rw [up_ne (by omega)] at k1
    by_cases hk : k = m
    · subst hk; rw [xU_at2, up_at]
    · rw [xU_nj hk, up_ne (by omega), a6 k k0 k1]
  · rw [xU_nk (by omega), b1]
  · rw [xU_nk (by omega), b2]
  · rw [xU_nk (by omega), b3 j j0 j1]
  · rw [xU_nk (by omega), b4 j j0 j1]
  · rw [xU_nk (by omega), b5 j j0 j1]
def bcF (a : Int) : Int :=
  let i1 := a - iAnd (iUshr a 1) 1431655765
  let i2 := iAnd i1 858993459 + iAnd (iUshr i1 2) 858993459
  let i3 := iAnd (i2 + iUshr i2 4) 252645135
  let i4 := i3 + iUshr i3 8
  let i5 := i4 + iUshr i4 16
  iAnd i5 63
theorem bcF_all : ∀ k : Nat, k < 128 → bcF (k : Int) = popN 8 k ∧ 0 ≤ popN 8 k ∧ popN 8 k ≤ 7 := by decide +kernel
theorem bcF_pop {a : Int} (h : 0 ≤ a ∧ a < 128) : bcF a = pop a ∧ 0 ≤ pop a ∧ pop a ≤ 7 := by
  have := bcF_all a.toNat (by omega)
  rw [show ((a.toNat : Nat) : Int) = a by omega] at this
  exact this
theorem shl1_all : ∀ k : Nat, k < 10 → iShl 1 (k : Int) = ((2 ^ k : Nat) : Int) := by decide +kernel
theorem chance_all : ∀ n : Nat, n < 7 → ∀ k : Nat, k < 2 ^ n → ∀ x : Nat, x < 11 → chanceF (x : Int) (k : Int) n = powI (x : Int) (popN 8 k).toNat * powI (10 - (x : Int)) (n - (popN 8 k).toNat) ∧ 0 ≤ chanceF (x : Int) (k : Int) n ∧ chanceF (x : Int) (k : Int) n ≤ 1000000 ∧ (popN 8 k).toNat ≤ n := by decide +kernel
theorem pow10_all : ∀ n : Nat, n < 7 → 1 ≤ powI 10 n ∧ powI 10 n ≤ 1000000 := by decide +kernel
theorem aboveF_rg {T r : Int → Int} {m x : Int} {n : Nat} (hn : n < 7) (hx : 0 ≤ x ∧ x ≤ 10) : ∀ k : Nat, k ≤ 2 ^ n → 0 ≤ aboveF T r m x n k ∧ aboveF T r m x n k ≤ 1000000 * k
  | 0, _ => by simp [aboveF]
  | k + 1, hk => by
    have h1 := aboveF_rg (T := T) (r := r) (m := m) hn hx k (by omega)
    have h2 := chance_all n hn k (by omega) x.toNat (by omega)
    rw [show ((x.toNat : Nat) : Int) = x by omega] at h2
    rw [aboveF]
    split <;> omega
/-- Euclid's loop, n rounds at most -/
def gcdF : Nat → Nat → Nat → Nat
  | 0, L, _ => L
  | k + 1, L, s => if s = 0 then L else gcdF k s (L % s)
theorem gcdF_ok : ∀ (k L s : Nat), s ≤ L → 0 < L → (L + s) * 2 ^ k < 3 ^ k → gcdF k L s = Nat.gcd s L
  | 0, L, s, _, h0, h => by simp at h; omega
  | k + 1, L, s, hs, h0, h => by
    rw [gcdF]
    split
    · rename_i hz
      subst hz
      simp
    · rename_i hz
      have h1 : L % s < s := Nat.mod_lt _ (by omega)
      have h2 := Nat.div_add_mod L s
      have h3 : 1 ≤ L / s := Nat.div_pos hs (by omega)
      have h4 : s * 1 ≤ s * (L / s) := Nat.mul_le_mul_left s h3
      have h5 : 3 * (s + L % s) ≤ 2 * (L + s) := by omega
      have h6 : (s + L % s) * 2 ^ k < 3 ^ k := by
        rw [Nat.pow_succ, Nat.pow_succ] at h
        have h7 := Nat.mul_le_mul_right (2 ^ k) h5
        have h8 : 3 * (s + L % s) * 2 ^ k = 3 * ((s + L % s) * 2 ^ k) := by rw [Nat.mul_assoc]
        have h9 : (L + s) * (2 ^ k * 2) = 2 * (L + s) * 2 ^ k := by
          rw [Nat.mul_comm (2 ^ k) 2, ← Nat.mul_assoc, Nat.mul_comm (L + s) 2]
        omega
      rw [gcdF_ok k s (L % s) (by omega) (by omega) h6]
      exact (Nat.gcd_rec s L).symm
theorem gcdF_100 {L s : Nat} (h0 : 0 < L) (hb : L ≤ 1000000) (hs : s ≤ 100000000) : gcdF 100 L s = Nat.gcd s L := by
  have big : 101000000 * 2 ^ 99 < 3 ^ 99 := by decide +kernel
  by_cases h : s ≤ L
  · refine gcdF_ok 100 L s h h0 ?_
    have h1 : L + s ≤ 2000000 := by omega
    have h2 := Nat.mul_le_mul_right (2 ^ 100) h1
    have h3 : 2000000 * 2 ^ 100 < 3 ^ 100 := by decide +kernel
    exact Nat.lt_of_le_of_lt h2 h3
  · rw [gcdF, if_neg (by omega), Nat.mod_eq_of_lt (by omega), gcdF_ok 99 s L (by omega) (by omega) ?_, Nat.gcd_comm]
    have h1 : s + L ≤ 101000000 := by omega
    have h2 := Nat.mul_le_mul_right (2 ^ 99) h1
    exact Nat.lt_of_le_of_lt h2 big
theorem powI_rg {b : Int} (hb : 0 ≤ b ∧ b ≤ 10) : ∀ k : Nat, 0 ≤ powI b k
  | 0 => by simp [powI]
  | k + 1 => Int.mul_nonneg (powI_rg hb k) hb.1
theorem drawF_rg (z y : Int) : 0 ≤ drawF z y ∧ drawF z y < 32761 := by
  unfold drawF
  omega
theorem l_toInt {a : Int} (ha : -9223372036854775808 ≤ a ∧ a < 9223372036854775808) : (Int64.ofInt a).toInt = a := Int64.toInt_ofInt_of_le (by omega) (by omega)
theorem l_div {a b : Int} (ha : 0 ≤ a ∧ a < 9223372036854775808) (hb : 0 < b ∧ b < 9223372036854775808) : lDiv a b = a / b := by
  unfold lDiv
  have hm : Int64.ofInt a ≠ Int64.minValue := by
    intro z
    have := congrArg Int64.toInt z
    rw [l_toInt (by omega)] at this
    have h2 : Int64.minValue.toInt = -9223372036854775808 := by decide
    omega
  rw [Int64.toInt_div_of_ne_left _ _ hm, l_toInt (by omega), l_toInt (by omega), Int.tdiv_eq_ediv_of_nonneg ha.1]
theorem l_rem {a b : Int} (ha : 0 ≤ a ∧ a < 9223372036854775808) (hb : 0 < b ∧ b < 9223372036854775808) : lRem a b = a % b := by
  unfold lRem
  have e : Int64.ofInt a / Int64.ofInt b = Int64.ofInt (a / b) := by
    have := l_div ha hb
    unfold lDiv at this
    rw [← this, Int64.ofInt_toInt]
  have h0 := Int.emod_nonneg a (show b ≠ 0 by omega)
  have h1 := Int.emod_lt_of_pos a hb.1
  rw [e, ← Int64.ofInt_mul, ← Int64.ofInt_sub]
  have e2 : a - a / b * b = a % b := by rw [Int.emod_def, Int.mul_comm]
  rw [e2, l_toInt (by omega)]
theorem sq_rg {x : Int} (h : 0 ≤ x ∧ x ≤ 100000000) : 0 ≤ x * x ∧ x * x ≤ 10000000000000000 := by
  have h1 : x * x ≤ 100000000 * 100000000 := Int.mul_le_mul h.2 h.2 h.1 (by omega)
  exact ⟨Int.mul_nonneg h.1 h.1, by omega⟩
theorem firstX_rg {P : Int → Bool} : ∀ (k : Nat) (x : Int), 0 ≤ x → firstX P k x = -1 ∨ x ≤ firstX P k x
  | 0, _, _ => Or.inl rfl
  | k + 1, x, h => by
    rw [firstX]
    split
    · exact Or.inr (by omega)
    · rcases firstX_rg k (x + 1) (by omega) with z | z
      · exact Or.inl z
      · exact Or.inr (by omega)
theorem WR_wax9 {T r : Int → Int} {x v : Int} (h : WR T r) (h0 : 0 ≤ x ∧ x < 16) (hv : 0 ≤ v) (h9 : r (2 + x) + v ≤ 9) : WR T (up r (2 + x) (r (2 + x) + v)) := WR_wax h h0.1 h0.2 (by have := h.1 x h0.1 h0.2; omega)
