section RMS
variable {μ μ1 μ2 : xM} {T r r' : Int → Int} {nt : Int} {tx : Int → Int} {un un' kp kp' : List (Int → Int)} {sl : List (Int × Int)}
theorem Sk.fr {lo hi c : Nat} {j : Int} {M : Nat} (h : Sk μ c j M un) (hf : FrI lo hi μ μ1) (hd : hi ≤ c ∨ c < lo) (hd2 : hi ≤ 81 ∨ 81 < lo) : Sk μ1 c j M un := ⟨by rw [hf _ _ (by omega)]; exact h.1, h.2.1, fun i u hu k a b => by rw [hf _ _ (by omega)]; exact h.2.2 i u hu k a b⟩
theorem Sm.fr {lo hi : Nat} (h : Sm μ T sl) (hf : FrI lo hi μ μ1) (hd : hi ≤ 90 ∨ 90 < lo) (hd2 : hi ≤ 81 ∨ 81 < lo) : Sm μ1 T sl := ⟨by rw [hf _ _ (by omega)]; exact h.1, h.2.1, fun i q hq => by rw [hf _ _ (by omega), hf _ _ (by omega)]; exact h.2.2 i q hq⟩
theorem Txm.fr {lo hi : Nat} (h : Txm μ nt tx) (hf : FrI lo hi μ μ1) (hd : hi ≤ 81 ∨ 82 < lo) : Txm μ1 nt tx := ⟨by rw [hf _ _ (by omega)]; exact h.1, h.2.1, h.2.2.1, fun j a b => by rw [hf _ _ (by omega)]; exact h.2.2.2 j a b⟩
theorem RM.scr {lo hi : Nat} (h : RM μ T r nt tx un kp sl) (hf : FrI lo hi μ μ1) (hd : (87 ≤ lo ∧ hi ≤ 88) ∨ hi ≤ 81) : RM μ1 T r nt tx un kp sl :=
  ⟨h.1.fr hf (by omega), h.2.1.fr hf (by omega), h.2.2.1.fr hf (by omega), h.2.2.2.1.fr hf (by omega) (by omega), h.2.2.2.2.1.fr hf (by omega) (by omega), h.2.2.2.2.2.fr hf (by omega) (by omega)⟩
/-- all but a cell's numbers and one place of the object -/
def FrK (c : Nat) (s : Int) (μ μ' : xM) : Prop := ∀ (k : Nat) (j : Int), k ≠ c → (k ≠ 81 ∨ j ≠ s) → μ' k j = μ k j
theorem FrK.tr {c : Nat} {s : Int} (h : FrK c s μ μ1) (h2 : FrK c s μ1 μ2) : FrK c s μ μ2 := fun k j a b => (h2 k j a b).trans (h k j a b)
theorem FrK.uc {c : Nat} {s j v : Int} (h : FrK c s μ μ1) : FrK c s μ (xU μ1 c j v) := fun k j' a b => (xU_nk a).trans (h k j' a b)
theorem FrK.us {c : Nat} {s v : Int} (h : FrK c s μ μ1) : FrK c s μ (xU μ1 81 s v) := fun k j' a b => by
  rcases b with b | b
  · rw [xU_nk b]; exact h k j' a (Or.inl b)
  · rw [xU_nj b]; exact h k j' a (Or.inr b)
theorem FrK.I {c : Nat} {s : Int} (h : FrK c s μ μ1) (hc : 81 ≤ c ∧ c < 92) : FrI 81 92 μ μ1 := fun k j hk => h k j (by omega) (by omega)
theorem Sk.K {c c2 : Nat} {j s : Int} {M : Nat} (h : Sk μ c j M un) (hf : FrK c2 s μ μ1) (hc : c ≠ c2 ∧ c ≠ 81 ∧ c2 ≠ 81 ∧ j ≠ s) : Sk μ1 c j M un := ⟨by rw [hf _ _ (by omega) (Or.inr hc.2.2.2)]; exact h.1, h.2.1, fun i u hu k a b => by rw [hf _ _ hc.1 (Or.inl hc.2.1)]; exact h.2.2 i u hu k a b⟩
theorem Sm.K {c2 : Nat} {s : Int} (h : Sm μ T sl) (hf : FrK c2 s μ μ1) (hc : c2 ≠ 90 ∧ c2 ≠ 81 ∧ s ≠ 13) : Sm μ1 T sl := ⟨by rw [hf _ _ (by omega) (by omega)]; exact h.1, h.2.1, fun i q hq => by rw [hf _ _ (by omega) (by omega), hf _ _ (by omega) (by omega)]; exact h.2.2 i q hq⟩
theorem Txm.K {c2 : Nat} {s : Int} (h : Txm μ nt tx) (hf : FrK c2 s μ μ1) (hc : c2 ≠ 82 ∧ c2 ≠ 81 ∧ s ≠ 0) : Txm μ1 nt tx := ⟨by rw [hf _ _ (by omega) (by omega)]; exact h.1, h.2.1, h.2.2.1, fun j a b => by rw [hf _ _ (by omega) (by omega)]; exact h.2.2.2 j a b⟩
theorem TT.K {c c2 : Nat} {s : Int} (h : TT μ c T) (hf : FrK c2 s μ μ1) (hc : c ≠ c2 ∧ c ≠ 81) : TT μ1 c T := by
  obtain ⟨⟨a1, a2, a3, a4⟩, h5⟩ := h
  exact ⟨⟨by rw [hf _ _ (by omega) (by omega), a1], by rw [hf _ _ (by omega) (by omega), a2], by rw [hf _ _ (by omega) (by omega), a3], by rw [hf _ _ (by omega) (by omega), a4]⟩, fun m b1 b2 => by rw [hf _ _ (by omega) (by omega), hf _ _ (by omega) (by omega)]; exact h5 m b1 b2⟩
theorem Rw.K {c c2 : Nat} {s : Int} (h : Rw μ c r) (hf : FrK c2 s μ μ1) (hc : c ≠ c2 ∧ c ≠ 81) : Rw μ1 c r := fun j a b => by rw [hf _ _ (by omega) (by omega)]; exact h j a b
theorem RM.note (h : RM μ T r nt tx un kp sl) (hf : FrK 88 9 μ μ1) (h1 : Sk μ1 88 9 8 un') : RM μ1 T r nt tx un' kp sl :=
  ⟨h.1.K hf (by omega), h.2.1.K hf (by omega), h.2.2.1.K hf (by omega), h1, h.2.2.2.2.1.K hf (by omega), h.2.2.2.2.2.K hf (by omega)⟩
theorem RM.kept (h : RM μ T r nt tx un kp sl) (hf : FrK 89 11 μ μ1) (h1 : Sk μ1 89 11 2 kp') : RM μ1 T r nt tx un kp' sl :=
  ⟨h.1.K hf (by omega), h.2.1.K hf (by omega), h.2.2.1.K hf (by omega), h.2.2.2.1.K hf (by omega), h1, h.2.2.2.2.2.K hf (by omega)⟩
theorem RM.now (h : RM μ T r nt tx un kp sl) (hf : FrI 85 86 μ μ1) (h1 : Rw μ1 85 r') : RM μ1 T r' nt tx un kp sl :=
  ⟨h.1.fr hf (by omega), h.2.1.fr hf (by omega), h1, h.2.2.2.1.fr hf (by omega) (by omega), h.2.2.2.2.1.fr hf (by omega) (by omega), h.2.2.2.2.2.fr hf (by omega) (by omega)⟩
theorem RM.sd (h : RM μ T r nt tx un kp sl) (hf : FrI 87 88 μ μ1) (h1 : Rw μ1 87 r') : SD μ1 T r' := ⟨h.2.1.fr hf (by omega), h1⟩
theorem Sk.cons {c : Nat} {j : Int} {M : Nat} (h : Sk μ c j M un) (hl : un.length < M) (h1 : ∀ k : Int, 0 ≤ k → k < 32 → μ2 c (32 * (un.length : Int) + k) = r k) (h2 : ∀ k : Int, k < 32 * (un.length : Int) → μ2 c k = μ c k) (h3 : μ2 81 j = (un.length : Int) + 1) : Sk μ2 c j M (r :: un) := by
  refine ⟨by rw [h3]; simp, by simp; omega, fun i u hu k a b => ?_⟩
  cases i with
  | zero =>
    simp only [List.getElem?_cons_zero, Option.some.injEq] at hu
    subst hu
    rw [show 32 * (((r :: un).length : Int) - 1 - ((0 : Nat) : Int)) + k = 32 * (un.length : Int) + k by simp]
    exact h1 k a b
  | succ i =>
    simp only [List.getElem?_cons_succ] at hu
    have hi := (List.getElem?_eq_some_iff.mp hu).1
    rw [show 32 * (((r :: un).length : Int) - 1 - ((i + 1 : Nat) : Int)) + k = 32 * ((un.length : Int) - 1 - i) + k by simp; omega]
    rw [h2 _ (by omega)]
    exact h.2.2 i u hu k a b
theorem Sk.tail {c : Nat} {j : Int} {M : Nat} {u : Int → Int} (h : Sk μ c j M (u :: un)) (h2 : ∀ k : Int, μ2 c k = μ c k) (h3 : μ2 81 j = (un.length : Int)) : Sk μ2 c j M un := by
  have hl : (u :: un).length = un.length + 1 := rfl
  refine ⟨h3, by have := h.2.1; omega, fun i v hv k a b => ?_⟩
  have z := h.2.2 (i + 1) v (by simpa using hv) k a b
  rw [h2, ← z, hl]
  congr 1
  omega
theorem Sk.head {c : Nat} {j : Int} {M : Nat} {u : Int → Int} (h : Sk μ c j M (u :: un)) {k : Int} (h0 : 0 ≤ k) (h1 : k < 32) : μ c (32 * (un.length : Int) + k) = u k := by
  have z := h.2.2 0 u rfl k h0 h1
  rw [← z]
  congr 1
  simp
theorem Sk.drop {c : Nat} {j : Int} (h : Sk μ c j 8 un) (hl : un.length = 8) (h1 : ∀ k : Int, 0 ≤ k → k < 224 → μ2 c k = μ c (32 + k)) (h3 : μ2 81 j = 7) : Sk μ2 c j 8 (un.take 7) := by
  have e : (un.take 7).length = 7 := by simp [hl]
  refine ⟨by rw [h3, e]; rfl, by omega, fun i u hu k a b => ?_⟩
  have hi := (List.getElem?_eq_some_iff.mp hu).1
  rw [e] at hi
  rw [List.getElem?_take_of_lt hi] at hu
  rw [e, h1 _ (by omega) (by omega), ← h.2.2 i u hu k a b, hl]
  congr 1
  omega
theorem seenB_iff : seenB r sl = true ↔ ∀ (j : Nat) (q : Int × Int), sl[j]? = some q → r (18 + q.1) = q.2 := by
  unfold seenB
  rw [decide_eq_true_iff]
  constructor
  · intro h j q hq
    exact h q (List.mem_of_getElem? hq)
  · intro h q hq
    obtain ⟨j, hj⟩ := List.getElem?_of_mem hq
    exact h j q hj
theorem pop_z : pop 0 = 0 := by decide
theorem pop_rg : ∀ X : Nat, X < 128 → 0 ≤ pop X ∧ pop X ≤ 7 := by decide +kernel
end RMS
