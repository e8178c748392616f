/-- outside cells lo .. hi - 1 -/
def FrI (lo hi : Nat) (μ μ' : xM) : Prop := ∀ (k : Nat) (j : Int), k < lo ∨ hi ≤ k → μ' k j = μ k j
theorem FrI.rf {lo hi : Nat} {μ : xM} : FrI lo hi μ μ := fun _ _ _ => rfl
theorem FrI.tr {lo hi : Nat} {μ μ' μ'' : xM} (h : FrI lo hi μ μ') (h2 : FrI lo hi μ' μ'') : FrI lo hi μ μ'' := fun k j hk => (h2 k j hk).trans (h k j hk)
theorem FrI.u {lo hi : Nat} {μ μ' : xM} {k : Nat} {j a : Int} (h : FrI lo hi μ μ') (hk : lo ≤ k ∧ k < hi) : FrI lo hi μ (xU μ' k j a) := fun k' j' hk' => (xU_nk (by omega)).trans (h k' j' hk')
theorem FrI.mono {lo hi lo' hi' : Nat} {μ μ' : xM} (h : FrI lo hi μ μ') (h1 : lo' ≤ lo) (h2 : hi ≤ hi') : FrI lo' hi' μ μ' := fun k j hk => h k j (by omega)
theorem FrB.I {b : Nat} {μ μ' : xM} (h : FrB b μ μ') : FrI b (b + 5) μ μ' := h
theorem FrS.I {b : Nat} {μ μ' : xM} (h : FrS b μ μ') : FrI b (b + 5) μ μ' := h.B
theorem St.frI {lo hi b : Nat} {μ μ' : xM} {r : Int → Int} (h : St μ b r) (hf : FrI lo hi μ μ') (hd : hi ≤ b ∨ b + 5 ≤ lo) : St μ' b r := by
  obtain ⟨a1, a2, a3, a4, a5⟩ := h
  refine ⟨?_, ?_, fun j b1 b2 => ?_, fun j b1 b2 => ?_, fun j b1 b2 => ?_⟩
  · rw [hf _ _ (by omega), a1]
  · rw [hf _ _ (by omega), a2]
  · rw [hf _ _ (by omega), a3 j b1 b2]
  · rw [hf _ _ (by omega), a4 j b1 b2]
  · rw [hf _ _ (by omega), a5 j b1 b2]
theorem Gr.frI {lo hi b : Nat} {μ μ' : xM} {T : Int → Int} (h : Gr μ b T) (hf : FrI lo hi μ μ') (hd : hi ≤ b ∨ b + 5 ≤ lo) : Gr μ' b T := fun m a1 a2 => by
  rw [hf _ _ (by omega), h m a1 a2]
theorem Pl.frI {lo hi pl : Nat} {μ μ' : xM} {T : Int → Int} (h : Pl μ pl T) (hf : FrI lo hi μ μ') (hd : hi ≤ pl ∨ pl + 1 < lo) : Pl μ' pl T := by
  obtain ⟨h1, h2, h3, h4, h5⟩ := h
  refine ⟨?_, ?_, ?_, ?_, fun m a1 a2 => ?_⟩
  · rw [hf _ _ (by omega), h1]
  · rw [hf _ _ (by omega), h2]
  · rw [hf _ _ (by omega), h3]
  · rw [hf _ _ (by omega), h4]
  · rw [hf _ _ (by omega), h5 m a1 a2]
theorem SA.frI {lo hi b pl : Nat} {μ μ' : xM} {T r : Int → Int} (h : SA μ b pl T r) (hf : FrI lo hi μ μ') (hd : hi ≤ b ∨ b + 5 ≤ lo) (hp : hi ≤ pl ∨ pl + 1 < lo) : SA μ' b pl T r := ⟨h.1.frI hf hp, h.2.1.frI hf hd, h.2.2.frI hf hd⟩
/-- a stack of Standings in a ring of M rows; un: the latest first -/
def rowsOf (c M : Nat) : List (Option Nat) := (List.range M).map (fun i => some (c + 2 + 5 * i))
theorem rowsOf_len {c M : Nat} : (rowsOf c M).length = M := by simp [rowsOf]
theorem rowsOf_at {c M i : Nat} (h : i < M) : (rowsOf c M)[i]? = some (some (c + 2 + 5 * i)) := by simp [rowsOf, h]
def xShf (S : List xS) (c M : Nat) : Prop := S[c]? = some (.inl (2, [some (some (c + 1)), none, none])) ∧ S[c + 1]? = some (.inr (.inr (rowsOf c M))) ∧ (M = 2 ∨ M = 8) ∧ (∀ i, i < M → xStd S (c + 2 + 5 * i) 12) ∧ 13 < c
def RingAt (μ : xM) (c M nx : Nat) (un : List (Int → Int)) (T : Int → Int) : Prop := ∀ (i : Nat) (u : Int → Int), un[i]? = some u → St μ (c + 2 + 5 * ((nx + M - 1 - i) % M)) u ∧ Gr μ (c + 2 + 5 * ((nx + M - 1 - i) % M)) T
def Ring (μ : xM) (c M : Nat) (un : List (Int → Int)) (T : Int → Int) : Prop := μ c 1 = (un.length : Int) ∧ un.length ≤ M ∧ ∃ nx : Nat, μ c 2 = (nx : Int) ∧ nx < M ∧ RingAt μ c M nx un T
theorem Ring.frI {lo hi c M : Nat} {μ μ' : xM} {un : List (Int → Int)} {T : Int → Int} (hM : M = 2 ∨ M = 8) (h : Ring μ c M un T) (hf : FrI lo hi μ μ') (hd : hi ≤ c ∨ c + 2 + 5 * M ≤ lo) : Ring μ' c M un T := by
  obtain ⟨e1, e2, nx, e3, e4, e5⟩ := h
  refine ⟨by rw [hf _ _ (by omega), e1], e2, nx, by rw [hf _ _ (by omega), e3], e4, fun i u hu => ?_⟩
  obtain ⟨a1, a2⟩ := e5 i u hu
  have hl : (nx + M - 1 - i) % M < M := Nat.mod_lt _ (by omega)
  exact ⟨a1.frI hf (by omega), a2.frI hf (by omega)⟩
theorem Ring.putL {c M nx : Nat} {μ μ1 : xM} {un : List (Int → Int)} {T r : Int → Int} {nx' sz : Int} (hM : M = 2 ∨ M = 8) (e2 : un.length ≤ M) (e4 : nx < M) (e5 : RingAt μ c M nx un T) (h1 : FrB (c + 2 + 5 * nx) μ μ1) (h2 : St μ1 (c + 2 + 5 * nx) r) (h3 : Gr μ1 (c + 2 + 5 * nx) T) (hn : nx' = if (nx : Int) + 1 < M then (nx : Int) + 1 else 0) (hs : sz = min ((un.length : Int) + 1) M) : Ring (xU (xU μ1 c 2 nx') c 1 sz) c M ((r :: un).take M) T := by
  have hf : FrI c (c + 1) μ1 (xU (xU μ1 c 2 nx') c 1 sz) := (FrI.rf.u (by omega)).u (by omega)
  have hl : ((r :: un).take M).length = min M (un.length + 1) := by simp
  refine ⟨by rw [xU_at2, hs, hl]; omega, by rw [hl]; omega, nx'.toNat, ?_, ?_, fun i u hu => ?_⟩
  · rw [xU_nj (by omega), xU_at2]
    split at hn <;> omega
  · split at hn <;> omega
  · have hi : i < min M (un.length + 1) := by rw [← hl]; exact (List.getElem?_eq_some_iff.mp hu).1
    rw [List.getElem?_take_of_lt (by omega)] at hu
    have hne : nx'.toNat = if nx + 1 < M then nx + 1 else 0 := by
      split at hn
      · rw [if_pos (by omega)]; omega
      · rw [if_neg (by omega)]; omega
    cases i with
    | zero =>
      simp only [List.getElem?_cons_zero, Option.some.injEq] at hu
      subst hu
      have e : (nx'.toNat + M - 1 - 0) % M = nx := by
        rw [hne]
        split <;> rcases hM with rfl | rfl <;> omega
      rw [e]
      exact ⟨h2.frI hf (by omega), h3.frI hf (by omega)⟩
    | succ i =>
      simp only [List.getElem?_cons_succ] at hu
      obtain ⟨a1, a2⟩ := e5 i u hu
      have e : (nx'.toNat + M - 1 - (i + 1)) % M = (nx + M - 1 - i) % M := by
        rw [hne]
        split <;> rcases hM with rfl | rfl <;> omega
      have hd : (nx + M - 1 - i) % M ≠ nx := by
        rcases hM with rfl | rfl <;> omega
      rw [e]
      exact ⟨(a1.frI h1.I (by omega)).frI hf (by omega), (a2.frI h1.I (by omega)).frI hf (by omega)⟩
theorem Ring.takeL {c M nx : Nat} {μ μ1 : xM} {un : List (Int → Int)} {T u : Int → Int} {nx' : Int} (hM : M = 2 ∨ M = 8) (e2 : un.length + 1 ≤ M) (e4 : nx < M) (e5 : RingAt μ c M nx (u :: un) T) (hf : ∀ (k : Nat) (j : Int), c + 2 ≤ k → k < c + 2 + 5 * M → μ1 k j = μ k j) (hn : nx' = if 0 < (nx : Int) then (nx : Int) - 1 else M - 1) (h2 : μ1 c 2 = nx') : Ring (xU μ1 c 1 un.length) c M un T := by
  refine ⟨by rw [xU_at2], by omega, nx'.toNat, ?_, ?_, fun i v hv => ?_⟩
  · rw [xU_nj (by omega), h2]
    split at hn <;> omega
  · split at hn <;> omega
  · have hi := (List.getElem?_eq_some_iff.mp hv).1
    have hne : nx'.toNat = if 0 < nx then nx - 1 else M - 1 := by
      split at hn
      · rw [if_pos (by omega)]; omega
      · rw [if_neg (by omega)]; omega
    have e : (nx'.toNat + M - 1 - i) % M = (nx + M - 1 - (i + 1)) % M := by
      rw [hne]
      split <;> rcases hM with rfl | rfl <;> omega
    have hl : (nx + M - 1 - (i + 1)) % M < M := Nat.mod_lt _ (by omega)
    obtain ⟨⟨a1, a2, a3, a4, a5⟩, a6⟩ := e5 (i + 1) v (by simpa using hv)
    rw [e]
    generalize hz : (nx + M - 1 - (i + 1)) % M = z at *
    refine ⟨⟨?_, ?_, fun j b1 b2 => ?_, fun j b1 b2 => ?_, fun j b1 b2 => ?_⟩, fun m b1 b2 => ?_⟩
    · rw [xU_nk (by omega), hf _ _ (by omega) (by omega), a1]
    · rw [xU_nk (by omega), hf _ _ (by omega) (by omega), a2]
    · rw [xU_nk (by omega), hf _ _ (by omega) (by omega), a3 j b1 b2]
    · rw [xU_nk (by omega), hf _ _ (by omega) (by omega), a4 j b1 b2]
    · rw [xU_nk (by omega), hf _ _ (by omega) (by omega), a5 j b1 b2]
    · rw [xU_nk (by omega), hf _ _ (by omega) (by omega), a6 m b1 b2]
/-- THE TEXT's letters; what is SEEN -/
def Tx (μ : xM) (nt : Int) (tx : Int → Int) : Prop := μ 1 1 = nt ∧ 0 ≤ nt ∧ nt ≤ 200 ∧ ∀ j : Int, 0 ≤ j → j < nt → μ 2 j = tx j ∧ 32 ≤ tx j ∧ tx j ≤ 126
def Sg (μ : xM) (T : Int → Int) (sl : List (Int × Int)) : Prop := μ 78 2 = (sl.length : Int) ∧ sl.length ≤ 6 ∧ ∀ (i : Nat) (q : Int × Int), sl[i]? = some q → μ 79 i = q.1 ∧ μ 80 i = q.2 ∧ 0 ≤ q.1 ∧ q.1 < T 3 ∧ 0 ≤ q.2 ∧ q.2 < T 0
theorem Tx.frI {lo hi : Nat} {μ μ' : xM} {nt : Int} {tx : Int → Int} (h : Tx μ nt tx) (hf : FrI lo hi μ μ') (hd : 3 ≤ lo) : Tx μ' nt tx := ⟨by rw [hf _ _ (by omega)]; exact h.1, h.2.1, h.2.2.1, fun j a b => by rw [hf _ _ (by omega)]; exact h.2.2.2 j a b⟩
theorem Sg.frI {lo hi : Nat} {μ μ' : xM} {T : Int → Int} {sl : List (Int × Int)} (h : Sg μ T sl) (hf : FrI lo hi μ μ') (hd : hi ≤ 78 ∨ 81 ≤ lo) : Sg μ' T sl := ⟨by rw [hf _ _ (by omega)]; exact h.1, h.2.1, fun i q hq => by rw [hf _ _ (by omega), hf _ _ (by omega)]; exact h.2.2 i q hq⟩
theorem Sg.add {μ : xM} {T : Int → Int} {sl : List (Int × Int)} {a b : Int} (h : Sg μ T sl) (hl : sl.length < 6) (ha : 0 ≤ a ∧ a < T 3) (hb : 0 ≤ b ∧ b < T 0) : Sg (xU (xU (xU μ 79 sl.length a) 80 sl.length b) 78 2 (sl.length + 1)) T (sl ++ [(a, b)]) := by
  refine ⟨by rw [xU_at2]; simp, by simp; omega, fun i q hq => ?_⟩
  by_cases hi : i < sl.length
  · rw [List.getElem?_append_left hi] at hq
    have := h.2.2 i q hq
    rw [xU_nk (by omega), xU_nk (by omega), xU_nj (by omega), xU_nk (by omega), xU_nj (by omega), xU_nk (by omega)]
    exact this
  · rw [List.getElem?_append_right (by omega)] at hq
    have hz : i - sl.length < 1 := by
      have := (List.getElem?_eq_some_iff.mp hq).1
      simpa using this
    have e : i = sl.length := by omega
    subst e
    rw [Nat.sub_self] at hq
    cases hq
    rw [xU_nk (by omega), xU_nk (by omega), xU_at2, xU_nk (by omega), xU_at2]
    exact ⟨rfl, rfl, ha.1, ha.2, hb.1, hb.2⟩
/-- the class's cells, and the reference's (from 81 on), as their constructors leave them -/
def xSC : List xS := [.inl (6, [some (some 1), some (some 3), some (some 12), some (some 14), some (some 19), some (some 24), some (some 66), some (some 78)]),
  .inl (5, [some (some 2), none]),
  .inr (.inl (true, 200)),
  .inl (1, [some (some 4), some (some 6), some (some 11), none, none]),
  .inl (0, [some (some 5), none, none, none, none]),
  .inr (.inl (false, 7)),
  .inl (4, [some (some 4), some (some 7), some (some 8), some (some 9), some (some 10), none, none]),
  .inr (.inl (false, 16)),
  .inr (.inl (false, 7)),
  .inr (.inl (false, 7)),
  .inr (.inl (false, 7)),
  .inr (.inl (false, 3)),
  .inl (0, [some (some 13), none, none, none, none]),
  .inr (.inl (false, 7)),
  .inl (4, [some (some 12), some (some 15), some (some 16), some (some 17), some (some 18), none, none]),
  .inr (.inl (false, 16)),
  .inr (.inl (false, 7)),
  .inr (.inl (false, 7)),
  .inr (.inl (false, 7)),
  .inl (4, [some (some 12), some (some 20), some (some 21), some (some 22), some (some 23), none, none]),
  .inr (.inl (false, 16)),
  .inr (.inl (false, 7)),
  .inr (.inl (false, 7)),
  .inr (.inl (false, 7)),
  .inl (2, [some (some 25), none, none]),
  .inr (.inr [some 26, some 31, some 36, some 41, some 46, some 51, some 56, some 61]),
  .inl (4, [some (some 12), some (some 27), some (some 28), some (some 29), some (some 30), none, none]),
  .inr (.inl (false, 16)),
  .inr (.inl (false, 7)),
  .inr (.inl (false, 7)),
  .inr (.inl (false, 7)),
  .inl (4, [some (some 12), some (some 32), some (some 33), some (some 34), some (some 35), none, none]),
  .inr (.inl (false, 16)),
  .inr (.inl (false, 7)),
  .inr (.inl (false, 7)),
  .inr (.inl (false, 7)),
  .inl (4, [some (some 12), some (some 37), some (some 38), some (some 39), some (some 40), none, none]),
  .inr (.inl (false, 16)),
  .inr (.inl (false, 7)),
  .inr (.inl (false, 7)),
  .inr (.inl (false, 7)),
  .inl (4, [some (some 12), some (some 42), some (some 43), some (some 44), some (some 45), none, none]),
  .inr (.inl (false, 16)),
  .inr (.inl (false, 7)),
  .inr (.inl (false, 7)),
  .inr (.inl (false, 7)),
  .inl (4, [some (some 12), some (some 47), some (some 48), some (some 49), some (some 50), none, none]),
  .inr (.inl (false, 16)),
  .inr (.inl (false, 7)),
  .inr (.inl (false, 7)),
  .inr (.inl (false, 7)),
  .inl (4, [some (some 12), some (some 52), some (some 53), some (some 54), some (some 55), none, none]),
  .inr (.inl (false, 16)),
  .inr (.inl (false, 7)),
  .inr (.inl (false, 7)),
  .inr (.inl (false, 7)),
  .inl (4, [some (some 12), some (some 57), some (some 58), some (some 59), some (some 60), none, none]),
  .inr (.inl (false, 16)),
  .inr (.inl (false, 7)),
  .inr (.inl (false, 7)),
  .inr (.inl (false, 7)),
  .inl (4, [some (some 12), some (some 62), some (some 63), some (some 64), some (some 65), none, none]),
  .inr (.inl (false, 16)),
  .inr (.inl (false, 7)),
  .inr (.inl (false, 7)),
  .inr (.inl (false, 7)),
  .inl (2, [some (some 67), none, none]),
  .inr (.inr [some 68, some 73]),
  .inl (4, [some (some 12), some (some 69), some (some 70), some (some 71), some (some 72), none, none]),
  .inr (.inl (false, 16)),
  .inr (.inl (false, 7)),
  .inr (.inl (false, 7)),
  .inr (.inl (false, 7)),
  .inl (4, [some (some 12), some (some 74), some (some 75), some (some 76), some (some 77), none, none]),
  .inr (.inl (false, 16)),
  .inr (.inl (false, 7)),
  .inr (.inl (false, 7)),
  .inr (.inl (false, 7)),
  .inl (3, [some (some 79), some (some 80), none]),
  .inr (.inl (false, 6)),
  .inr (.inl (false, 6))]
def xSM : List xS := [.inl (7, [none, some (some 82), some (some 83), some (some 84), none, some (some 85), some (some 86), some (some 87), some (some 88), none, some (some 89), none, some (some 90), none, none, some (some 91)]),
  .inr (.inl (false, 200)),
  .inr (.inl (false, 18)),
  .inr (.inl (false, 18)),
  .inr (.inl (false, 32)),
  .inr (.inl (false, 32)),
  .inr (.inl (false, 32)),
  .inr (.inl (false, 256)),
  .inr (.inl (false, 64)),
  .inr (.inl (false, 12)),
  .inr (.inl (false, 3))]
def xPre (S : List xS) : Prop := ∀ (k : Nat) (sh : xS), xSC[k]? = some sh → S[k]? = some sh
def xPreM (S : List xS) : Prop := ∀ (k : Nat) (sh : xS), xSM[k]? = some sh → S[81 + k]? = some sh
theorem sPl {S : List xS} (hP : xPre S) : xPln S 12 := ⟨hP 12 _ rfl, hP 13 _ rfl⟩
theorem sPlR {S : List xS} (hP : xPre S) : xPln S 4 := ⟨hP 4 _ rfl, hP 5 _ rfl⟩
theorem sNow {S : List xS} (hP : xPre S) : xStd S 14 12 := ⟨hP 14 _ rfl, hP 15 _ rfl, hP 16 _ rfl, hP 17 _ rfl, hP 18 _ rfl, sPl hP, by decide⟩
theorem sTri {S : List xS} (hP : xPre S) : xStd S 19 12 := ⟨hP 19 _ rfl, hP 20 _ rfl, hP 21 _ rfl, hP 22 _ rfl, hP 23 _ rfl, sPl hP, by decide⟩
theorem sRea {S : List xS} (hP : xPre S) : xStd S 6 4 := ⟨hP 6 _ rfl, hP 7 _ rfl, hP 8 _ rfl, hP 9 _ rfl, hP 10 _ rfl, sPlR hP, by decide⟩
theorem sUnd {S : List xS} (hP : xPre S) : xShf S 24 8 := by
  refine ⟨hP 24 _ rfl, hP 25 _ rfl, Or.inr rfl, fun i hi => ?_, by decide⟩
  have : i = 0 ∨ i = 1 ∨ i = 2 ∨ i = 3 ∨ i = 4 ∨ i = 5 ∨ i = 6 ∨ i = 7 := by omega
  rcases this with rfl | rfl | rfl | rfl | rfl | rfl | rfl | rfl <;> exact ⟨hP _ _ rfl, hP _ _ rfl, hP _ _ rfl, hP _ _ rfl, hP _ _ rfl, sPl hP, by decide⟩
theorem sKep {S : List xS} (hP : xPre S) : xShf S 66 2 := by
  refine ⟨hP 66 _ rfl, hP 67 _ rfl, Or.inl rfl, fun i hi => ?_, by decide⟩
  have : i = 0 ∨ i = 1 := by omega
  rcases this with rfl | rfl <;> exact ⟨hP _ _ rfl, hP _ _ rfl, hP _ _ rfl, hP _ _ rfl, hP _ _ rfl, sPl hP, by decide⟩
