/-! the class's whole state, and what each call answers and leaves -/
def WRow (T r : Int → Int) : Prop := WR T r ∧ 0 ≤ r 0 ∧ r 0 ≤ 999 ∧ ∀ j : Int, T 0 ≤ j → j < 16 → r (2 + j) = 0
def WF (T r : Int → Int) (un kp : List (Int → Int)) : Prop := WT T ∧ WRow T r ∧ (∀ u ∈ un, WRow T u) ∧ ∀ u ∈ kp, WRow T u
def RC (μ : xM) (T r : Int → Int) (nt : Int) (tx : Int → Int) (un kp : List (Int → Int)) (sl : List (Int × Int)) : Prop := Tx μ nt tx ∧ SA μ 14 12 T r ∧ Ring μ 24 8 un T ∧ Ring μ 66 2 kp T ∧ Sg μ T sl
section RCS
variable {μ μ1 μ2 : xM} {T r r' : Int → Int} {nt : Int} {tx : Int → Int} {un un' kp kp' : List (Int → Int)} {sl : List (Int × Int)}
theorem RC.scr {lo hi : Nat} (h : RC μ T r nt tx un kp sl) (hf : FrI lo hi μ μ1) (hd : (3 ≤ lo ∧ hi ≤ 12) ∨ (19 ≤ lo ∧ hi ≤ 24) ∨ 81 ≤ lo) : RC μ1 T r nt tx un kp sl :=
  ⟨h.1.frI hf (by omega), h.2.1.frI hf (by omega) (by omega), h.2.2.1.frI (Or.inr rfl) hf (by omega), h.2.2.2.1.frI (Or.inl rfl) hf (by omega), h.2.2.2.2.frI hf (by omega)⟩
theorem RC.act (h : RC μ T r nt tx un kp sl) (h1 : FrI 24 66 μ μ1) (h2 : Ring μ1 24 8 un' T) (h3 : FrI 14 19 μ1 μ2) (h4 : St μ2 14 r') (h5 : Gr μ2 14 T) : RC μ2 T r' nt tx un' kp sl ∧ FrI 0 81 μ μ2 :=
  ⟨⟨(h.1.frI h1 (by omega)).frI h3 (by omega), ⟨(h.2.1.1.frI h1 (by omega)).frI h3 (by omega), h5, h4⟩, h2.frI (Or.inr rfl) h3 (by omega), (h.2.2.2.1.frI (Or.inl rfl) h1 (by omega)).frI (Or.inl rfl) h3 (by omega), (h.2.2.2.2.frI h1 (by omega)).frI h3 (by omega)⟩, (h1.mono (by omega) (by omega)).tr (h3.mono (by omega) (by omega))⟩
theorem RC.take {c : Nat} (h : RC μ T r nt tx un kp sl) (hc : c = 24 ∨ c = 66) (h1 : ∀ (k : Nat) (j : Int), k ≠ c → (k < 14 ∨ 14 + 5 ≤ k) → μ1 k j = μ k j) (h2 : St μ1 14 r') (h3 : Gr μ1 14 T) (h4 : Ring μ1 24 8 un' T) (h5 : Ring μ1 66 2 kp' T) : RC μ1 T r' nt tx un' kp' sl ∧ FrI 0 81 μ μ1 := by
  obtain ⟨⟨a1, a2, a3, a4⟩, ⟨⟨b1, b2, b3, b4, b5⟩, -⟩, -, -, ⟨c1, c2, c3⟩⟩ := h
  refine ⟨⟨⟨by rw [h1 _ _ (by omega) (by omega)]; exact a1, a2, a3, fun j j0 j1 => by rw [h1 _ _ (by omega) (by omega)]; exact a4 j j0 j1⟩, ⟨⟨?_, ?_, ?_, ?_, fun m m0 m1 => ?_⟩, h3, h2⟩, h4, h5, ⟨by rw [h1 _ _ (by omega) (by omega)]; exact c1, c2, fun i q hq => by rw [h1 _ _ (by omega) (by omega), h1 _ _ (by omega) (by omega)]; exact c3 i q hq⟩⟩, fun k j hk => h1 k j (by omega) (by omega)⟩
  · rw [h1 _ _ (by omega) (by omega)]; exact b1
  · rw [h1 _ _ (by omega) (by omega)]; exact b2
  · rw [h1 _ _ (by omega) (by omega)]; exact b3
  · rw [h1 _ _ (by omega) (by omega)]; exact b4
  · rw [h1 _ _ (by omega) (by omega)]; exact b5 m m0 m1
theorem Ring.off {c M c2 : Nat} (hM : M = 2 ∨ M = 8) (h : Ring μ c M un T) (h1 : ∀ (k : Nat) (j : Int), k ≠ c2 → (k < 14 ∨ 14 + 5 ≤ k) → μ1 k j = μ k j) (hc : 19 ≤ c) (hd : c2 < c ∨ c + 2 + 5 * M ≤ c2) : Ring μ1 c M un T := by
  obtain ⟨e1, e2, nx, e3, e4, e5⟩ := h
  refine ⟨by rw [h1 _ _ (by omega) (by omega), e1], e2, nx, by rw [h1 _ _ (by omega) (by omega), e3], e4, fun i u hu => ?_⟩
  obtain ⟨⟨a1, a2, a3, a4, a5⟩, a6⟩ := e5 i u hu
  have hl : (nx + M - 1 - i) % M < M := Nat.mod_lt _ (by omega)
  generalize (nx + M - 1 - i) % M = z at *
  refine ⟨⟨?_, ?_, fun j b1 b2 => ?_, fun j b1 b2 => ?_, fun j b1 b2 => ?_⟩, fun m b1 b2 => ?_⟩
  · rw [h1 _ _ (by omega) (by omega), a1]
  · rw [h1 _ _ (by omega) (by omega), a2]
  · rw [h1 _ _ (by omega) (by omega), a3 j b1 b2]
  · rw [h1 _ _ (by omega) (by omega), a4 j b1 b2]
  · rw [h1 _ _ (by omega) (by omega), a5 j b1 b2]
  · rw [h1 _ _ (by omega) (by omega), a6 m b1 b2]
end RCS
def aWrite (nt c : Int) : Int := if 32 ≤ c ∧ c ≤ 126 then (if nt < 200 then nt + 1 else -3) else -1
def okWrite (nt c : Int) : Bool := decide (32 ≤ c ∧ c ≤ 126 ∧ nt < 200)
def aMin (T r : Int → Int) (m w : Int) : Int := if 0 ≤ m ∧ m < T 3 then (if w = 0 then T (4 + m) else if w = 1 then r (18 + m) else if w = 2 then T (11 + m) else if w = 3 then r (25 + m) else if w = 4 then (if 0 < lack T r m then 1 else 0) else -1) else -1
def aStep (T r : Int → Int) (x w : Int) : Int := if 0 ≤ x ∧ x < T 0 then (if w = 0 then r (2 + x) else if w = 1 then (if hsb (T 1) x = true then 1 else 0) else if w = 2 then (if hsb (T 2) x = true then 1 else 0) else if w = 3 then cnt r x (T 3).toNat else -1) else -1
def push (r : Int → Int) (un : List (Int → Int)) : List (Int → Int) := (r :: un).take 8
def okPass (r : Int → Int) (n : Int) : Prop := (1 ≤ n ∧ n ≤ 40) ∧ ¬ 999 < r 0 + n
def aPass (T r : Int → Int) (n : Int) : Int := if 1 ≤ n ∧ n ≤ 40 then (if 999 < r 0 + n then -2 else goYears T n.toNat r 0) else -1
def okWax (T r : Int → Int) (x : Int) : Prop := (0 ≤ x ∧ x < T 0) ∧ ¬ (9 ≤ r (2 + x) ∨ r 1 < 1)
def rWax (r : Int → Int) (x : Int) : Int → Int := waxBy (up r 1 (r 1 - 1)) x 1
def aWax (T r : Int → Int) (x : Int) : Int := if 0 ≤ x ∧ x < T 0 then (if 9 ≤ r (2 + x) ∨ r 1 < 1 then -2 else rWax r x (2 + x)) else -1
def okSand (T r : Int → Int) (x : Int) : Prop := (0 ≤ x ∧ x < T 0) ∧ ¬ (r (2 + x) = 0 ∨ r 1 < 2)
def rSand (r : Int → Int) (x : Int) : Int → Int := waxBy (up r 1 (r 1 - 2)) x (-2)
def aSand (T r : Int → Int) (x : Int) : Int := if 0 ≤ x ∧ x < T 0 then (if r (2 + x) = 0 ∨ r 1 < 2 then -2 else rSand r x (2 + x)) else -1
def okHelp (T r : Int → Int) (m : Int) : Prop := (0 ≤ m ∧ m < T 3) ∧ ¬ r (18 + m) = 0
def rHelp (r : Int → Int) (m : Int) : Int → Int := up r (18 + m) 0
def aHelp (T r : Int → Int) (m : Int) : Int := if 0 ≤ m ∧ m < T 3 then (if r (18 + m) = 0 then -2 else r (18 + m)) else -1
def aBehind (T r : Int → Int) (n m w : Int) : Int := if (0 ≤ n ∧ n ≤ 40) ∧ (0 ≤ m ∧ m < T 3) ∧ (0 ≤ w ∧ w ≤ 2) then (if w = 0 then goYears T n.toNat r (18 + m) else if w = 1 then gov T (goYears T n.toNat r) else goYears T n.toNat r (25 + m)) else -1
def aSlide (T r : Int → Int) (m : Int) : Int := if 0 ≤ m ∧ m < T 3 then goYear T r (18 + m) else -1
def topF (T : Int → Int) (m : Int) : Nat → Int → (Int → Int) → Int
  | 0, _, _ => -4
  | k + 1, n, r => if r (18 + m) = T 0 - 1 then n else topF T m k (n + 1) (goYear T r)
def aTop (T r : Int → Int) (m : Int) : Int := if 0 ≤ m ∧ m < T 3 then topF T m 41 0 r else -1
def toppleF (T r : Int → Int) (m : Int) : Nat → Int → Int
  | 0, _ => -4
  | k + 1, v => if r (2 + r (18 + m)) + v ≤ 9 then (if 0 < lack T (goN T (up r (2 + r (18 + m)) (r (2 + r (18 + m)) + v)) m.toNat) m then v else toppleF T r m k (v + 1)) else -4
def aTopple (T r : Int → Int) (m : Int) : Int := if 0 ≤ m ∧ m < T 3 then toppleF T r m 11 0 else -1
def govBy (T r : Int → Int) (m n x v : Int) : Prop := r (2 + x) + v ≤ 9 ∧ gov T (goYears T n.toNat (up r (2 + x) (r (2 + x) + v))) = m
/-- the first place from x on (k left) at which P holds -/
def firstX (P : Int → Bool) : Nat → Int → Int
  | 0, _ => -1
  | k + 1, x => if P x = true then x else firstX P k (x + 1)
/-- the first v from v on (k left), and the first place with it: v, place; v -1: none -/
def firstVX (P : Int → Int → Bool) (N : Nat) : Nat → Int → Int × Int
  | 0, _ => (-1, -1)
  | k + 1, v => if firstX (P v) N 0 = -1 then firstVX P N k (v + 1) else (v, firstX (P v) N 0)
def pick (p : Int × Int) (w : Int) : Int := if p.1 = -1 then -4 else if w = 0 then p.1 else p.2
def plotB (T r : Int → Int) (m n v x : Int) : Bool := decide (r (2 + x) + v ≤ 9) && decide (gov T (goYears T n.toNat (up r (2 + x) (r (2 + x) + v))) = m)
def aPlot (T r : Int → Int) (m n w : Int) : Int := if (0 ≤ m ∧ m < T 3) ∧ (1 ≤ n ∧ n ≤ 9) ∧ (0 ≤ w ∧ w ≤ 1) then (if plotB T r m n 0 0 = true then (if w = 0 then 0 else -4) else pick (firstVX (plotB T r m n) (T 0).toNat 9 1) w) else -1
/-- does g govern behind each of n YEARS -/
def holdsF (T : Int → Int) (g : Int) : Nat → (Int → Int) → Bool
  | 0, _ => true
  | k + 1, r => decide (gov T (goYear T r) = g) && holdsF T g k (goYear T r)
def holdB (T r : Int → Int) (n v x : Int) : Bool := holdsF T (gov T r) n.toNat (waxBy r x (-2 * v))
def aHold (T r : Int → Int) (n w : Int) : Int := if (1 ≤ n ∧ n ≤ 9) ∧ (0 ≤ w ∧ w ≤ 1) then (if holdB T r n 0 0 = true then (if w = 0 then 0 else -4) else pick (firstVX (holdB T r n) (T 0).toNat 5 1) w) else -1
/-- how many bits a set below 128 has -/
def popN : Nat → Nat → Int
  | 0, _ => 0
  | f + 1, k => ((k % 2 : Nat) : Int) + popN f (k / 2)
def pop (k : Int) : Int := popN 8 k.toNat
def cabF (T r : Int → Int) (all : Int) : Nat → Int
  | 0 => all
  | k + 1 => if wgt r all (T 3).toNat < 2 * wgt r (k : Int) (T 3).toNat ∧ pop (k : Int) < pop (cabF T r all k) then (k : Int) else cabF T r all k
def allSet (T : Int → Int) : Int := iShl 1 (T 3) - 1
def cab (T r : Int → Int) : Int := cabF T r (allSet T) (allSet T).toNat
def aCab (T r : Int → Int) (w : Int) : Int := if 0 ≤ w ∧ w ≤ 1 then (if w = 0 then pop (cab T r) else cab T r) else -1
def okSeen (T : Int → Int) (sl : List (Int × Int)) (m x : Int) : Prop := ((0 ≤ m ∧ m < T 3) ∧ (0 ≤ x ∧ x < T 0)) ∧ sl.length < 6
def aSeen (T : Int → Int) (sl : List (Int × Int)) (m x : Int) : Int := if (0 ≤ m ∧ m < T 3) ∧ (0 ≤ x ∧ x < T 0) then (if sl.length < 6 then sl.length + 1 else -3) else -1
def seenB (r : Int → Int) (sl : List (Int × Int)) : Bool := decide (∀ q ∈ sl, r (18 + q.1) = q.2)
/-- the bits of the values below k for which P holds -/
def bitsF (P : Int → Bool) : Nat → Int
  | 0 => 0
  | k + 1 => iOr (bitsF P k) (if P (k : Int) = true then iShl 1 k else 0)
def aWaxes (T r : Int → Int) (sl : List (Int × Int)) (x : Int) : Int := if 0 ≤ x ∧ x < T 0 then bitsF (fun w => seenB (goYear T (up r (2 + x) w)) sl) 10 else -1
def aGrips (T r : Int → Int) (sl : List (Int × Int)) (m : Int) : Int := if 0 ≤ m ∧ m < T 3 then bitsF (fun v => seenB (goYear (up T (11 + m) v) r) sl) 10 else -1
/-- n YEARS, ahead of each the WAX by the bits of a path -/
def pathF (T : Int → Int) (path : Int) : Nat → Nat → (Int → Int) → (Int → Int)
  | 0, _, r => r
  | k + 1, y, r => pathF T path k (y + 1) (goYear T (if hsb path y = true then waxBy r (r (18 + gov T r)) 2 else r))
def powI (b : Int) : Nat → Int
  | 0 => 1
  | k + 1 => powI b k * b
/-- the chance of a path -/
def chanceF (x path : Int) : Nat → Int
  | 0 => 1
  | k + 1 => chanceF x path k * (if hsb path k = true then x else 10 - x)
def aboveF (T r : Int → Int) (m x : Int) (n : Nat) : Nat → Int
  | 0 => 0
  | k + 1 => aboveF T r m x n k + (if gov T (pathF T k n 0 r) = m then chanceF x k n else 0)
def aLikely (T r : Int → Int) (m n x w : Int) : Int := if (0 ≤ m ∧ m < T 3) ∧ (0 ≤ n ∧ n ≤ 6) ∧ (0 ≤ x ∧ x ≤ 10) ∧ (0 ≤ w ∧ w ≤ 1) then (if w = 0 then aboveF T r m x n.toNat (2 ^ n.toNat) else powI 10 n.toNat) / (Int.gcd (aboveF T r m x n.toNat (2 ^ n.toNat)) (powI 10 n.toNat) : Int) else -1
def drawF (z y : Int) : Int := ((7919 * z + 6151 * y + 1) * (7919 * z + 6151 * y + 1) % 65521) / 2
/-- a CENTURY: who governs, how often another one did -/
def cenF (T : Int → Int) (z : Int) : Nat → Int → (Int → Int) → Int → Int → Int × Int
  | 0, _, _, g, c => (g, c)
  | k + 1, y, r, g, c => cenF T z k (y + 1) (goYear T (weath T r (drawF z y))) (gov T (goYear T (weath T r (drawF z y)))) (if gov T (goYear T (weath T r (drawF z y))) = g then c else c + 1)
def aCentury (T r : Int → Int) (z n w : Int) : Int := if (0 ≤ z ∧ z ≤ 9999) ∧ (1 ≤ n ∧ n ≤ 60) ∧ (0 ≤ w ∧ w ≤ 1) then (if w = 0 then (cenF T z n.toNat 0 r (gov T r) 0).1 else (cenF T z n.toNat 0 r (gov T r) 0).2) else -1
def aKeep (kp : List (Int → Int)) : Int := if 2 ≤ kp.length then -3 else kp.length + 1
def kKeep (r : Int → Int) (kp : List (Int → Int)) : List (Int → Int) := if 2 ≤ kp.length then kp else r :: kp
def aCount (T r : Int → Int) (nt : Int) (un kp : List (Int → Int)) (sl : List (Int × Int)) (w : Int) : Int := if w = 0 then T 3 else if w = 1 then T 0 else if w = 2 then r 0 else if w = 3 then r 1 else if w = 4 then sumW r (T 0).toNat else if w = 5 then sl.length else if w = 6 then un.length else if w = 7 then kp.length else if w = 8 then nt else -1
