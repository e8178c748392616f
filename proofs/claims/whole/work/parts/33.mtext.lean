/-- reading touches: what is read, the row read, the numbers, the mark of an item, the spot -/
def FrR (μ μ' : xM) : Prop := ∀ (k : Nat) (j : Int), k ≠ 84 → k ≠ 86 → k ≠ 91 → (k ≠ 81 ∨ (j ≠ 4 ∧ j ≠ 14)) → μ' k j = μ k j
theorem FrR.rf {μ : xM} : FrR μ μ := fun _ _ _ _ _ _ => rfl
theorem FrR.tr {μ μ1 μ2 : xM} (h : FrR μ μ1) (h2 : FrR μ1 μ2) : FrR μ μ2 := fun k j a b c d => (h2 k j a b c d).trans (h k j a b c d)
theorem FrR.K {μ μ1 μ2 : xM} (h : FrR μ μ1) (h2 : FrK 91 14 μ1 μ2) : FrR μ μ2 := fun k j a b c d => (h2 k j (by omega) (by omega)).trans (h k j a b c d)
theorem FrR.uc {μ μ1 : xM} {c : Nat} {j v : Int} (h : FrR μ μ1) (hc : c = 84 ∨ c = 86) : FrR μ (xU μ1 c j v) := fun k j' a b e d => (xU_nk (by omega)).trans (h k j' a b e d)
theorem FrR.us {μ μ1 : xM} {s v : Int} (h : FrR μ μ1) (hs : s = 4 ∨ s = 14) : FrR μ (xU μ1 81 s v) := fun k j' a b e d => by
  rcases d with d | d
  · rw [xU_nk d]; exact h k j' a b e (Or.inl d)
  · rw [xU_nj (by omega)]; exact h k j' a b e (Or.inr d)
theorem FrR.I {μ μ1 : xM} (h : FrR μ μ1) : FrI 81 92 μ μ1 := fun k j hk => h k j (by omega) (by omega) (by omega) (by omega)
theorem Txm.R {μ μ1 : xM} {nt : Int} {tx : Int → Int} (h : Txm μ nt tx) (hf : FrR μ μ1) : Txm μ1 nt tx := ⟨by rw [hf _ _ (by omega) (by omega) (by omega) (by omega)]; exact h.1, h.2.1, h.2.2.1, fun j a b => by rw [hf _ _ (by omega) (by omega) (by omega) (by omega)]; exact h.2.2.2 j a b⟩
theorem RM.R {μ μ1 : xM} {T r : Int → Int} {nt : Int} {tx : Int → Int} {un kp : List (Int → Int)} {sl : List (Int × Int)} (h : RM μ T r nt tx un kp sl) (hf : FrR μ μ1) : RM μ1 T r nt tx un kp sl := by
  obtain ⟨h1, ⟨⟨a1, a2, a3, a4⟩, a5⟩, h3, ⟨b1, b2, b3⟩, ⟨c1, c2, c3⟩, ⟨d1, d2, d3⟩⟩ := h
  refine ⟨h1.R hf, ⟨⟨?_, ?_, ?_, ?_⟩, fun m x y => ?_⟩, fun j x y => ?_, ⟨?_, b2, fun i u hu k x y => ?_⟩, ⟨?_, c2, fun i u hu k x y => ?_⟩, ⟨?_, d2, fun i q hq => ?_⟩⟩
  · rw [hf _ _ (by omega) (by omega) (by omega) (by omega)]; exact a1
  · rw [hf _ _ (by omega) (by omega) (by omega) (by omega)]; exact a2
  · rw [hf _ _ (by omega) (by omega) (by omega) (by omega)]; exact a3
  · rw [hf _ _ (by omega) (by omega) (by omega) (by omega)]; exact a4
  · rw [hf _ _ (by omega) (by omega) (by omega) (by omega), hf _ _ (by omega) (by omega) (by omega) (by omega)]; exact a5 m x y
  · rw [hf _ _ (by omega) (by omega) (by omega) (by omega)]; exact h3 j x y
  · rw [hf _ _ (by omega) (by omega) (by omega) (by omega)]; exact b1
  · rw [hf _ _ (by omega) (by omega) (by omega) (by omega)]; exact b3 i u hu k x y
  · rw [hf _ _ (by omega) (by omega) (by omega) (by omega)]; exact c1
  · rw [hf _ _ (by omega) (by omega) (by omega) (by omega)]; exact c3 i u hu k x y
  · rw [hf _ _ (by omega) (by omega) (by omega) (by omega)]; exact d1
  · rw [hf _ _ (by omega) (by omega) (by omega) (by omega), hf _ _ (by omega) (by omega) (by omega) (by omega)]; exact d3 i q hq
theorem TT.R {μ μ1 : xM} {c : Nat} {s : Int} {T : Int → Int} {k : Nat} (h : TT μ c T) (hf : FrK k s μ μ1) (hc : c ≠ k ∧ c ≠ 81) : TT μ1 c T := h.K hf hc
theorem TT.up3 {μ : xM} {c : Nat} {T : Int → Int} {j v : Int} (h : TT μ c T) (hj : 0 ≤ j ∧ j ≤ 2) : TT (xU μ c j v) c (up T j v) := by
  obtain ⟨⟨a1, a2, a3, a4⟩, h5⟩ := h
  refine ⟨⟨?_, ?_, ?_, ?_⟩, fun m x y => ?_⟩
  · by_cases z : j = 0
    · subst z; rw [xU_at2, up_at]
    · rw [xU_nj (by omega), up_ne (by omega), a1]
  · by_cases z : j = 1
    · subst z; rw [xU_at2, up_at]
    · rw [xU_nj (by omega), up_ne (by omega), a2]
  · by_cases z : j = 2
    · subst z; rw [xU_at2, up_at]
    · rw [xU_nj (by omega), up_ne (by omega), a3]
  · rw [xU_nj (by omega), up_ne (by omega), a4]
  · rw [up_ne (by omega)] at y
    rw [xU_nj (by omega), xU_nj (by omega), up_ne (by omega), up_ne (by omega)]
    exact h5 m x y
theorem TT.off {μ : xM} {c k : Nat} {T : Int → Int} {j v : Int} (h : TT μ c T) (hk : c ≠ k) : TT (xU μ k j v) c T := by
  obtain ⟨⟨a1, a2, a3, a4⟩, h5⟩ := h
  exact ⟨⟨by rw [xU_nk hk, a1], by rw [xU_nk hk, a2], by rw [xU_nk hk, a3], by rw [xU_nk hk, a4]⟩, fun m x y => by rw [xU_nk hk, xU_nk hk]; exact h5 m x y⟩
theorem Rw.off {μ : xM} {c k : Nat} {r : Int → Int} {j v : Int} (h : Rw μ c r) (hk : c ≠ k) : Rw (xU μ k j v) c r := fun i a b => by rw [xU_nk hk]; exact h i a b
theorem TT.min {μ : xM} {T : Int → Int} {v0 v1 v2 p : Int} (h : TT μ 84 T) (h3 : 0 ≤ T 3 ∧ T 3 < 7) : TT (xU (xU (xU (xU μ 84 (4 + T 3) v0) 84 (11 + T 3) v2) 86 p v1) 84 3 (T 3 + 1)) 84 (up (up (up T (4 + T 3) v0) (11 + T 3) v2) 3 (T 3 + 1)) := by
  obtain ⟨⟨a1, a2, a3, a4⟩, h5⟩ := h
  refine ⟨⟨?_, ?_, ?_, ?_⟩, fun m x y => ?_⟩
  · rw [xU_nj (by omega), xU_nk (by omega), xU_nj (by omega), xU_nj (by omega), up_ne (by omega), up_ne (by omega), up_ne (by omega), a1]
  · rw [xU_nj (by omega), xU_nk (by omega), xU_nj (by omega), xU_nj (by omega), up_ne (by omega), up_ne (by omega), up_ne (by omega), a2]
  · rw [xU_nj (by omega), xU_nk (by omega), xU_nj (by omega), xU_nj (by omega), up_ne (by omega), up_ne (by omega), up_ne (by omega), a3]
  · rw [xU_at2, up_at]
  · rw [up_at] at y
    by_cases hm : m = T 3
    · subst hm
      refine ⟨?_, ?_⟩
      · rw [xU_nj (by omega), xU_nk (by omega), xU_nj (by omega), xU_at2, up_ne (by omega), up_ne (by omega), up_at]
      · rw [xU_nj (by omega), xU_nk (by omega), xU_at2, up_ne (by omega), up_at]
    · have z := h5 m x (by omega)
      refine ⟨?_, ?_⟩
      · rw [xU_nj (by omega), xU_nk (by omega), xU_nj (by omega), xU_nj (by omega), up_ne (by omega), up_ne (by omega), up_ne (by omega)]; exact z.1
      · rw [xU_nj (by omega), xU_nk (by omega), xU_nj (by omega), xU_nj (by omega), up_ne (by omega), up_ne (by omega), up_ne (by omega)]; exact z.2
/-- figures, up to three -/
def NG (d : Int → Int) (q f v : Int) : Prop := NF d q f v ∨ (f = 3 ∧ isD (d q) ∧ isD (d (q + 1)) ∧ isD (d (q + 2)) ∧ 0 ≤ v ∧ v ≤ 999)
theorem NG.rg {d : Int → Int} {q f v : Int} (h : NG d q f v) : 0 ≤ f ∧ f ≤ 3 ∧ 0 ≤ v ∧ v ≤ 999 := by
  rcases h with h | h
  · have := h.rg; omega
  · omega
theorem NG.st {d : Int → Int} {q f v : Int} (h : NG d q f v) (hf : f < 3) (hD : isD (d (q + f))) : NG d q (f + 1) (10 * v + d (q + f) - 48) := by
  rcases h with h | h
  · by_cases h2 : f = 2
    · have r := h.rg
      rcases h with ⟨rfl, -⟩ | ⟨rfl, -⟩ | ⟨-, k1, k2, k3⟩
      · omega
      · omega
      · subst h2
        exact Or.inr ⟨rfl, k1, k2, hD, by omega, by omega⟩
    · exact Or.inl (h.st (by have := h.rg; omega) hD)
  · omega
theorem NG.en {d : Int → Int} {q f v : Int} (h : NG d q f v) (hD : ¬ isD (d (q + f)) ∨ 3 ≤ f) : nf d q = f ∧ (1 ≤ f ∧ f ≤ 2 → nv d q = v ∧ 0 ≤ v ∧ v ≤ 99) := by
  rcases h with h | ⟨rfl, h1, h2, h3, h4⟩
  · have r := h.rg
    have z := h.en (hD.resolve_right (by omega))
    exact ⟨z.1, fun y => ⟨z.2 (by omega), by omega, by omega⟩⟩
  · exact ⟨by rw [nf, if_pos h1, if_pos h2, if_pos h3], fun y => by omega⟩
abbrev okN (d : Int → Int) (q many : Int) : Prop := (rdN d 3 q 0).1 ≠ -4 ∧ (rdN d 3 q 0).2 = many
theorem rdN_cnt {d : Int → Int} : ∀ (k : Nat) (q c : Int), (rdN d k q c).1 ≠ -4 → c + 1 ≤ (rdN d k q c).2
  | 0, _, _, h => absurd rfl h
  | k + 1, q, c, h => by
    rw [rdN] at h ⊢
    split at h
    · split at h
      · rename_i a b; rw [if_pos a, if_pos b]; exact Int.le_refl _
      · split at h
        · rename_i a b e; rw [if_pos a, if_neg b, if_pos e]; have := rdN_cnt k _ _ h; omega
        · exact absurd rfl h
    · exact absurd rfl h
/-- k numbers are read from q0 on; behind them is q -/
def NI (d : Int → Int) (q0 many k q : Int) : Prop := (0 ≤ k ∧ k < many ∧ rdN d (3 - k).toNat q k = rdN d 3 q0 0) ∨ (k = many ∧ rdN d 3 q0 0 = (q, many))
theorem NI.st {d : Int → Int} {q0 many k q : Int} (h : NI d q0 many k q) (hk : k < many) (hm : many ≤ 3) (h1 : oneN d q) (h2 : d (q + nf d q) = if k < many - 1 then 44 else 59) : NI d q0 many (k + 1) (nx d q) := by
  rcases h with ⟨a, b, e⟩ | ⟨a, b⟩
  · rw [show (3 - k).toNat = (3 - (k + 1)).toNat + 1 by omega] at e
    by_cases z : k < many - 1
    · rw [if_pos z] at h2
      rw [rdN_c h1 h2] at e
      exact Or.inl ⟨by omega, by omega, e⟩
    · rw [if_neg z] at h2
      rw [rdN_s h1 h2] at e
      exact Or.inr ⟨by omega, by rw [← e, show k + 1 = many by omega]⟩
  · omega
theorem NI.no {d : Int → Int} {q0 many k q : Int} (h : NI d q0 many k q) (hk : k < many) (hm : many ≤ 3) (h1 : ¬ (oneN d q ∧ d (q + nf d q) = if k < many - 1 then 44 else 59)) : ¬ okN d q0 many := by
  rcases h with ⟨a, b, e⟩ | ⟨a, b⟩
  · unfold okN
    rw [← e]
    by_cases z1 : oneN d q
    · by_cases z2 : d (q + nf d q) = 59
      · rw [show (3 - k).toNat = (3 - (k + 1)).toNat + 1 by omega, rdN_s z1 z2]
        by_cases z : k < many - 1
        · intro y; have y2 : k + 1 = many := y.2; omega
        · exact absurd ⟨z1, by rw [if_neg z]; exact z2⟩ h1
      · by_cases z3 : d (q + nf d q) = 44
        · rw [show (3 - k).toNat = (3 - (k + 1)).toNat + 1 by omega, rdN_c z1 z3]
          by_cases z : k < many - 1
          · exact absurd ⟨z1, by rw [if_pos z]; exact z3⟩ h1
          · intro y; have := rdN_cnt _ _ _ y.1; omega
        · rw [rdN_b z2 z3] ; exact fun y => absurd rfl y.1
    · intro y; exact y.1 (rdN_a z1)
  · omega
theorem dch_lt {nt p : Int} {tx : Int → Int} (h : dch nt tx p ≠ 0) : 0 ≤ p ∧ p < nt := by
  unfold dch at h
  by_cases z : 0 ≤ p ∧ p < nt
  · exact z
  · rw [if_neg z] at h; exact absurd rfl h
theorem dch_rg {μ : xM} {nt p : Int} {tx : Int → Int} (h : Txm μ nt tx) : 0 ≤ dch nt tx p ∧ dch nt tx p ≤ 126 := by
  unfold dch
  split
  · rename_i z; have := h.2.2.2 p z.1 z.2; omega
  · omega
theorem VL.rg {d : Int → Int} {q0 q : Int} {a : Int → Int} {c : Int} (h : VL d q0 a c q) : (1 ≤ c → a 0 = nv d q0 ∧ 0 ≤ a 0 ∧ a 0 ≤ 99) ∧ (2 ≤ c → a 1 = nv d (nx d q0) ∧ 0 ≤ a 1 ∧ a 1 ≤ 99) ∧ (3 ≤ c → a 2 = nv d (nx d (nx d q0)) ∧ 0 ≤ a 2 ∧ a 2 ≤ 99) := by
  rcases h with ⟨rfl, -⟩ | ⟨rfl, -, b0⟩ | ⟨rfl, -, b0, b1⟩ | ⟨rfl, -, b0, b1, b2⟩
  · exact ⟨fun z => absurd z (by omega), fun z => absurd z (by omega), fun z => absurd z (by omega)⟩
  · exact ⟨fun z => b0, fun z => absurd z (by omega), fun z => absurd z (by omega)⟩
  · exact ⟨fun z => b0, fun z => b1, fun z => absurd z (by omega)⟩
  · exact ⟨fun z => b0, fun z => b1, fun z => b2⟩
set_option maxRecDepth 100000 in
set_option maxHeartbeats 4000000 in
theorem m_letterAt {g : xG} {l : Launch} {S : List xS} {μ : xM} {nt : Int} {tx : Int → Int} {k : Int} (hM : xPreM S) (hX : Txm μ nt tx) (hk : 0 ≤ k ∧ k ≤ 1000) : xCt g l yX7_letterAt cX7_letterAt 2 (some .int) 0 0 0 0 [vR g 81, vI k] S μ S (xI (fun a μ' => a = dch nt tx k ∧ μ' = μ)) := by
  refine x_enter (by decide) (Nat.le_of_ble_eq_true rfl) ?_
  intro zp ze zs zm za zb zh zc hC hz0
  obtain ⟨e1, e2, e3, e4⟩ := hX
  refine x_iload_n (pc' := 1) hC dX7_letterAt_0 rfl rfl ?_
  refine x_aload_n (pc' := 2) hC dX7_letterAt_1 rfl rfl ?_
  refine x_getI (j' := 0) (pc' := 5) hC kf_X7_62 dX7_letterAt_2 (hM 0 _ rfl) rfl rfl rfl ?_
  rw [e1]
  refine x_icmp_ge (tgt := 17) (pc' := 8) hC dX7_letterAt_5 (by decide) rfl (by omega) (by omega) (fun c5 => ?_) (fun c5 => ?_)
  · refine x_iconst (pc' := 18) hC dX7_letterAt_17 rfl ?_
    exact x_iret hC dX7_letterAt_18 (xI.mk ⟨by unfold dch; first | rw [if_pos (by omega)] | rw [if_neg (by omega)], rfl⟩)
  · refine x_aload_n (pc' := 9) hC dX7_letterAt_8 rfl rfl ?_
    refine x_getR (pc' := 12) (b := 82) hC kf_X7_7 dX7_letterAt_9 (hM 0 _ rfl) rfl rfl ?_
    refine x_iload_n (pc' := 13) hC dX7_letterAt_12 rfl rfl ?_
    refine x_iald (pc' := 14) hC dX7_letterAt_13 (hM 1 _ rfl) (by omega) (by decide) rfl ?_
    rw [(e4 k (by omega) (by omega)).1]
    refine x_goto (tgt := 18) hC dX7_letterAt_14 (by decide) ?_
    exact x_iret hC dX7_letterAt_18 (xI.mk ⟨by unfold dch; first | rw [if_pos (by omega)] | rw [if_neg (by omega)], rfl⟩)
set_option maxRecDepth 100000 in
set_option maxHeartbeats 4000000 in
theorem m_numbers {g : xG} {l : Launch} {S : List xS} {μ : xM} {nt : Int} {tx : Int → Int} {q0 many : Int} (hM : xPreM S) (hX : Txm μ nt tx) (hq : μ 81 14 = q0) (h0 : 0 ≤ q0 ∧ q0 ≤ nt) (hm : 1 ≤ many ∧ many ≤ 3) : xCt g l yX7_numbers cX7_numbers 5 (some .boolean) 1 25 0 0 [vR g 81, vI many] S μ S (xI (fun a μ' => a = (if okN (dch nt tx) q0 many then 1 else 0) ∧ FrK 91 14 μ μ' ∧ (okN (dch nt tx) q0 many → μ' 81 14 = (rdN (dch nt tx) 3 q0 0).1 ∧ VL (dch nt tx) q0 (μ' 91) many (rdN (dch nt tx) 3 q0 0).1 ∧ q0 ≤ (rdN (dch nt tx) 3 q0 0).1 ∧ (rdN (dch nt tx) 3 q0 0).1 ≤ nt))) := by
  refine x_enter (by decide) (Nat.le_of_ble_eq_true rfl) ?_
  intro zp ze zs zm za zb zh zc hC hz0
  have n1 := hX.2.2.1
  have outer : ∀ (zn : Nat) (k : Nat) (i q : Int) (μ1 : xM) (hi : i = k) (hk : (k : Int) ≤ many) (hs : μ1 81 14 = q) (hqr : q0 ≤ q ∧ q ≤ nt) (h1 : FrK 91 14 μ μ1) (hI : NI (dch nt tx) q0 many k q) (hV : VL (dch nt tx) q0 (μ1 91) k q), many.toNat - k < zn → xX g 5 zp l ze { frames := 1, cells := 0, slots := 0, locals := 25 } zs zm za zb zh zc 0 0 (MQ zb (xQ g S (xI (fun a μ' => a = (if okN (dch nt tx) q0 many then 1 else 0) ∧ FrK 91 14 μ μ' ∧ (okN (dch nt tx) q0 many → μ' 81 14 = (rdN (dch nt tx) 3 q0 0).1 ∧ VL (dch nt tx) q0 (μ' 91) many (rdN (dch nt tx) 3 q0 0).1 ∧ q0 ≤ (rdN (dch nt tx) 3 q0 0).1 ∧ (rdN (dch nt tx) 3 q0 0).1 ≤ nt)))) za zs 0 0 (xA0 g)) S μ1 2 [some (vR g 81), some (vI many), some (vI i), none, none] [] := by
    intro zn
    induction zn with
    | zero => intros; rename_i hz; exact absurd hz (Nat.not_lt_zero _)
    | succ zn ih9 =>
      intro k i q μ1 hi hk hs hqr h1 hI hV hn
      subst hi
      have inner : ∀ (zn : Nat) (f v p : Int) (μ2 : xM) (hp : p = q + f) (hs2 : μ2 81 14 = p) (hpr : p ≤ nt) (h2 : FrK 91 14 μ μ2) (hG : NG (dch nt tx) q f v) (hV1 : VL (dch nt tx) q0 (μ2 91) k q) (hkm : (k : Int) < many), (nt - p).toNat < zn → xX g 5 zp l ze { frames := 1, cells := 0, slots := 0, locals := 25 } zs zm za zb zh zc 0 0 (MQ zb (xQ g S (xI (fun a μ' => a = (if okN (dch nt tx) q0 many then 1 else 0) ∧ FrK 91 14 μ μ' ∧ (okN (dch nt tx) q0 many → μ' 81 14 = (rdN (dch nt tx) 3 q0 0).1 ∧ VL (dch nt tx) q0 (μ' 91) many (rdN (dch nt tx) 3 q0 0).1 ∧ q0 ≤ (rdN (dch nt tx) 3 q0 0).1 ∧ (rdN (dch nt tx) 3 q0 0).1 ≤ nt)))) za zs 0 0 (xA0 g)) S μ2 12 [some (vR g 81), some (vI many), some (vI (k : Int)), some (vI f), some (vI v)] [] := by
        intro zn
        induction zn with
        | zero => intros; rename_i hz; exact absurd hz (Nat.not_lt_zero _)
        | succ zn ih =>
          intro f v p μ2 hp hs2 hpr h2 hG hV1 hkm hn
          have hr := hG.rg
          have h1X := hX.K h2 (by omega)
          have dr := dch_rg (p := p) hX
          have dl := @dch_lt nt p tx
          have done : ∀  (hE : ¬ isD (dch nt tx p) ∨ 3 ≤ f), xX g 5 zp l ze { frames := 1, cells := 0, slots := 0, locals := 25 } zs zm za zb zh zc 0 0 (MQ zb (xQ g S (xI (fun a μ' => a = (if okN (dch nt tx) q0 many then 1 else 0) ∧ FrK 91 14 μ μ' ∧ (okN (dch nt tx) q0 many → μ' 81 14 = (rdN (dch nt tx) 3 q0 0).1 ∧ VL (dch nt tx) q0 (μ' 91) many (rdN (dch nt tx) 3 q0 0).1 ∧ q0 ≤ (rdN (dch nt tx) 3 q0 0).1 ∧ (rdN (dch nt tx) 3 q0 0).1 ≤ nt)))) za zs 0 0 (xA0 g)) S μ2 73 [some (vR g 81), some (vI many), some (vI (k : Int)), some (vI f), some (vI v)] [] := by
            intro hE
            have hz := hG.en (by rw [← hp]; exact hE)
            have sep : ∀ (e : Int) (he : e = if (k : Int) < many - 1 then 44 else 59) (hf12 : 1 ≤ f ∧ f ≤ 2), xX g 5 zp l ze { frames := 1, cells := 0, slots := 0, locals := 25 } zs zm za zb zh zc 0 0 (MQ zb (xQ g S (xI (fun a μ' => a = (if okN (dch nt tx) q0 many then 1 else 0) ∧ FrK 91 14 μ μ' ∧ (okN (dch nt tx) q0 many → μ' 81 14 = (rdN (dch nt tx) 3 q0 0).1 ∧ VL (dch nt tx) q0 (μ' 91) many (rdN (dch nt tx) 3 q0 0).1 ∧ q0 ≤ (rdN (dch nt tx) 3 q0 0).1 ∧ (rdN (dch nt tx) 3 q0 0).1 ≤ nt)))) za zs 0 0 (xA0 g)) S μ2 107 [some (vR g 81), some (vI many), some (vI (k : Int)), some (vI f), some (vI v)] [vI e, vI (dch nt tx p)] := by
              intro e he hf12
              have her : e = 44 ∨ e = 59 := by rw [he]; split; exact Or.inl rfl; exact Or.inr rfl
              refine x_icmp_eq (tgt := 112) (pc' := 110) hC dX7_numbers_107 (by decide) rfl (by omega) (by omega) (fun c107 => ?_) (fun c107 => ?_)
              · have o1 : oneN (dch nt tx) q := by unfold oneN; rw [hz.1]; exact hf12
                have hz2 := hz.2 hf12
                have hI2 := hI.st (by omega) (by omega) o1 (by rw [hz.1, ← hp, ← he]; exact c107)
                have e1 : p + 1 = nx (dch nt tx) q := by unfold nx; rw [hz.1, hp]
                have hpl := dl (by omega)
                have hV2 : VL (dch nt tx) q0 (xU (xU μ2 91 (k : Int) v) 81 14 (p + 1) 91) ((k + 1 : Nat) : Int) (nx (dch nt tx) q) := by
                     rw [show ((k + 1 : Nat) : Int) = (k : Int) + 1 by omega]
                     exact hV1.st (by omega) (by rw [xU_nk (by omega), xU_at2]) hz2.1 (by omega) (fun j hj => by rw [xU_nk (by omega), xU_nj hj])
                refine x_aload_n (pc' := 113) hC dX7_numbers_112 rfl rfl ?_
                refine x_getR (pc' := 116) (b := 91) hC kf_X7_37 dX7_numbers_113 (hM 0 _ rfl) rfl rfl ?_
                refine x_iload_n (pc' := 117) hC dX7_numbers_116 rfl rfl ?_
                refine x_iload (pc' := 119) hC dX7_numbers_117 rfl rfl ?_
                refine x_iast (pc' := 120) hC dX7_numbers_119 (hM 10 _ rfl) (by omega) (by omega) rfl ?_
                refine x_aload_n (pc' := 121) hC dX7_numbers_120 rfl rfl ?_
                refine x_dup (pc' := 122) hC dX7_numbers_121 rfl rfl ?_
                refine x_getI (j' := 14) (pc' := 125) hC kf_X7_66 dX7_numbers_122 (hM 0 _ rfl) rfl rfl rfl ?_
                rw [xU_nk (by omega), hs2]
                refine x_iconst (pc' := 126) hC dX7_numbers_125 rfl ?_
                refine x_iadd (pc' := 127) hC dX7_numbers_126 rfl ?_
                refine x_putI (j' := 14) (pc' := 130) hC kf_X7_66 dX7_numbers_127 (hM 0 _ rfl) rfl rfl rfl rfl rfl ?_
                refine x_iinc (pc' := 133) hC dX7_numbers_130 rfl (by decide) rfl rfl ?_
                refine x_goto (tgt := 2) hC dX7_numbers_133 (by decide) ?_
                refine x_vs (vs' := [some (vR g 81), some (vI many), some (vI ((k : Int) + 1)), none, none]) (by intro i v; match i with | 0 => exact id | 1 => exact id | 2 => exact id | 3 => (intro h; cases h) | 4 => (intro h; cases h) | i + 5 => (intro h; cases h)) ?_
                exact ih9 (k + 1) _ _ _ (by omega) (by omega) (by rw [xU_at2]; exact e1) (by have z := nf_rg (d := dch nt tx) (p := q); unfold nx; omega) h2.uc.us hI2 hV2 (by omega)
              · refine x_iconst (pc' := 111) hC dX7_numbers_110 rfl ?_
                exact x_zret hC dX7_numbers_111 (by first | exact Or.inl rfl | exact Or.inr rfl | omega) (xI.mk ⟨(if_neg (by
      first
      | exact hI.no (by omega) (by omega) (fun z => c82 (by have y := z.1; unfold oneN at y; rw [hz.1] at y; exact y))
      | exact hI.no (by omega) (by omega) (fun z => c107 (by have y := z.2; rw [hz.1, ← hp] at y; rw [y, he])))).symm, h2, fun z => absurd z (by
      first
      | exact hI.no (by omega) (by omega) (fun z => c82 (by have y := z.1; unfold oneN at y; rw [hz.1] at y; exact y))
      | exact hI.no (by omega) (by omega) (fun z => c107 (by have y := z.2; rw [hz.1, ← hp] at y; rw [y, he])))⟩)
            refine x_iload_n (pc' := 74) hC dX7_numbers_73 rfl rfl ?_
            refine x_i2l (pc' := 75) hC dX7_numbers_74 (by omega) rfl ?_
            refine x_lconst (pc' := 76) (a := 1) hC dX7_numbers_75 (by decide) rfl ?_
            refine x_ldc2 (pc' := 79) (a := 2) hC kc_X7_77 dX7_numbers_76 (by decide) rfl ?_
            refine x_callS (pc' := 82) (n := 3) hC (m_in (by omega) (by omega) (by omega)) ky_X7_in ks_X7_in kl_X7_58 dX7_numbers_79 rfl rfl ⟨Nat.le_of_ble_eq_true rfl, Nat.le_of_ble_eq_true rfl⟩ (Nat.le_of_ble_eq_true rfl) ⟨Nat.le_refl _, Nat.le_refl _⟩ (Or.inl rfl) rfl (x_kd ?_)
            refine x_ifb_eq (tgt := 110) (pc' := 85) hC dX7_numbers_82 (by decide) rfl (fun c82 => ?_) (fun c82 => ?_)
            · refine x_iconst (pc' := 111) hC dX7_numbers_110 rfl ?_
              exact x_zret hC dX7_numbers_111 (by first | exact Or.inl rfl | exact Or.inr rfl | omega) (xI.mk ⟨(if_neg (by
      first
      | exact hI.no (by omega) (by omega) (fun z => c82 (by have y := z.1; unfold oneN at y; rw [hz.1] at y; exact y))
      | exact hI.no (by omega) (by omega) (fun z => c107 (by have y := z.2; rw [hz.1, ← hp] at y; rw [y, he])))).symm, h2, fun z => absurd z (by
      first
      | exact hI.no (by omega) (by omega) (fun z => c82 (by have y := z.1; unfold oneN at y; rw [hz.1] at y; exact y))
      | exact hI.no (by omega) (by omega) (fun z => c107 (by have y := z.2; rw [hz.1, ← hp] at y; rw [y, he])))⟩)
            · refine x_aload_n (pc' := 86) hC dX7_numbers_85 rfl rfl ?_
              refine x_aload_n (pc' := 87) hC dX7_numbers_86 rfl rfl ?_
              refine x_getI (j' := 14) (pc' := 90) hC kf_X7_66 dX7_numbers_87 (hM 0 _ rfl) rfl rfl rfl ?_
              rw [hs2]
              refine x_callV (pc' := 93) (n := 1) hC (m_letterAt (k := p) hM h1X (by omega)) ky_X7_letterAt kv_X7_letterAt kl_X7_69 dX7_numbers_90 (hM 0 _ rfl) rfl rfl rfl rfl ⟨Nat.le_of_ble_eq_true rfl, Nat.le_of_ble_eq_true rfl⟩ (Nat.le_of_ble_eq_true rfl) ⟨Nat.le_refl _, Nat.le_refl _⟩ (Or.inl rfl) rfl (x_kd ?_)
              refine x_iload_n (pc' := 94) hC dX7_numbers_93 rfl rfl ?_
              refine x_iload_n (pc' := 95) hC dX7_numbers_94 rfl rfl ?_
              refine x_iconst (pc' := 96) hC dX7_numbers_95 rfl ?_
              refine x_isub (pc' := 97) hC dX7_numbers_96 rfl ?_
              refine x_icmp_ge (tgt := 105) (pc' := 100) hC dX7_numbers_97 (by decide) rfl (by omega) (by omega) (fun c97 => ?_) (fun c97 => ?_)
              · refine x_bipush (pc' := 107) hC dX7_numbers_105 (by decide) rfl ?_
                first | exact sep _ (by rw [if_neg (by omega)]) c82 | exact sep _ (by rw [if_pos (by omega)]) c82
              · refine x_bipush (pc' := 102) hC dX7_numbers_100 (by decide) rfl ?_
                refine x_goto (tgt := 107) hC dX7_numbers_102 (by decide) ?_
                first | exact sep _ (by rw [if_neg (by omega)]) c82 | exact sep _ (by rw [if_pos (by omega)]) c82
          refine x_aload_n (pc' := 13) hC dX7_numbers_12 rfl rfl ?_
          refine x_aload_n (pc' := 14) hC dX7_numbers_13 rfl rfl ?_
          refine x_getI (j' := 14) (pc' := 17) hC kf_X7_66 dX7_numbers_14 (hM 0 _ rfl) rfl rfl rfl ?_
          rw [hs2]
          refine x_callV (pc' := 20) (n := 1) hC (m_letterAt (k := p) hM h1X (by omega)) ky_X7_letterAt kv_X7_letterAt kl_X7_69 dX7_numbers_17 (hM 0 _ rfl) rfl rfl rfl rfl ⟨Nat.le_of_ble_eq_true rfl, Nat.le_of_ble_eq_true rfl⟩ (Nat.le_of_ble_eq_true rfl) ⟨Nat.le_refl _, Nat.le_refl _⟩ (Or.inl rfl) rfl (x_kd ?_)
          refine x_i2l (pc' := 21) hC dX7_numbers_20 (by omega) rfl ?_
          refine x_ldc2 (pc' := 24) (a := 48) hC kc_X7_73 dX7_numbers_21 (by decide) rfl ?_
          refine x_ldc2 (pc' := 27) (a := 57) hC kc_X7_75 dX7_numbers_24 (by decide) rfl ?_
          refine x_callS (pc' := 30) (n := 3) hC (m_in (by omega) (by omega) (by omega)) ky_X7_in ks_X7_in kl_X7_58 dX7_numbers_27 rfl rfl ⟨Nat.le_of_ble_eq_true rfl, Nat.le_of_ble_eq_true rfl⟩ (Nat.le_of_ble_eq_true rfl) ⟨Nat.le_refl _, Nat.le_refl _⟩ (Or.inl rfl) rfl (x_kd ?_)
          refine x_ifb_eq (tgt := 73) (pc' := 33) hC dX7_numbers_30 (by decide) rfl (fun c30 => ?_) (fun c30 => ?_)
          · first | exact done (Or.inl c30) | exact done (Or.inr (by omega))
          · refine x_iload_n (pc' := 34) hC dX7_numbers_33 rfl rfl ?_
            refine x_iconst (pc' := 35) hC dX7_numbers_34 rfl ?_
            refine x_icmp_ge (tgt := 73) (pc' := 38) hC dX7_numbers_35 (by decide) rfl (by omega) (by omega) (fun c35 => ?_) (fun c35 => ?_)
            · first | exact done (Or.inl c30) | exact done (Or.inr (by omega))
            · refine x_bipush (pc' := 40) hC dX7_numbers_38 (by decide) rfl ?_
              refine x_iload (pc' := 42) hC dX7_numbers_40 rfl rfl ?_
              refine x_imul (pc' := 43) hC dX7_numbers_42 rfl ?_
              refine x_aload_n (pc' := 44) hC dX7_numbers_43 rfl rfl ?_
              refine x_aload_n (pc' := 45) hC dX7_numbers_44 rfl rfl ?_
              refine x_getI (j' := 14) (pc' := 48) hC kf_X7_66 dX7_numbers_45 (hM 0 _ rfl) rfl rfl rfl ?_
              rw [hs2]
              refine x_callV (pc' := 51) (n := 1) hC (m_letterAt (k := p) hM h1X (by omega)) ky_X7_letterAt kv_X7_letterAt kl_X7_69 dX7_numbers_48 (hM 0 _ rfl) rfl rfl rfl rfl ⟨Nat.le_of_ble_eq_true rfl, Nat.le_of_ble_eq_true rfl⟩ (Nat.le_of_ble_eq_true rfl) ⟨Nat.le_refl _, Nat.le_refl _⟩ (Or.inl rfl) rfl (x_kd ?_)
              refine x_iadd (pc' := 52) hC dX7_numbers_51 rfl ?_
              refine x_bipush (pc' := 54) hC dX7_numbers_52 (by decide) rfl ?_
              refine x_isub (pc' := 55) hC dX7_numbers_54 rfl ?_
              refine x_istore (pc' := 57) hC dX7_numbers_55 (by decide) rfl rfl ?_
              refine x_iinc (pc' := 60) hC dX7_numbers_57 rfl (by decide) rfl rfl ?_
              refine x_aload_n (pc' := 61) hC dX7_numbers_60 rfl rfl ?_
              refine x_dup (pc' := 62) hC dX7_numbers_61 rfl rfl ?_
              refine x_getI (j' := 14) (pc' := 65) hC kf_X7_66 dX7_numbers_62 (hM 0 _ rfl) rfl rfl rfl ?_
              rw [hs2]
              refine x_iconst (pc' := 66) hC dX7_numbers_65 rfl ?_
              refine x_iadd (pc' := 67) hC dX7_numbers_66 rfl ?_
              refine x_putI (j' := 14) (pc' := 70) hC kf_X7_66 dX7_numbers_67 (hM 0 _ rfl) rfl rfl rfl rfl rfl ?_
              refine x_goto (tgt := 12) hC dX7_numbers_70 (by decide) ?_
              exact ih (f + 1) _ (p + 1) _ (by omega) (by rw [xU_at2]) (by have := dl (by omega); omega) h2.us (by have z := hG.st (by omega) (by rw [← hp]; exact c30); rw [← hp] at z; exact z) (by rw [show xU μ2 81 14 (p + 1) 91 = μ2 91 from funext fun j => xU_nk (by omega)]; exact hV1) hkm (by have := dl (by omega); omega)
      refine x_iload_n (pc' := 3) hC dX7_numbers_2 rfl rfl ?_
      refine x_iload_n (pc' := 4) hC dX7_numbers_3 rfl rfl ?_
      refine x_icmp_ge (tgt := 136) (pc' := 7) hC dX7_numbers_4 (by decide) rfl (by omega) (by omega) (fun c4 => ?_) (fun c4 => ?_)
      · refine x_iconst (pc' := 137) hC dX7_numbers_136 rfl ?_
        exact x_zret hC dX7_numbers_137 (by first | exact Or.inl rfl | exact Or.inr rfl | omega) (xI.mk (by
      have km : (k : Int) = many := by omega
      rcases hI with z | z
      · omega
      · have z1 : (rdN (dch nt tx) 3 q0 0).1 = q := by rw [z.2]
        have z2 : (rdN (dch nt tx) 3 q0 0).2 = many := by rw [z.2]
        exact ⟨(if_pos ⟨by rw [z1]; omega, z2⟩).symm, h1, fun _ => ⟨by rw [z1]; exact hs, by rw [z1, ← km]; exact hV, by rw [z1]; exact hqr.1, by rw [z1]; exact hqr.2⟩⟩))
      · refine x_iconst (pc' := 8) hC dX7_numbers_7 rfl ?_
        refine x_istore_n (pc' := 9) hC dX7_numbers_8 (by decide) rfl rfl ?_
        refine x_iconst (pc' := 10) hC dX7_numbers_9 rfl ?_
        refine x_istore (pc' := 12) hC dX7_numbers_10 (by decide) rfl rfl ?_
        exact inner (nt.toNat + 1) 0 0 _ _ (by omega) hs (by omega) h1 (Or.inl (Or.inl ⟨rfl, rfl⟩)) hV (by omega) (by omega)
  refine x_iconst (pc' := 1) hC dX7_numbers_0 rfl ?_
  refine x_istore_n (pc' := 2) hC dX7_numbers_1 (by decide) rfl rfl ?_
  refine x_vs (vs' := [some (vR g 81), some (vI many), some (vI 0), none, none]) (by intro i v; match i with | 0 => exact id | 1 => exact id | 2 => exact id | 3 => (intro h; cases h) | 4 => (intro h; cases h) | i + 5 => (intro h; cases h)) ?_
  exact outer (many.toNat + 1) 0 _ q0 _ rfl (by omega) hq (by omega) FrK_rf (Or.inl ⟨by omega, by omega, rfl⟩) (Or.inl ⟨rfl, rfl⟩) (by omega)
set_option maxRecDepth 100000 in
set_option maxHeartbeats 4000000 in
theorem m_minItem {g : xG} {l : Launch} {S : List xS} {μ : xM} {nt : Int} {tx : Int → Int} {T r : Int → Int} {os q : Int} (hM : xPreM S) (hX : Txm μ nt tx) (hQ : PT T r os) (hTT : TT μ 84 T) (hRr : Rw μ 86 r) (hs : μ 81 14 = q) (hq : 0 ≤ q ∧ q ≤ nt) : xCt g l yX7_ministerItem cX7_ministerItem 2 (some .boolean) 2 49 0 0 [vR g 81] S μ S (xI (fun a μ' => a = (if okN (dch nt tx) q 3 ∧ T 3 < 7 ∧ nv (dch nt tx) q ≤ 3 ∧ nv (dch nt tx) (nx (dch nt tx) q) < T 0 ∧ nv (dch nt tx) (nx (dch nt tx) (nx (dch nt tx) q)) ≤ 9 then 1 else 0) ∧ FrR μ μ' ∧ μ' 81 4 = μ 81 4 ∧ (okN (dch nt tx) q 3 ∧ T 3 < 7 ∧ nv (dch nt tx) q ≤ 3 ∧ nv (dch nt tx) (nx (dch nt tx) q) < T 0 ∧ nv (dch nt tx) (nx (dch nt tx) (nx (dch nt tx) q)) ≤ 9 → TT μ' 84 (up (up (up T (4 + T 3) (nv (dch nt tx) q)) (11 + T 3) (nv (dch nt tx) (nx (dch nt tx) (nx (dch nt tx) q)))) 3 (T 3 + 1)) ∧ Rw μ' 86 (up r (18 + T 3) (nv (dch nt tx) (nx (dch nt tx) q))) ∧ μ' 81 14 = (rdN (dch nt tx) 3 q 0).1 ∧ (rdN (dch nt tx) 3 q 0).1 ≤ nt ∧ q ≤ (rdN (dch nt tx) 3 q 0).1 ∧ (0 ≤ nv (dch nt tx) q ∧ nv (dch nt tx) q ≤ 99) ∧ 0 ≤ nv (dch nt tx) (nx (dch nt tx) q) ∧ 0 ≤ nv (dch nt tx) (nx (dch nt tx) (nx (dch nt tx) q))))) := by
  refine x_enter (by decide) (Nat.le_of_ble_eq_true rfl) ?_
  intro zp ze zs zm za zb zh zc hC hz0
  obtain ⟨q1, q2, q3, q4, q5, q6, q7, q8, q9⟩ := hQ
  have n1 := hX.2.2.1
  have t3 := hTT.1.2.2.2
  refine x_aload_n (pc' := 1) hC dX7_ministerItem_0 rfl rfl ?_
  refine x_getR (pc' := 4) (b := 84) hC kf_X7_16 dX7_ministerItem_1 (hM 0 _ rfl) rfl rfl ?_
  refine x_iconst (pc' := 5) hC dX7_ministerItem_4 rfl ?_
  refine x_iald (pc' := 6) hC dX7_ministerItem_5 (hM 3 _ rfl) (by omega) (by decide) rfl ?_
  rw [t3]
  refine x_istore_n (pc' := 7) hC dX7_ministerItem_6 (by decide) rfl rfl ?_
  refine x_aload_n (pc' := 8) hC dX7_ministerItem_7 rfl rfl ?_
  refine x_iconst (pc' := 9) hC dX7_ministerItem_8 rfl ?_
  refine x_callV (pc' := 12) (n := 1) hC (m_numbers hM hX hs hq (by omega)) ky_X7_numbers kv_X7_numbers kl_X7_79 dX7_ministerItem_9 (hM 0 _ rfl) rfl rfl rfl rfl ⟨Nat.le_of_ble_eq_true rfl, Nat.le_of_ble_eq_true rfl⟩ (Nat.le_of_ble_eq_true rfl) ⟨Nat.le_refl _, Nat.le_refl _⟩ (Or.inl rfl) rfl (x_kv (fun μ9 h9 => ?_))
  refine x_ifb_eq (tgt := 57) (pc' := 15) hC dX7_ministerItem_12 (by decide) rfl (fun c12 => ?_) (fun c12 => ?_)
  · refine x_iconst (pc' := 58) hC dX7_ministerItem_57 rfl ?_
    exact x_zret hC dX7_ministerItem_58 (by first | exact Or.inl rfl | exact Or.inr rfl | omega) (xI.mk (by
      have no : ¬ (okN (dch nt tx) q 3 ∧ T 3 < 7 ∧ nv (dch nt tx) q ≤ 3 ∧ nv (dch nt tx) (nx (dch nt tx) q) < T 0 ∧ nv (dch nt tx) (nx (dch nt tx) (nx (dch nt tx) q)) ≤ 9) := fun z => by first | exact c12 z.1 | omega
      exact ⟨(if_neg no).symm, FrR.rf.K h9.1, h9.1 _ _ (by omega) (by omega), fun z => absurd z no⟩))
  · obtain ⟨b1, b2, b3, b4⟩ := h9.2 c12
    obtain ⟨w0, w1, w2⟩ := b2.rg
    have w0 := w0 (by omega)
    have w1 := w1 (by omega)
    have w2 := w2 (by omega)
    have hT1 := hTT.K h9.1 (by omega)
    have hR1 := hRr.K h9.1 (by omega)
    refine x_iload_n (pc' := 16) hC dX7_ministerItem_15 rfl rfl ?_
    refine x_bipush (pc' := 18) hC dX7_ministerItem_16 (by decide) rfl ?_
    refine x_icmp_eq (tgt := 57) (pc' := 21) hC dX7_ministerItem_18 (by decide) rfl (by omega) (by omega) (fun c18 => ?_) (fun c18 => ?_)
    · refine x_iconst (pc' := 58) hC dX7_ministerItem_57 rfl ?_
      exact x_zret hC dX7_ministerItem_58 (by first | exact Or.inl rfl | exact Or.inr rfl | omega) (xI.mk (by
      have no : ¬ (okN (dch nt tx) q 3 ∧ T 3 < 7 ∧ nv (dch nt tx) q ≤ 3 ∧ nv (dch nt tx) (nx (dch nt tx) q) < T 0 ∧ nv (dch nt tx) (nx (dch nt tx) (nx (dch nt tx) q)) ≤ 9) := fun z => by first | exact c12 z.1 | omega
      exact ⟨(if_neg no).symm, FrR.rf.K h9.1, h9.1 _ _ (by omega) (by omega), fun z => absurd z no⟩))
    · refine x_aload_n (pc' := 22) hC dX7_ministerItem_21 rfl rfl ?_
      refine x_getR (pc' := 25) (b := 91) hC kf_X7_37 dX7_ministerItem_22 (hM 0 _ rfl) rfl rfl ?_
      refine x_iconst (pc' := 26) hC dX7_ministerItem_25 rfl ?_
      refine x_iald (pc' := 27) hC dX7_ministerItem_26 (hM 10 _ rfl) (by omega) (by decide) rfl ?_
      rw [w0.1]
      refine x_iconst (pc' := 28) hC dX7_ministerItem_27 rfl ?_
      refine x_icmp_gt (tgt := 57) (pc' := 31) hC dX7_ministerItem_28 (by decide) rfl (by omega) (by omega) (fun c28 => ?_) (fun c28 => ?_)
      · refine x_iconst (pc' := 58) hC dX7_ministerItem_57 rfl ?_
        exact x_zret hC dX7_ministerItem_58 (by first | exact Or.inl rfl | exact Or.inr rfl | omega) (xI.mk (by
      have no : ¬ (okN (dch nt tx) q 3 ∧ T 3 < 7 ∧ nv (dch nt tx) q ≤ 3 ∧ nv (dch nt tx) (nx (dch nt tx) q) < T 0 ∧ nv (dch nt tx) (nx (dch nt tx) (nx (dch nt tx) q)) ≤ 9) := fun z => by first | exact c12 z.1 | omega
      exact ⟨(if_neg no).symm, FrR.rf.K h9.1, h9.1 _ _ (by omega) (by omega), fun z => absurd z no⟩))
      · refine x_aload_n (pc' := 32) hC dX7_ministerItem_31 rfl rfl ?_
        refine x_getR (pc' := 35) (b := 91) hC kf_X7_37 dX7_ministerItem_32 (hM 0 _ rfl) rfl rfl ?_
        refine x_iconst (pc' := 36) hC dX7_ministerItem_35 rfl ?_
        refine x_iald (pc' := 37) hC dX7_ministerItem_36 (hM 10 _ rfl) (by omega) (by decide) rfl ?_
        rw [w1.1]
        refine x_aload_n (pc' := 38) hC dX7_ministerItem_37 rfl rfl ?_
        refine x_getR (pc' := 41) (b := 84) hC kf_X7_16 dX7_ministerItem_38 (hM 0 _ rfl) rfl rfl ?_
        refine x_iconst (pc' := 42) hC dX7_ministerItem_41 rfl ?_
        refine x_iald (pc' := 43) hC dX7_ministerItem_42 (hM 3 _ rfl) (by omega) (by decide) rfl ?_
        rw [hT1.1.1]
        refine x_icmp_ge (tgt := 57) (pc' := 46) hC dX7_ministerItem_43 (by decide) rfl (by omega) (by omega) (fun c43 => ?_) (fun c43 => ?_)
        · refine x_iconst (pc' := 58) hC dX7_ministerItem_57 rfl ?_
          exact x_zret hC dX7_ministerItem_58 (by first | exact Or.inl rfl | exact Or.inr rfl | omega) (xI.mk (by
      have no : ¬ (okN (dch nt tx) q 3 ∧ T 3 < 7 ∧ nv (dch nt tx) q ≤ 3 ∧ nv (dch nt tx) (nx (dch nt tx) q) < T 0 ∧ nv (dch nt tx) (nx (dch nt tx) (nx (dch nt tx) q)) ≤ 9) := fun z => by first | exact c12 z.1 | omega
      exact ⟨(if_neg no).symm, FrR.rf.K h9.1, h9.1 _ _ (by omega) (by omega), fun z => absurd z no⟩))
        · refine x_aload_n (pc' := 47) hC dX7_ministerItem_46 rfl rfl ?_
          refine x_getR (pc' := 50) (b := 91) hC kf_X7_37 dX7_ministerItem_47 (hM 0 _ rfl) rfl rfl ?_
          refine x_iconst (pc' := 51) hC dX7_ministerItem_50 rfl ?_
          refine x_iald (pc' := 52) hC dX7_ministerItem_51 (hM 10 _ rfl) (by omega) (by decide) rfl ?_
          rw [w2.1]
          refine x_bipush (pc' := 54) hC dX7_ministerItem_52 (by decide) rfl ?_
          refine x_icmp_le (tgt := 59) (pc' := 57) hC dX7_ministerItem_54 (by decide) rfl (by omega) (by omega) (fun c54 => ?_) (fun c54 => ?_)
          · refine x_aload_n (pc' := 60) hC dX7_ministerItem_59 rfl rfl ?_
            refine x_getR (pc' := 63) (b := 84) hC kf_X7_16 dX7_ministerItem_60 (hM 0 _ rfl) rfl rfl ?_
            refine x_iconst (pc' := 64) hC dX7_ministerItem_63 rfl ?_
            refine x_iload_n (pc' := 65) hC dX7_ministerItem_64 rfl rfl ?_
            refine x_iadd (pc' := 66) hC dX7_ministerItem_65 rfl ?_
            refine x_aload_n (pc' := 67) hC dX7_ministerItem_66 rfl rfl ?_
            refine x_getR (pc' := 70) (b := 91) hC kf_X7_37 dX7_ministerItem_67 (hM 0 _ rfl) rfl rfl ?_
            refine x_iconst (pc' := 71) hC dX7_ministerItem_70 rfl ?_
            refine x_iald (pc' := 72) hC dX7_ministerItem_71 (hM 10 _ rfl) (by omega) (by decide) rfl ?_
            rw [w0.1]
            refine x_iast (pc' := 73) hC dX7_ministerItem_72 (hM 3 _ rfl) (by omega) (by omega) rfl ?_
            refine x_aload_n (pc' := 74) hC dX7_ministerItem_73 rfl rfl ?_
            refine x_getR (pc' := 77) (b := 84) hC kf_X7_16 dX7_ministerItem_74 (hM 0 _ rfl) rfl rfl ?_
            refine x_bipush (pc' := 79) hC dX7_ministerItem_77 (by decide) rfl ?_
            refine x_iload_n (pc' := 80) hC dX7_ministerItem_79 rfl rfl ?_
            refine x_iadd (pc' := 81) hC dX7_ministerItem_80 rfl ?_
            refine x_aload_n (pc' := 82) hC dX7_ministerItem_81 rfl rfl ?_
            refine x_getR (pc' := 85) (b := 91) hC kf_X7_37 dX7_ministerItem_82 (hM 0 _ rfl) rfl rfl ?_
            refine x_iconst (pc' := 86) hC dX7_ministerItem_85 rfl ?_
            refine x_iald (pc' := 87) hC dX7_ministerItem_86 (hM 10 _ rfl) (by omega) (by decide) rfl ?_
            rw [xU_nk (by omega), w2.1]
            refine x_iast (pc' := 88) hC dX7_ministerItem_87 (hM 3 _ rfl) (by omega) (by omega) rfl ?_
            refine x_aload_n (pc' := 89) hC dX7_ministerItem_88 rfl rfl ?_
            refine x_getR (pc' := 92) (b := 86) hC kf_X7_22 dX7_ministerItem_89 (hM 0 _ rfl) rfl rfl ?_
            refine x_bipush (pc' := 94) hC dX7_ministerItem_92 (by decide) rfl ?_
            refine x_iload_n (pc' := 95) hC dX7_ministerItem_94 rfl rfl ?_
            refine x_iadd (pc' := 96) hC dX7_ministerItem_95 rfl ?_
            refine x_aload_n (pc' := 97) hC dX7_ministerItem_96 rfl rfl ?_
            refine x_getR (pc' := 100) (b := 91) hC kf_X7_37 dX7_ministerItem_97 (hM 0 _ rfl) rfl rfl ?_
            refine x_iconst (pc' := 101) hC dX7_ministerItem_100 rfl ?_
            refine x_iald (pc' := 102) hC dX7_ministerItem_101 (hM 10 _ rfl) (by omega) (by decide) rfl ?_
            rw [xU_nk (by omega), xU_nk (by omega), w1.1]
            refine x_iast (pc' := 103) hC dX7_ministerItem_102 (hM 5 _ rfl) (by omega) (by omega) rfl ?_
            refine x_aload_n (pc' := 104) hC dX7_ministerItem_103 rfl rfl ?_
            refine x_getR (pc' := 107) (b := 84) hC kf_X7_16 dX7_ministerItem_104 (hM 0 _ rfl) rfl rfl ?_
            refine x_iconst (pc' := 108) hC dX7_ministerItem_107 rfl ?_
            refine x_dup2 (pc' := 109) hC dX7_ministerItem_108 rfl rfl rfl ?_
            refine x_iald (pc' := 110) hC dX7_ministerItem_109 (hM 3 _ rfl) (by omega) (by decide) rfl ?_
            rw [xU_nk (by omega), xU_nj (by omega), xU_nj (by omega), hT1.1.2.2.2]
            refine x_iconst (pc' := 111) hC dX7_ministerItem_110 rfl ?_
            refine x_iadd (pc' := 112) hC dX7_ministerItem_111 rfl ?_
            refine x_iast (pc' := 113) hC dX7_ministerItem_112 (hM 3 _ rfl) (by omega) (by omega) rfl ?_
            refine x_iconst (pc' := 114) hC dX7_ministerItem_113 rfl ?_
            exact x_zret hC dX7_ministerItem_114 (by first | exact Or.inl rfl | exact Or.inr rfl | omega) (xI.mk (by
      have ok : okN (dch nt tx) q 3 ∧ T 3 < 7 ∧ nv (dch nt tx) q ≤ 3 ∧ nv (dch nt tx) (nx (dch nt tx) q) < T 0 ∧ nv (dch nt tx) (nx (dch nt tx) (nx (dch nt tx) q)) ≤ 9 := ⟨c12, by omega, by omega, by omega, by omega⟩
      refine ⟨(if_pos ok).symm, ((((FrR.rf.K h9.1).uc (Or.inl rfl)).uc (Or.inl rfl)).uc (Or.inr rfl)).uc (Or.inl rfl), ?_, fun _ => ⟨hT1.min (by omega), ((hR1.off (by omega)).off (by omega)).u.off (by omega), ?_, b4, b3, by omega, by omega, by omega⟩⟩
      · rw [xU_nk (by omega), xU_nk (by omega), xU_nk (by omega), xU_nk (by omega)]; exact h9.1 _ _ (by omega) (by omega)
      · rw [xU_nk (by omega), xU_nk (by omega), xU_nk (by omega), xU_nk (by omega)]; exact b1))
          · refine x_iconst (pc' := 58) hC dX7_ministerItem_57 rfl ?_
            exact x_zret hC dX7_ministerItem_58 (by first | exact Or.inl rfl | exact Or.inr rfl | omega) (xI.mk (by
      have no : ¬ (okN (dch nt tx) q 3 ∧ T 3 < 7 ∧ nv (dch nt tx) q ≤ 3 ∧ nv (dch nt tx) (nx (dch nt tx) q) < T 0 ∧ nv (dch nt tx) (nx (dch nt tx) (nx (dch nt tx) q)) ≤ 9) := fun z => by first | exact c12 z.1 | omega
      exact ⟨(if_neg no).symm, FrR.rf.K h9.1, h9.1 _ _ (by omega) (by omega), fun z => absurd z no⟩))
set_option maxRecDepth 100000 in
set_option maxHeartbeats 4000000 in
theorem m_item {g : xG} {l : Launch} {S : List xS} {μ : xM} {nt : Int} {tx : Int → Int} {T r : Int → Int} {os p : Int} (hM : xPreM S) (hX : Txm μ nt tx) (hQ : PT T r os) (hTT : TT μ 84 T) (hRr : Rw μ 86 r) (hs : μ 81 14 = p) (hp : 0 ≤ p ∧ p < nt) (ho : μ 81 4 = 1 - os) (hos : os = 0 ∨ os = 1) : xCt g l yX7_item cX7_item 3 (some .boolean) 3 70 0 0 [vR g 81] S μ S (xI (fun a μ' => a = (if (rdN (dch nt tx) 3 (p + 1) 0).1 ≠ -4 ∧ tkOk (dch nt tx p) (rdN (dch nt tx) 3 (p + 1) 0).2 (nv (dch nt tx) (p + 1)) (nv (dch nt tx) (nx (dch nt tx) (p + 1))) (nv (dch nt tx) (nx (dch nt tx) (nx (dch nt tx) (p + 1)))) T os then 1 else 0) ∧ FrR μ μ' ∧ ((rdN (dch nt tx) 3 (p + 1) 0).1 ≠ -4 ∧ tkOk (dch nt tx p) (rdN (dch nt tx) 3 (p + 1) 0).2 (nv (dch nt tx) (p + 1)) (nv (dch nt tx) (nx (dch nt tx) (p + 1))) (nv (dch nt tx) (nx (dch nt tx) (nx (dch nt tx) (p + 1)))) T os → TT μ' 84 (tkT (dch nt tx p) (nv (dch nt tx) (p + 1)) (nv (dch nt tx) (nx (dch nt tx) (nx (dch nt tx) (p + 1)))) T) ∧ Rw μ' 86 (tkR (dch nt tx p) (nv (dch nt tx) (p + 1)) (nv (dch nt tx) (nx (dch nt tx) (p + 1))) T r) ∧ μ' 81 14 = (rdN (dch nt tx) 3 (p + 1) 0).1 ∧ (rdN (dch nt tx) 3 (p + 1) 0).1 ≤ nt ∧ p < (rdN (dch nt tx) 3 (p + 1) 0).1 ∧ μ' 81 4 = 1 - tkS (dch nt tx p) os))) := by
  refine x_enter (by decide) (Nat.le_of_ble_eq_true rfl) ?_
  intro zp ze zs zm za zb zh zc hC hz0
  obtain ⟨q1, q2, q3, q4, q5, q6, q7, q8, q9⟩ := hQ
  have n1 := hX.2.2.1
  have dr := dch_rg (p := p) hX
  have well : ∀ (a9 : Int) (μ9 : xM) (d9 : dch nt tx p = 115) (h9 : FrK 91 14 (xU μ 81 14 (p + 1)) μ9) (a01 : a9 = 0 ∨ a9 = 1) (ha : a9 = 1 ↔ ((rdN (dch nt tx) 3 (p + 1) 0).1 ≠ -4 ∧ tkOk (dch nt tx p) (rdN (dch nt tx) 3 (p + 1) 0).2 (nv (dch nt tx) (p + 1)) (nv (dch nt tx) (nx (dch nt tx) (p + 1))) (nv (dch nt tx) (nx (dch nt tx) (nx (dch nt tx) (p + 1)))) T os)) (hk : a9 = 1 → μ9 81 14 = (rdN (dch nt tx) 3 (p + 1) 0).1 ∧ (rdN (dch nt tx) 3 (p + 1) 0).1 ≤ nt ∧ p < (rdN (dch nt tx) 3 (p + 1) 0).1 ∧ μ9 91 0 = nv (dch nt tx) (p + 1)), xX g 3 zp l ze { frames := 3, cells := 0, slots := 0, locals := 70 } zs zm za zb zh zc 0 0 (MQ zb (xQ g S (xI (fun a μ' => a = (if (rdN (dch nt tx) 3 (p + 1) 0).1 ≠ -4 ∧ tkOk (dch nt tx p) (rdN (dch nt tx) 3 (p + 1) 0).2 (nv (dch nt tx) (p + 1)) (nv (dch nt tx) (nx (dch nt tx) (p + 1))) (nv (dch nt tx) (nx (dch nt tx) (nx (dch nt tx) (p + 1)))) T os then 1 else 0) ∧ FrR μ μ' ∧ ((rdN (dch nt tx) 3 (p + 1) 0).1 ≠ -4 ∧ tkOk (dch nt tx p) (rdN (dch nt tx) 3 (p + 1) 0).2 (nv (dch nt tx) (p + 1)) (nv (dch nt tx) (nx (dch nt tx) (p + 1))) (nv (dch nt tx) (nx (dch nt tx) (nx (dch nt tx) (p + 1)))) T os → TT μ' 84 (tkT (dch nt tx p) (nv (dch nt tx) (p + 1)) (nv (dch nt tx) (nx (dch nt tx) (nx (dch nt tx) (p + 1)))) T) ∧ Rw μ' 86 (tkR (dch nt tx p) (nv (dch nt tx) (p + 1)) (nv (dch nt tx) (nx (dch nt tx) (p + 1))) T r) ∧ μ' 81 14 = (rdN (dch nt tx) 3 (p + 1) 0).1 ∧ (rdN (dch nt tx) 3 (p + 1) 0).1 ≤ nt ∧ p < (rdN (dch nt tx) 3 (p + 1) 0).1 ∧ μ' 81 4 = 1 - tkS (dch nt tx p) os)))) za zs 0 0 (xA0 g)) S μ9 64 [some (vR g 81), some (vI (dch nt tx p)), none] [vI a9] := by
    intro a9 μ9 d9 h9 a01 ha hk
    refine x_istore_n (pc' := 65) hC dX7_item_64 (by decide) rfl rfl ?_
    refine x_aload_n (pc' := 66) hC dX7_item_65 rfl rfl ?_
    refine x_getR (pc' := 69) (b := 84) hC kf_X7_16 dX7_item_66 (hM 0 _ rfl) rfl rfl ?_
    refine x_iconst (pc' := 70) hC dX7_item_69 rfl ?_
    refine x_aload_n (pc' := 71) hC dX7_item_70 rfl rfl ?_
    refine x_getR (pc' := 74) (b := 91) hC kf_X7_37 dX7_item_71 (hM 0 _ rfl) rfl rfl ?_
    refine x_iconst (pc' := 75) hC dX7_item_74 rfl ?_
    refine x_iald (pc' := 76) hC dX7_item_75 (hM 10 _ rfl) (by omega) (by decide) rfl ?_
    refine x_iast (pc' := 77) hC dX7_item_76 (hM 3 _ rfl) (by omega) (by omega) rfl ?_
    refine x_iload_n (pc' := 78) hC dX7_item_77 rfl rfl ?_
    exact x_zret hC dX7_item_78 a01 (xI.mk (by
      have e1 : tkT (dch nt tx p) (nv (dch nt tx) (p + 1)) (nv (dch nt tx) (nx (dch nt tx) (nx (dch nt tx) (p + 1)))) T = up T 0 (nv (dch nt tx) (p + 1)) := by unfold tkT; exact if_pos (by omega)
      have e2 : tkR (dch nt tx p) (nv (dch nt tx) (p + 1)) (nv (dch nt tx) (nx (dch nt tx) (p + 1))) T r = r := by unfold tkR; rw [if_neg (by omega), if_neg (by omega), if_neg (by omega)]
      have e3 : tkS (dch nt tx p) os = os := by unfold tkS; exact if_pos (by omega)
      rw [e1, e2, e3]
      have fr : FrR μ (xU μ9 84 0 (μ9 91 0)) := ((FrR.rf.us (Or.inr rfl)).K h9).uc (Or.inl rfl)
      rcases a01 with a0 | a1
      · have no : ¬ ((rdN (dch nt tx) 3 (p + 1) 0).1 ≠ -4 ∧ tkOk (dch nt tx p) (rdN (dch nt tx) 3 (p + 1) 0).2 (nv (dch nt tx) (p + 1)) (nv (dch nt tx) (nx (dch nt tx) (p + 1))) (nv (dch nt tx) (nx (dch nt tx) (nx (dch nt tx) (p + 1)))) T os) := fun z => absurd (ha.mpr z) (by omega)
        exact ⟨by rw [a0, if_neg no], fr, fun z => absurd z no⟩
      · have ok := ha.mp a1
        obtain ⟨k1, k2, k3, k4⟩ := hk a1
        rw [k4] at fr ⊢
        exact ⟨by rw [a1, if_pos ok], fr, fun _ => ⟨((hTT.off (by omega)).K h9 (by omega)).up3 (by omega), ((hRr.off (by omega)).K h9 (by omega)).off (by omega), by rw [xU_nk (by omega)]; exact k1, k2, k3, by rw [xU_nk (by omega), h9 _ _ (by omega) (by omega), xU_nj (by omega)]; exact ho⟩⟩))
  refine x_aload_n (pc' := 1) hC dX7_item_0 rfl rfl ?_
  refine x_aload_n (pc' := 2) hC dX7_item_1 rfl rfl ?_
  refine x_getI (j' := 14) (pc' := 5) hC kf_X7_66 dX7_item_2 (hM 0 _ rfl) rfl rfl rfl ?_
  rw [hs]
  refine x_callV (pc' := 8) (n := 1) hC (m_letterAt (k := p) hM hX (by omega)) ky_X7_letterAt kv_X7_letterAt kl_X7_69 dX7_item_5 (hM 0 _ rfl) rfl rfl rfl rfl ⟨Nat.le_of_ble_eq_true rfl, Nat.le_of_ble_eq_true rfl⟩ (Nat.le_of_ble_eq_true rfl) ⟨Nat.le_refl _, Nat.le_refl _⟩ (Or.inl rfl) rfl (x_kd ?_)
  refine x_istore_n (pc' := 9) hC dX7_item_8 (by decide) rfl rfl ?_
  refine x_aload_n (pc' := 10) hC dX7_item_9 rfl rfl ?_
  refine x_dup (pc' := 11) hC dX7_item_10 rfl rfl ?_
  refine x_getI (j' := 14) (pc' := 14) hC kf_X7_66 dX7_item_11 (hM 0 _ rfl) rfl rfl rfl ?_
  rw [hs]
  refine x_iconst (pc' := 15) hC dX7_item_14 rfl ?_
  refine x_iadd (pc' := 16) hC dX7_item_15 rfl ?_
  refine x_putI (j' := 14) (pc' := 19) hC kf_X7_66 dX7_item_16 (hM 0 _ rfl) rfl rfl rfl rfl rfl ?_
  refine x_iload_n (pc' := 20) hC dX7_item_19 rfl rfl ?_
  refine x_bipush (pc' := 22) hC dX7_item_20 (by decide) rfl ?_
  refine x_icmp_ne (tgt := 79) (pc' := 25) hC dX7_item_22 (by decide) rfl (by omega) (by omega) (fun c22 => ?_) (fun c22 => ?_)
  · have hX1 : Txm (xU (xU μ 81 14 (p + 1)) 81 4 1) nt tx := hX.R ((FrR.rf.us (Or.inr rfl)).us (Or.inl rfl))
    have hT1 : TT (xU (xU μ 81 14 (p + 1)) 81 4 1) 84 T := (hTT.off (by omega)).off (by omega)
    have hR1 : Rw (xU (xU μ 81 14 (p + 1)) 81 4 1) 86 r := (hRr.off (by omega)).off (by omega)
    have hs1 : xU (xU μ 81 14 (p + 1)) 81 4 1 81 14 = p + 1 := by rw [xU_nj (by omega), xU_at2]
    have fo : xU (xU μ 81 14 (p + 1)) 81 4 1 81 4 = 1 := xU_at2
    refine x_aload_n (pc' := 80) hC dX7_item_79 rfl rfl ?_
    refine x_iconst (pc' := 81) hC dX7_item_80 rfl ?_
    refine x_putI (j' := 4) (pc' := 84) hC kf_X7_50 dX7_item_81 (hM 0 _ rfl) rfl rfl rfl rfl rfl ?_
    refine x_iload_n (pc' := 85) hC dX7_item_84 rfl rfl ?_
    have w85 : (dch nt tx p) = 102 ∨ (dch nt tx p) = 107 ∨ (dch nt tx p) = 109 ∨ (dch nt tx p) = 116 ∨ (dch nt tx p) = 119 ∨ (¬ (dch nt tx p) = 102 ∧ ¬ (dch nt tx p) = 107 ∧ ¬ (dch nt tx p) = 109 ∧ ¬ (dch nt tx p) = 116 ∧ ¬ (dch nt tx p) = 119) := by omega
    rcases w85 with w85 | w85 | w85 | w85 | w85 | w85
    · refine x_look (off := 167) (tgt := 252) hC dX7_item_85 (by omega) (by decide) (by rw [w85]; decide) (by decide) ?_
      refine x_aload_n (pc' := 253) hC dX7_item_252 rfl rfl ?_
      refine x_iconst (pc' := 254) hC dX7_item_253 rfl ?_
      refine x_callV (pc' := 257) (n := 1) hC (m_numbers hM hX1 hs1 (by omega) (by omega)) ky_X7_numbers kv_X7_numbers kl_X7_79 dX7_item_254 (hM 0 _ rfl) rfl rfl rfl rfl ⟨Nat.le_of_ble_eq_true rfl, Nat.le_of_ble_eq_true rfl⟩ (Nat.le_of_ble_eq_true rfl) ⟨Nat.le_refl _, Nat.le_refl _⟩ (Or.inl rfl) rfl (x_kv (fun μ254 h254 => ?_))
      refine x_ifb_ne (tgt := 262) (pc' := 260) hC dX7_item_257 (by decide) rfl (fun c257 => ?_) (fun c257 => ?_)
      · obtain ⟨b1, b2, b3, b4⟩ := h254.2 c257
        obtain ⟨w0, w1, w2⟩ := b2.rg
        have w0 := w0 (by omega)
        have hT2 := hT1.K h254.1 (by omega)
        have hR2 := hR1.K h254.1 (by omega)
        have f9 := ((FrR.rf.us (Or.inr rfl)).us (Or.inl rfl)).K h254.1
        refine x_aload_n (pc' := 263) hC dX7_item_262 rfl rfl ?_
        refine x_getR (pc' := 266) (b := 86) hC kf_X7_22 dX7_item_263 (hM 0 _ rfl) rfl rfl ?_
        refine x_iconst (pc' := 267) hC dX7_item_266 rfl ?_
        refine x_aload_n (pc' := 268) hC dX7_item_267 rfl rfl ?_
        refine x_getR (pc' := 271) (b := 91) hC kf_X7_37 dX7_item_268 (hM 0 _ rfl) rfl rfl ?_
        refine x_iconst (pc' := 272) hC dX7_item_271 rfl ?_
        refine x_iald (pc' := 273) hC dX7_item_272 (hM 10 _ rfl) (by omega) (by decide) rfl ?_
        rw [w0.1]
        refine x_iast (pc' := 274) hC dX7_item_273 (hM 5 _ rfl) (by omega) (by omega) rfl ?_
        refine x_iconst (pc' := 275) hC dX7_item_274 rfl ?_
        exact x_zret hC dX7_item_275 (by first | exact Or.inl rfl | exact Or.inr rfl | omega) (xI.mk (by
      have e1 : tkT (dch nt tx p) (nv (dch nt tx) (p + 1)) (nv (dch nt tx) (nx (dch nt tx) (nx (dch nt tx) (p + 1)))) T = T := by unfold tkT; rw [if_neg (by omega), if_neg (by omega), if_neg (by omega), if_neg (by omega)]
      have e2 : tkR (dch nt tx p) (nv (dch nt tx) (p + 1)) (nv (dch nt tx) (nx (dch nt tx) (p + 1))) T r = up r 1 (nv (dch nt tx) (p + 1)) := by unfold tkR; rw [if_neg (by omega), if_neg (by omega), if_pos (by omega)]
      have e3 : tkS (dch nt tx p) os = 0 := by unfold tkS; exact if_neg (by omega)
      have ok : (rdN (dch nt tx) 3 (p + 1) 0).1 ≠ -4 ∧ tkOk (dch nt tx p) (rdN (dch nt tx) 3 (p + 1) 0).2 (nv (dch nt tx) (p + 1)) (nv (dch nt tx) (nx (dch nt tx) (p + 1))) (nv (dch nt tx) (nx (dch nt tx) (nx (dch nt tx) (p + 1)))) T os := ⟨c257.1, by unfold tkOk; have := c257.2; omega⟩
      rw [e1, e2, e3]
      refine ⟨(if_pos ok).symm, f9.uc (Or.inr rfl), fun _ => ⟨hT2.off (by omega), hR2.u, ?_, b4, by omega, ?_⟩⟩
      · rw [xU_nk (by omega)]; exact b1
      · rw [xU_nk (by omega), h254.1 _ _ (by omega) (by omega), xU_at2]; rfl))
      · refine x_iconst (pc' := 261) hC dX7_item_260 rfl ?_
        exact x_zret hC dX7_item_261 (by first | exact Or.inl rfl | exact Or.inr rfl | omega) (xI.mk (by
      have no : ¬ ((rdN (dch nt tx) 3 (p + 1) 0).1 ≠ -4 ∧ tkOk (dch nt tx p) (rdN (dch nt tx) 3 (p + 1) 0).2 (nv (dch nt tx) (p + 1)) (nv (dch nt tx) (nx (dch nt tx) (p + 1))) (nv (dch nt tx) (nx (dch nt tx) (nx (dch nt tx) (p + 1)))) T os) := fun z => by
        have z1 := z.1
        have z2 := z.2
        unfold tkOk at z2
        first
        | (refine c257 ⟨z1, ?_⟩; omega)
        | omega
      exact ⟨(if_neg no).symm, ((FrR.rf.us (Or.inr rfl)).us (Or.inl rfl)).K h254.1, fun z => absurd z no⟩))
    · refine x_look (off := 108) (tgt := 193) hC dX7_item_85 (by omega) (by decide) (by rw [w85]; decide) (by decide) ?_
      refine x_aload_n (pc' := 194) hC dX7_item_193 rfl rfl ?_
      refine x_iconst (pc' := 195) hC dX7_item_194 rfl ?_
      refine x_callV (pc' := 198) (n := 1) hC (m_numbers hM hX1 hs1 (by omega) (by omega)) ky_X7_numbers kv_X7_numbers kl_X7_79 dX7_item_195 (hM 0 _ rfl) rfl rfl rfl rfl ⟨Nat.le_of_ble_eq_true rfl, Nat.le_of_ble_eq_true rfl⟩ (Nat.le_of_ble_eq_true rfl) ⟨Nat.le_refl _, Nat.le_refl _⟩ (Or.inl rfl) rfl (x_kv (fun μ195 h195 => ?_))
      refine x_ifb_eq (tgt := 216) (pc' := 201) hC dX7_item_198 (by decide) rfl (fun c198 => ?_) (fun c198 => ?_)
      · refine x_iconst (pc' := 217) hC dX7_item_216 rfl ?_
        exact x_zret hC dX7_item_217 (by first | exact Or.inl rfl | exact Or.inr rfl | omega) (xI.mk (by
      have no : ¬ ((rdN (dch nt tx) 3 (p + 1) 0).1 ≠ -4 ∧ tkOk (dch nt tx p) (rdN (dch nt tx) 3 (p + 1) 0).2 (nv (dch nt tx) (p + 1)) (nv (dch nt tx) (nx (dch nt tx) (p + 1))) (nv (dch nt tx) (nx (dch nt tx) (nx (dch nt tx) (p + 1)))) T os) := fun z => by
        have z1 := z.1
        have z2 := z.2
        unfold tkOk at z2
        first
        | (refine c198 ⟨z1, ?_⟩; omega)
        | omega
      exact ⟨(if_neg no).symm, ((FrR.rf.us (Or.inr rfl)).us (Or.inl rfl)).K h195.1, fun z => absurd z no⟩))
      · obtain ⟨b1, b2, b3, b4⟩ := h195.2 c198
        obtain ⟨w0, w1, w2⟩ := b2.rg
        have w0 := w0 (by omega)
        have hT2 := hT1.K h195.1 (by omega)
        have hR2 := hR1.K h195.1 (by omega)
        have f9 := ((FrR.rf.us (Or.inr rfl)).us (Or.inl rfl)).K h195.1
        refine x_aload_n (pc' := 202) hC dX7_item_201 rfl rfl ?_
        refine x_getR (pc' := 205) (b := 91) hC kf_X7_37 dX7_item_202 (hM 0 _ rfl) rfl rfl ?_
        refine x_iconst (pc' := 206) hC dX7_item_205 rfl ?_
        refine x_iald (pc' := 207) hC dX7_item_206 (hM 10 _ rfl) (by omega) (by decide) rfl ?_
        rw [w0.1]
        refine x_aload_n (pc' := 208) hC dX7_item_207 rfl rfl ?_
        refine x_getR (pc' := 211) (b := 84) hC kf_X7_16 dX7_item_208 (hM 0 _ rfl) rfl rfl ?_
        refine x_iconst (pc' := 212) hC dX7_item_211 rfl ?_
        refine x_iald (pc' := 213) hC dX7_item_212 (hM 3 _ rfl) (by omega) (by decide) rfl ?_
        rw [hT2.1.1]
        refine x_icmp_lt (tgt := 218) (pc' := 216) hC dX7_item_213 (by decide) rfl (by omega) (by omega) (fun c213 => ?_) (fun c213 => ?_)
        · refine x_aload_n (pc' := 219) hC dX7_item_218 rfl rfl ?_
          refine x_getR (pc' := 222) (b := 84) hC kf_X7_16 dX7_item_219 (hM 0 _ rfl) rfl rfl ?_
          refine x_iload_n (pc' := 223) hC dX7_item_222 rfl rfl ?_
          refine x_bipush (pc' := 225) hC dX7_item_223 (by decide) rfl ?_
          refine x_icmp_ne (tgt := 232) (pc' := 228) hC dX7_item_225 (by decide) rfl (by omega) (by omega) (fun c225 => ?_) (fun c225 => ?_)
          · refine x_iconst (pc' := 233) hC dX7_item_232 rfl ?_
            refine x_dup2 (pc' := 234) hC dX7_item_233 rfl rfl rfl ?_
            refine x_iald (pc' := 235) hC dX7_item_234 (hM 3 _ rfl) (by omega) (by decide) rfl ?_
            first | rw [hT2.1.2.1] | rw [hT2.1.2.2.1]
            refine x_iconst (pc' := 236) hC dX7_item_235 rfl ?_
            refine x_aload_n (pc' := 237) hC dX7_item_236 rfl rfl ?_
            refine x_getR (pc' := 240) (b := 91) hC kf_X7_37 dX7_item_237 (hM 0 _ rfl) rfl rfl ?_
            refine x_iconst (pc' := 241) hC dX7_item_240 rfl ?_
            refine x_iald (pc' := 242) hC dX7_item_241 (hM 10 _ rfl) (by omega) (by decide) rfl ?_
            rw [w0.1]
            refine x_ishl (pc' := 243) hC dX7_item_242 rfl ?_
            refine x_ior (pc' := 244) hC dX7_item_243 rfl ?_
            refine x_iast (pc' := 245) hC dX7_item_244 (hM 3 _ rfl) (by omega) (by omega) rfl ?_
            refine x_iconst (pc' := 246) hC dX7_item_245 rfl ?_
            exact x_zret hC dX7_item_246 (by first | exact Or.inl rfl | exact Or.inr rfl | omega) (xI.mk (by
      have e2 : tkR (dch nt tx p) (nv (dch nt tx) (p + 1)) (nv (dch nt tx) (nx (dch nt tx) (p + 1))) T r = r := by unfold tkR; rw [if_neg (by omega), if_neg (by omega), if_neg (by omega)]
      have e3 : tkS (dch nt tx p) os = 0 := by unfold tkS; exact if_neg (by omega)
      have ok : (rdN (dch nt tx) 3 (p + 1) 0).1 ≠ -4 ∧ tkOk (dch nt tx p) (rdN (dch nt tx) 3 (p + 1) 0).2 (nv (dch nt tx) (p + 1)) (nv (dch nt tx) (nx (dch nt tx) (p + 1))) (nv (dch nt tx) (nx (dch nt tx) (nx (dch nt tx) (p + 1)))) T os := ⟨c198.1, by unfold tkOk; have := c198.2; omega⟩
      rw [e2, e3]
      refine ⟨(if_pos ok).symm, f9.uc (Or.inl rfl), fun _ => ⟨?_, hR2.off (by omega), ?_, b4, by omega, ?_⟩⟩
      · first
        | (have e1 : tkT (dch nt tx p) (nv (dch nt tx) (p + 1)) (nv (dch nt tx) (nx (dch nt tx) (nx (dch nt tx) (p + 1)))) T = up T 1 (iOr (T 1) (iShl 1 (nv (dch nt tx) (p + 1)))) := by unfold tkT; rw [if_neg (by omega), if_pos (by omega)]
           rw [e1]; exact hT2.up3 (by omega))
        | (have e1 : tkT (dch nt tx p) (nv (dch nt tx) (p + 1)) (nv (dch nt tx) (nx (dch nt tx) (nx (dch nt tx) (p + 1)))) T = up T 2 (iOr (T 2) (iShl 1 (nv (dch nt tx) (p + 1)))) := by unfold tkT; rw [if_neg (by omega), if_neg (by omega), if_pos (by omega)]
           rw [e1]; exact hT2.up3 (by omega))
      · rw [xU_nk (by omega)]; exact b1
      · rw [xU_nk (by omega), h195.1 _ _ (by omega) (by omega), xU_at2]; rfl))
          · refine x_iconst (pc' := 229) hC dX7_item_228 rfl ?_
            refine x_goto (tgt := 233) hC dX7_item_229 (by decide) ?_
            refine x_dup2 (pc' := 234) hC dX7_item_233 rfl rfl rfl ?_
            refine x_iald (pc' := 235) hC dX7_item_234 (hM 3 _ rfl) (by omega) (by decide) rfl ?_
            first | rw [hT2.1.2.1] | rw [hT2.1.2.2.1]
            refine x_iconst (pc' := 236) hC dX7_item_235 rfl ?_
            refine x_aload_n (pc' := 237) hC dX7_item_236 rfl rfl ?_
            refine x_getR (pc' := 240) (b := 91) hC kf_X7_37 dX7_item_237 (hM 0 _ rfl) rfl rfl ?_
            refine x_iconst (pc' := 241) hC dX7_item_240 rfl ?_
            refine x_iald (pc' := 242) hC dX7_item_241 (hM 10 _ rfl) (by omega) (by decide) rfl ?_
            rw [w0.1]
            refine x_ishl (pc' := 243) hC dX7_item_242 rfl ?_
            refine x_ior (pc' := 244) hC dX7_item_243 rfl ?_
            refine x_iast (pc' := 245) hC dX7_item_244 (hM 3 _ rfl) (by omega) (by omega) rfl ?_
            refine x_iconst (pc' := 246) hC dX7_item_245 rfl ?_
            exact x_zret hC dX7_item_246 (by first | exact Or.inl rfl | exact Or.inr rfl | omega) (xI.mk (by
      have e2 : tkR (dch nt tx p) (nv (dch nt tx) (p + 1)) (nv (dch nt tx) (nx (dch nt tx) (p + 1))) T r = r := by unfold tkR; rw [if_neg (by omega), if_neg (by omega), if_neg (by omega)]
      have e3 : tkS (dch nt tx p) os = 0 := by unfold tkS; exact if_neg (by omega)
      have ok : (rdN (dch nt tx) 3 (p + 1) 0).1 ≠ -4 ∧ tkOk (dch nt tx p) (rdN (dch nt tx) 3 (p + 1) 0).2 (nv (dch nt tx) (p + 1)) (nv (dch nt tx) (nx (dch nt tx) (p + 1))) (nv (dch nt tx) (nx (dch nt tx) (nx (dch nt tx) (p + 1)))) T os := ⟨c198.1, by unfold tkOk; have := c198.2; omega⟩
      rw [e2, e3]
      refine ⟨(if_pos ok).symm, f9.uc (Or.inl rfl), fun _ => ⟨?_, hR2.off (by omega), ?_, b4, by omega, ?_⟩⟩
      · first
        | (have e1 : tkT (dch nt tx p) (nv (dch nt tx) (p + 1)) (nv (dch nt tx) (nx (dch nt tx) (nx (dch nt tx) (p + 1)))) T = up T 1 (iOr (T 1) (iShl 1 (nv (dch nt tx) (p + 1)))) := by unfold tkT; rw [if_neg (by omega), if_pos (by omega)]
           rw [e1]; exact hT2.up3 (by omega))
        | (have e1 : tkT (dch nt tx p) (nv (dch nt tx) (p + 1)) (nv (dch nt tx) (nx (dch nt tx) (nx (dch nt tx) (p + 1)))) T = up T 2 (iOr (T 2) (iShl 1 (nv (dch nt tx) (p + 1)))) := by unfold tkT; rw [if_neg (by omega), if_neg (by omega), if_pos (by omega)]
           rw [e1]; exact hT2.up3 (by omega))
      · rw [xU_nk (by omega)]; exact b1
      · rw [xU_nk (by omega), h195.1 _ _ (by omega) (by omega), xU_at2]; rfl))
        · refine x_iconst (pc' := 217) hC dX7_item_216 rfl ?_
          exact x_zret hC dX7_item_217 (by first | exact Or.inl rfl | exact Or.inr rfl | omega) (xI.mk (by
      have no : ¬ ((rdN (dch nt tx) 3 (p + 1) 0).1 ≠ -4 ∧ tkOk (dch nt tx p) (rdN (dch nt tx) 3 (p + 1) 0).2 (nv (dch nt tx) (p + 1)) (nv (dch nt tx) (nx (dch nt tx) (p + 1))) (nv (dch nt tx) (nx (dch nt tx) (nx (dch nt tx) (p + 1)))) T os) := fun z => by
        have z1 := z.1
        have z2 := z.2
        unfold tkOk at z2
        first
        | (refine c198 ⟨z1, ?_⟩; omega)
        | omega
      exact ⟨(if_neg no).symm, ((FrR.rf.us (Or.inr rfl)).us (Or.inl rfl)).K h195.1, fun z => absurd z no⟩))
    · refine x_look (off := 162) (tgt := 247) hC dX7_item_85 (by omega) (by decide) (by rw [w85]; decide) (by decide) ?_
      refine x_aload_n (pc' := 248) hC dX7_item_247 rfl rfl ?_
      refine x_callV (pc' := 251) (n := 0) hC (m_minItem hM hX1 (os := 0) ⟨q1, q2, q3, q4, q5, q6, q7, q8, fun z => absurd z (by omega)⟩ hT1 hR1 hs1 (by omega)) ky_X7_ministerItem kv_X7_ministerItem kl_X7_87 dX7_item_248 (hM 0 _ rfl) rfl rfl rfl rfl ⟨Nat.le_of_ble_eq_true rfl, Nat.le_of_ble_eq_true rfl⟩ (Nat.le_of_ble_eq_true rfl) ⟨Nat.le_refl _, Nat.le_refl _⟩ (Or.inl rfl) rfl (x_kv (fun μ248 h248 => ?_))
      exact x_zret hC dX7_item_251 (by split <;> omega) (xI.mk (by
      have e1 : tkT (dch nt tx p) (nv (dch nt tx) (p + 1)) (nv (dch nt tx) (nx (dch nt tx) (nx (dch nt tx) (p + 1)))) T = up (up (up T (4 + T 3) (nv (dch nt tx) (p + 1))) (11 + T 3) (nv (dch nt tx) (nx (dch nt tx) (nx (dch nt tx) (p + 1))))) 3 (T 3 + 1) := by unfold tkT; rw [if_neg (by omega), if_neg (by omega), if_neg (by omega), if_pos (by omega)]
      have e2 : tkR (dch nt tx p) (nv (dch nt tx) (p + 1)) (nv (dch nt tx) (nx (dch nt tx) (p + 1))) T r = up r (18 + T 3) (nv (dch nt tx) (nx (dch nt tx) (p + 1))) := by unfold tkR; rw [if_neg (by omega), if_pos (by omega)]
      have e3 : tkS (dch nt tx p) os = 0 := by unfold tkS; exact if_neg (by omega)
      have iff9 : ((rdN (dch nt tx) 3 (p + 1) 0).1 ≠ -4 ∧ tkOk (dch nt tx p) (rdN (dch nt tx) 3 (p + 1) 0).2 (nv (dch nt tx) (p + 1)) (nv (dch nt tx) (nx (dch nt tx) (p + 1))) (nv (dch nt tx) (nx (dch nt tx) (nx (dch nt tx) (p + 1)))) T os) ↔ (okN (dch nt tx) (p + 1) 3 ∧ T 3 < 7 ∧ nv (dch nt tx) (p + 1) ≤ 3 ∧ nv (dch nt tx) (nx (dch nt tx) (p + 1)) < T 0 ∧ nv (dch nt tx) (nx (dch nt tx) (nx (dch nt tx) (p + 1))) ≤ 9) := ⟨fun z => ⟨⟨z.1, by have y := z.2; unfold tkOk at y; omega⟩, by have y := z.2; unfold tkOk at y; omega⟩, fun z => by
        obtain ⟨y1, y2, y3, y4, y5, y6, y7, y8⟩ := h248.2.2 z
        have y9 := z.1.2
        exact ⟨z.1.1, by unfold tkOk; omega⟩⟩
      rw [e1, e2, e3]
      refine ⟨by rcases Decidable.em ((rdN (dch nt tx) 3 (p + 1) 0).1 ≠ -4 ∧ tkOk (dch nt tx p) (rdN (dch nt tx) 3 (p + 1) 0).2 (nv (dch nt tx) (p + 1)) (nv (dch nt tx) (nx (dch nt tx) (p + 1))) (nv (dch nt tx) (nx (dch nt tx) (nx (dch nt tx) (p + 1)))) T os) with zc | zc; rw [if_pos zc, if_pos (iff9.mp zc)]; rw [if_neg zc, if_neg (fun y => zc (iff9.mpr y))], ((FrR.rf.us (Or.inr rfl)).us (Or.inl rfl)).tr h248.1, fun z => ?_⟩
      obtain ⟨y1, y2, y3, y4, y5, y6, y7, y8⟩ := h248.2.2 (iff9.mp z)
      exact ⟨y1, y2, y3, y4, by omega, by rw [h248.2.1, fo]; rfl⟩))
    · refine x_look (off := 108) (tgt := 193) hC dX7_item_85 (by omega) (by decide) (by rw [w85]; decide) (by decide) ?_
      refine x_aload_n (pc' := 194) hC dX7_item_193 rfl rfl ?_
      refine x_iconst (pc' := 195) hC dX7_item_194 rfl ?_
      refine x_callV (pc' := 198) (n := 1) hC (m_numbers hM hX1 hs1 (by omega) (by omega)) ky_X7_numbers kv_X7_numbers kl_X7_79 dX7_item_195 (hM 0 _ rfl) rfl rfl rfl rfl ⟨Nat.le_of_ble_eq_true rfl, Nat.le_of_ble_eq_true rfl⟩ (Nat.le_of_ble_eq_true rfl) ⟨Nat.le_refl _, Nat.le_refl _⟩ (Or.inl rfl) rfl (x_kv (fun μ195 h195 => ?_))
      refine x_ifb_eq (tgt := 216) (pc' := 201) hC dX7_item_198 (by decide) rfl (fun c198 => ?_) (fun c198 => ?_)
      · refine x_iconst (pc' := 217) hC dX7_item_216 rfl ?_
        exact x_zret hC dX7_item_217 (by first | exact Or.inl rfl | exact Or.inr rfl | omega) (xI.mk (by
      have no : ¬ ((rdN (dch nt tx) 3 (p + 1) 0).1 ≠ -4 ∧ tkOk (dch nt tx p) (rdN (dch nt tx) 3 (p + 1) 0).2 (nv (dch nt tx) (p + 1)) (nv (dch nt tx) (nx (dch nt tx) (p + 1))) (nv (dch nt tx) (nx (dch nt tx) (nx (dch nt tx) (p + 1)))) T os) := fun z => by
        have z1 := z.1
        have z2 := z.2
        unfold tkOk at z2
        first
        | (refine c198 ⟨z1, ?_⟩; omega)
        | omega
      exact ⟨(if_neg no).symm, ((FrR.rf.us (Or.inr rfl)).us (Or.inl rfl)).K h195.1, fun z => absurd z no⟩))
      · obtain ⟨b1, b2, b3, b4⟩ := h195.2 c198
        obtain ⟨w0, w1, w2⟩ := b2.rg
        have w0 := w0 (by omega)
        have hT2 := hT1.K h195.1 (by omega)
        have hR2 := hR1.K h195.1 (by omega)
        have f9 := ((FrR.rf.us (Or.inr rfl)).us (Or.inl rfl)).K h195.1
        refine x_aload_n (pc' := 202) hC dX7_item_201 rfl rfl ?_
        refine x_getR (pc' := 205) (b := 91) hC kf_X7_37 dX7_item_202 (hM 0 _ rfl) rfl rfl ?_
        refine x_iconst (pc' := 206) hC dX7_item_205 rfl ?_
        refine x_iald (pc' := 207) hC dX7_item_206 (hM 10 _ rfl) (by omega) (by decide) rfl ?_
        rw [w0.1]
        refine x_aload_n (pc' := 208) hC dX7_item_207 rfl rfl ?_
        refine x_getR (pc' := 211) (b := 84) hC kf_X7_16 dX7_item_208 (hM 0 _ rfl) rfl rfl ?_
        refine x_iconst (pc' := 212) hC dX7_item_211 rfl ?_
        refine x_iald (pc' := 213) hC dX7_item_212 (hM 3 _ rfl) (by omega) (by decide) rfl ?_
        rw [hT2.1.1]
        refine x_icmp_lt (tgt := 218) (pc' := 216) hC dX7_item_213 (by decide) rfl (by omega) (by omega) (fun c213 => ?_) (fun c213 => ?_)
        · refine x_aload_n (pc' := 219) hC dX7_item_218 rfl rfl ?_
          refine x_getR (pc' := 222) (b := 84) hC kf_X7_16 dX7_item_219 (hM 0 _ rfl) rfl rfl ?_
          refine x_iload_n (pc' := 223) hC dX7_item_222 rfl rfl ?_
          refine x_bipush (pc' := 225) hC dX7_item_223 (by decide) rfl ?_
          refine x_icmp_ne (tgt := 232) (pc' := 228) hC dX7_item_225 (by decide) rfl (by omega) (by omega) (fun c225 => ?_) (fun c225 => ?_)
          · refine x_iconst (pc' := 233) hC dX7_item_232 rfl ?_
            refine x_dup2 (pc' := 234) hC dX7_item_233 rfl rfl rfl ?_
            refine x_iald (pc' := 235) hC dX7_item_234 (hM 3 _ rfl) (by omega) (by decide) rfl ?_
            first | rw [hT2.1.2.1] | rw [hT2.1.2.2.1]
            refine x_iconst (pc' := 236) hC dX7_item_235 rfl ?_
            refine x_aload_n (pc' := 237) hC dX7_item_236 rfl rfl ?_
            refine x_getR (pc' := 240) (b := 91) hC kf_X7_37 dX7_item_237 (hM 0 _ rfl) rfl rfl ?_
            refine x_iconst (pc' := 241) hC dX7_item_240 rfl ?_
            refine x_iald (pc' := 242) hC dX7_item_241 (hM 10 _ rfl) (by omega) (by decide) rfl ?_
            rw [w0.1]
            refine x_ishl (pc' := 243) hC dX7_item_242 rfl ?_
            refine x_ior (pc' := 244) hC dX7_item_243 rfl ?_
            refine x_iast (pc' := 245) hC dX7_item_244 (hM 3 _ rfl) (by omega) (by omega) rfl ?_
            refine x_iconst (pc' := 246) hC dX7_item_245 rfl ?_
            exact x_zret hC dX7_item_246 (by first | exact Or.inl rfl | exact Or.inr rfl | omega) (xI.mk (by
      have e2 : tkR (dch nt tx p) (nv (dch nt tx) (p + 1)) (nv (dch nt tx) (nx (dch nt tx) (p + 1))) T r = r := by unfold tkR; rw [if_neg (by omega), if_neg (by omega), if_neg (by omega)]
      have e3 : tkS (dch nt tx p) os = 0 := by unfold tkS; exact if_neg (by omega)
      have ok : (rdN (dch nt tx) 3 (p + 1) 0).1 ≠ -4 ∧ tkOk (dch nt tx p) (rdN (dch nt tx) 3 (p + 1) 0).2 (nv (dch nt tx) (p + 1)) (nv (dch nt tx) (nx (dch nt tx) (p + 1))) (nv (dch nt tx) (nx (dch nt tx) (nx (dch nt tx) (p + 1)))) T os := ⟨c198.1, by unfold tkOk; have := c198.2; omega⟩
      rw [e2, e3]
      refine ⟨(if_pos ok).symm, f9.uc (Or.inl rfl), fun _ => ⟨?_, hR2.off (by omega), ?_, b4, by omega, ?_⟩⟩
      · first
        | (have e1 : tkT (dch nt tx p) (nv (dch nt tx) (p + 1)) (nv (dch nt tx) (nx (dch nt tx) (nx (dch nt tx) (p + 1)))) T = up T 1 (iOr (T 1) (iShl 1 (nv (dch nt tx) (p + 1)))) := by unfold tkT; rw [if_neg (by omega), if_pos (by omega)]
           rw [e1]; exact hT2.up3 (by omega))
        | (have e1 : tkT (dch nt tx p) (nv (dch nt tx) (p + 1)) (nv (dch nt tx) (nx (dch nt tx) (nx (dch nt tx) (p + 1)))) T = up T 2 (iOr (T 2) (iShl 1 (nv (dch nt tx) (p + 1)))) := by unfold tkT; rw [if_neg (by omega), if_neg (by omega), if_pos (by omega)]
           rw [e1]; exact hT2.up3 (by omega))
      · rw [xU_nk (by omega)]; exact b1
      · rw [xU_nk (by omega), h195.1 _ _ (by omega) (by omega), xU_at2]; rfl))
          · refine x_iconst (pc' := 229) hC dX7_item_228 rfl ?_
            refine x_goto (tgt := 233) hC dX7_item_229 (by decide) ?_
            refine x_dup2 (pc' := 234) hC dX7_item_233 rfl rfl rfl ?_
            refine x_iald (pc' := 235) hC dX7_item_234 (hM 3 _ rfl) (by omega) (by decide) rfl ?_
            first | rw [hT2.1.2.1] | rw [hT2.1.2.2.1]
            refine x_iconst (pc' := 236) hC dX7_item_235 rfl ?_
            refine x_aload_n (pc' := 237) hC dX7_item_236 rfl rfl ?_
            refine x_getR (pc' := 240) (b := 91) hC kf_X7_37 dX7_item_237 (hM 0 _ rfl) rfl rfl ?_
            refine x_iconst (pc' := 241) hC dX7_item_240 rfl ?_
            refine x_iald (pc' := 242) hC dX7_item_241 (hM 10 _ rfl) (by omega) (by decide) rfl ?_
            rw [w0.1]
            refine x_ishl (pc' := 243) hC dX7_item_242 rfl ?_
            refine x_ior (pc' := 244) hC dX7_item_243 rfl ?_
            refine x_iast (pc' := 245) hC dX7_item_244 (hM 3 _ rfl) (by omega) (by omega) rfl ?_
            refine x_iconst (pc' := 246) hC dX7_item_245 rfl ?_
            exact x_zret hC dX7_item_246 (by first | exact Or.inl rfl | exact Or.inr rfl | omega) (xI.mk (by
      have e2 : tkR (dch nt tx p) (nv (dch nt tx) (p + 1)) (nv (dch nt tx) (nx (dch nt tx) (p + 1))) T r = r := by unfold tkR; rw [if_neg (by omega), if_neg (by omega), if_neg (by omega)]
      have e3 : tkS (dch nt tx p) os = 0 := by unfold tkS; exact if_neg (by omega)
      have ok : (rdN (dch nt tx) 3 (p + 1) 0).1 ≠ -4 ∧ tkOk (dch nt tx p) (rdN (dch nt tx) 3 (p + 1) 0).2 (nv (dch nt tx) (p + 1)) (nv (dch nt tx) (nx (dch nt tx) (p + 1))) (nv (dch nt tx) (nx (dch nt tx) (nx (dch nt tx) (p + 1)))) T os := ⟨c198.1, by unfold tkOk; have := c198.2; omega⟩
      rw [e2, e3]
      refine ⟨(if_pos ok).symm, f9.uc (Or.inl rfl), fun _ => ⟨?_, hR2.off (by omega), ?_, b4, by omega, ?_⟩⟩
      · first
        | (have e1 : tkT (dch nt tx p) (nv (dch nt tx) (p + 1)) (nv (dch nt tx) (nx (dch nt tx) (nx (dch nt tx) (p + 1)))) T = up T 1 (iOr (T 1) (iShl 1 (nv (dch nt tx) (p + 1)))) := by unfold tkT; rw [if_neg (by omega), if_pos (by omega)]
           rw [e1]; exact hT2.up3 (by omega))
        | (have e1 : tkT (dch nt tx p) (nv (dch nt tx) (p + 1)) (nv (dch nt tx) (nx (dch nt tx) (nx (dch nt tx) (p + 1)))) T = up T 2 (iOr (T 2) (iShl 1 (nv (dch nt tx) (p + 1)))) := by unfold tkT; rw [if_neg (by omega), if_neg (by omega), if_pos (by omega)]
           rw [e1]; exact hT2.up3 (by omega))
      · rw [xU_nk (by omega)]; exact b1
      · rw [xU_nk (by omega), h195.1 _ _ (by omega) (by omega), xU_at2]; rfl))
        · refine x_iconst (pc' := 217) hC dX7_item_216 rfl ?_
          exact x_zret hC dX7_item_217 (by first | exact Or.inl rfl | exact Or.inr rfl | omega) (xI.mk (by
      have no : ¬ ((rdN (dch nt tx) 3 (p + 1) 0).1 ≠ -4 ∧ tkOk (dch nt tx p) (rdN (dch nt tx) 3 (p + 1) 0).2 (nv (dch nt tx) (p + 1)) (nv (dch nt tx) (nx (dch nt tx) (p + 1))) (nv (dch nt tx) (nx (dch nt tx) (nx (dch nt tx) (p + 1)))) T os) := fun z => by
        have z1 := z.1
        have z2 := z.2
        unfold tkOk at z2
        first
        | (refine c198 ⟨z1, ?_⟩; omega)
        | omega
      exact ⟨(if_neg no).symm, ((FrR.rf.us (Or.inr rfl)).us (Or.inl rfl)).K h195.1, fun z => absurd z no⟩))
    · refine x_look (off := 51) (tgt := 136) hC dX7_item_85 (by omega) (by decide) (by rw [w85]; decide) (by decide) ?_
      refine x_aload_n (pc' := 137) hC dX7_item_136 rfl rfl ?_
      refine x_iconst (pc' := 138) hC dX7_item_137 rfl ?_
      refine x_callV (pc' := 141) (n := 1) hC (m_numbers hM hX1 hs1 (by omega) (by omega)) ky_X7_numbers kv_X7_numbers kl_X7_79 dX7_item_138 (hM 0 _ rfl) rfl rfl rfl rfl ⟨Nat.le_of_ble_eq_true rfl, Nat.le_of_ble_eq_true rfl⟩ (Nat.le_of_ble_eq_true rfl) ⟨Nat.le_refl _, Nat.le_refl _⟩ (Or.inl rfl) rfl (x_kv (fun μ138 h138 => ?_))
      refine x_ifb_eq (tgt := 170) (pc' := 144) hC dX7_item_141 (by decide) rfl (fun c141 => ?_) (fun c141 => ?_)
      · refine x_iconst (pc' := 171) hC dX7_item_170 rfl ?_
        exact x_zret hC dX7_item_171 (by first | exact Or.inl rfl | exact Or.inr rfl | omega) (xI.mk (by
      have no : ¬ ((rdN (dch nt tx) 3 (p + 1) 0).1 ≠ -4 ∧ tkOk (dch nt tx p) (rdN (dch nt tx) 3 (p + 1) 0).2 (nv (dch nt tx) (p + 1)) (nv (dch nt tx) (nx (dch nt tx) (p + 1))) (nv (dch nt tx) (nx (dch nt tx) (nx (dch nt tx) (p + 1)))) T os) := fun z => by
        have z1 := z.1
        have z2 := z.2
        unfold tkOk at z2
        first
        | (refine c141 ⟨z1, ?_⟩; omega)
        | omega
      exact ⟨(if_neg no).symm, ((FrR.rf.us (Or.inr rfl)).us (Or.inl rfl)).K h138.1, fun z => absurd z no⟩))
      · obtain ⟨b1, b2, b3, b4⟩ := h138.2 c141
        obtain ⟨w0, w1, w2⟩ := b2.rg
        have w0 := w0 (by omega)
        have w1 := w1 (by omega)
        have hT2 := hT1.K h138.1 (by omega)
        have hR2 := hR1.K h138.1 (by omega)
        have f9 := ((FrR.rf.us (Or.inr rfl)).us (Or.inl rfl)).K h138.1
        refine x_aload_n (pc' := 145) hC dX7_item_144 rfl rfl ?_
        refine x_getR (pc' := 148) (b := 91) hC kf_X7_37 dX7_item_145 (hM 0 _ rfl) rfl rfl ?_
        refine x_iconst (pc' := 149) hC dX7_item_148 rfl ?_
        refine x_iald (pc' := 150) hC dX7_item_149 (hM 10 _ rfl) (by omega) (by decide) rfl ?_
        rw [w0.1]
        refine x_aload_n (pc' := 151) hC dX7_item_150 rfl rfl ?_
        refine x_getR (pc' := 154) (b := 84) hC kf_X7_16 dX7_item_151 (hM 0 _ rfl) rfl rfl ?_
        refine x_iconst (pc' := 155) hC dX7_item_154 rfl ?_
        refine x_iald (pc' := 156) hC dX7_item_155 (hM 3 _ rfl) (by omega) (by decide) rfl ?_
        rw [hT2.1.1]
        refine x_icmp_ge (tgt := 170) (pc' := 159) hC dX7_item_156 (by decide) rfl (by omega) (by omega) (fun c156 => ?_) (fun c156 => ?_)
        · refine x_iconst (pc' := 171) hC dX7_item_170 rfl ?_
          exact x_zret hC dX7_item_171 (by first | exact Or.inl rfl | exact Or.inr rfl | omega) (xI.mk (by
      have no : ¬ ((rdN (dch nt tx) 3 (p + 1) 0).1 ≠ -4 ∧ tkOk (dch nt tx p) (rdN (dch nt tx) 3 (p + 1) 0).2 (nv (dch nt tx) (p + 1)) (nv (dch nt tx) (nx (dch nt tx) (p + 1))) (nv (dch nt tx) (nx (dch nt tx) (nx (dch nt tx) (p + 1)))) T os) := fun z => by
        have z1 := z.1
        have z2 := z.2
        unfold tkOk at z2
        first
        | (refine c141 ⟨z1, ?_⟩; omega)
        | omega
      exact ⟨(if_neg no).symm, ((FrR.rf.us (Or.inr rfl)).us (Or.inl rfl)).K h138.1, fun z => absurd z no⟩))
        · refine x_aload_n (pc' := 160) hC dX7_item_159 rfl rfl ?_
          refine x_getR (pc' := 163) (b := 91) hC kf_X7_37 dX7_item_160 (hM 0 _ rfl) rfl rfl ?_
          refine x_iconst (pc' := 164) hC dX7_item_163 rfl ?_
          refine x_iald (pc' := 165) hC dX7_item_164 (hM 10 _ rfl) (by omega) (by decide) rfl ?_
          rw [w1.1]
          refine x_bipush (pc' := 167) hC dX7_item_165 (by decide) rfl ?_
          refine x_icmp_le (tgt := 172) (pc' := 170) hC dX7_item_167 (by decide) rfl (by omega) (by omega) (fun c167 => ?_) (fun c167 => ?_)
          · refine x_aload_n (pc' := 173) hC dX7_item_172 rfl rfl ?_
            refine x_getR (pc' := 176) (b := 86) hC kf_X7_22 dX7_item_173 (hM 0 _ rfl) rfl rfl ?_
            refine x_iconst (pc' := 177) hC dX7_item_176 rfl ?_
            refine x_aload_n (pc' := 178) hC dX7_item_177 rfl rfl ?_
            refine x_getR (pc' := 181) (b := 91) hC kf_X7_37 dX7_item_178 (hM 0 _ rfl) rfl rfl ?_
            refine x_iconst (pc' := 182) hC dX7_item_181 rfl ?_
            refine x_iald (pc' := 183) hC dX7_item_182 (hM 10 _ rfl) (by omega) (by decide) rfl ?_
            rw [w0.1]
            refine x_iadd (pc' := 184) hC dX7_item_183 rfl ?_
            refine x_aload_n (pc' := 185) hC dX7_item_184 rfl rfl ?_
            refine x_getR (pc' := 188) (b := 91) hC kf_X7_37 dX7_item_185 (hM 0 _ rfl) rfl rfl ?_
            refine x_iconst (pc' := 189) hC dX7_item_188 rfl ?_
            refine x_iald (pc' := 190) hC dX7_item_189 (hM 10 _ rfl) (by omega) (by decide) rfl ?_
            rw [w1.1]
            refine x_iast (pc' := 191) hC dX7_item_190 (hM 5 _ rfl) (by omega) (by omega) rfl ?_
            refine x_iconst (pc' := 192) hC dX7_item_191 rfl ?_
            exact x_zret hC dX7_item_192 (by first | exact Or.inl rfl | exact Or.inr rfl | omega) (xI.mk (by
      have e1 : tkT (dch nt tx p) (nv (dch nt tx) (p + 1)) (nv (dch nt tx) (nx (dch nt tx) (nx (dch nt tx) (p + 1)))) T = T := by unfold tkT; rw [if_neg (by omega), if_neg (by omega), if_neg (by omega), if_neg (by omega)]
      have e2 : tkR (dch nt tx p) (nv (dch nt tx) (p + 1)) (nv (dch nt tx) (nx (dch nt tx) (p + 1))) T r = up r (2 + nv (dch nt tx) (p + 1)) (nv (dch nt tx) (nx (dch nt tx) (p + 1))) := by unfold tkR; rw [if_pos (by omega)]
      have e3 : tkS (dch nt tx p) os = 0 := by unfold tkS; exact if_neg (by omega)
      have ok : (rdN (dch nt tx) 3 (p + 1) 0).1 ≠ -4 ∧ tkOk (dch nt tx p) (rdN (dch nt tx) 3 (p + 1) 0).2 (nv (dch nt tx) (p + 1)) (nv (dch nt tx) (nx (dch nt tx) (p + 1))) (nv (dch nt tx) (nx (dch nt tx) (nx (dch nt tx) (p + 1)))) T os := ⟨c141.1, by unfold tkOk; have := c141.2; omega⟩
      rw [e1, e2, e3]
      refine ⟨(if_pos ok).symm, f9.uc (Or.inr rfl), fun _ => ⟨hT2.off (by omega), hR2.u, ?_, b4, by omega, ?_⟩⟩
      · rw [xU_nk (by omega)]; exact b1
      · rw [xU_nk (by omega), h138.1 _ _ (by omega) (by omega), xU_at2]; rfl))
          · refine x_iconst (pc' := 171) hC dX7_item_170 rfl ?_
            exact x_zret hC dX7_item_171 (by first | exact Or.inl rfl | exact Or.inr rfl | omega) (xI.mk (by
      have no : ¬ ((rdN (dch nt tx) 3 (p + 1) 0).1 ≠ -4 ∧ tkOk (dch nt tx p) (rdN (dch nt tx) 3 (p + 1) 0).2 (nv (dch nt tx) (p + 1)) (nv (dch nt tx) (nx (dch nt tx) (p + 1))) (nv (dch nt tx) (nx (dch nt tx) (nx (dch nt tx) (p + 1)))) T os) := fun z => by
        have z1 := z.1
        have z2 := z.2
        unfold tkOk at z2
        first
        | (refine c141 ⟨z1, ?_⟩; omega)
        | omega
      exact ⟨(if_neg no).symm, ((FrR.rf.us (Or.inr rfl)).us (Or.inl rfl)).K h138.1, fun z => absurd z no⟩))
    · refine x_look (off := 191) (tgt := 276) hC dX7_item_85 (by omega) (by decide) (by simp only [Op.lookupswitch.offset, if_neg]; rw [if_neg (by omega), if_neg (by omega), if_neg (by omega), if_neg (by omega), if_neg (by omega)]) (by decide) ?_
      refine x_iconst (pc' := 277) hC dX7_item_276 rfl ?_
      exact x_zret hC dX7_item_277 (by first | exact Or.inl rfl | exact Or.inr rfl | omega) (xI.mk (by
      have no : ¬ ((rdN (dch nt tx) 3 (p + 1) 0).1 ≠ -4 ∧ tkOk (dch nt tx p) (rdN (dch nt tx) 3 (p + 1) 0).2 (nv (dch nt tx) (p + 1)) (nv (dch nt tx) (nx (dch nt tx) (p + 1))) (nv (dch nt tx) (nx (dch nt tx) (nx (dch nt tx) (p + 1)))) T os) := fun z => by have z2 := z.2; unfold tkOk at z2; omega
      exact ⟨(if_neg no).symm, ((FrR.rf.us (Or.inr rfl)).us (Or.inl rfl)), fun z => absurd z no⟩))
  · have hX1 : Txm (xU μ 81 14 (p + 1)) nt tx := hX.R (FrR.rf.us (Or.inr rfl))
    have hT1 : TT (xU μ 81 14 (p + 1)) 84 T := hTT.off (by omega)
    have hR1 : Rw (xU μ 81 14 (p + 1)) 86 r := hRr.off (by omega)
    have hs1 : xU μ 81 14 (p + 1) 81 14 = p + 1 := xU_at2
    refine x_aload_n (pc' := 26) hC dX7_item_25 rfl rfl ?_
    refine x_iconst (pc' := 27) hC dX7_item_26 rfl ?_
    refine x_callV (pc' := 30) (n := 1) hC (m_numbers hM hX1 hs1 (by omega) (by omega)) ky_X7_numbers kv_X7_numbers kl_X7_79 dX7_item_27 (hM 0 _ rfl) rfl rfl rfl rfl ⟨Nat.le_of_ble_eq_true rfl, Nat.le_of_ble_eq_true rfl⟩ (Nat.le_of_ble_eq_true rfl) ⟨Nat.le_refl _, Nat.le_refl _⟩ (Or.inl rfl) rfl (x_kv (fun μ27 h27 => ?_))
    refine x_ifb_eq (tgt := 63) (pc' := 33) hC dX7_item_30 (by decide) rfl (fun c30 => ?_) (fun c30 => ?_)
    · refine x_iconst (pc' := 64) hC dX7_item_63 rfl ?_
      first | exact well _ _ (by omega) h27.1 (Or.inr rfl) ⟨fun _ => ⟨c30.1, by unfold tkOk; have := c30.2; omega⟩, fun _ => rfl⟩ (fun _ => ⟨b1, b4, by omega, w0.1⟩) | exact well _ _ (by omega) h27.1 (Or.inl rfl) ⟨fun z => absurd z (by decide), fun z => absurd z.2 (by unfold tkOk; omega)⟩ (fun z => absurd z (by decide)) | exact well _ _ (by omega) h27.1 (Or.inl rfl) ⟨fun z => absurd z (by decide), fun z => absurd (show okN (dch nt tx) (p + 1) 1 from ⟨z.1, by have y := z.2; unfold tkOk at y; omega⟩) c30⟩ (fun z => absurd z (by decide))
    · obtain ⟨b1, b2, b3, b4⟩ := h27.2 c30
      obtain ⟨w0, w1, w2⟩ := b2.rg
      have w0 := w0 (by omega)
      have hT2 := hT1.K h27.1 (by omega)
      have hR2 := hR1.K h27.1 (by omega)
      have f9 := (FrR.rf.us (Or.inr rfl)).K h27.1
      refine x_aload_n (pc' := 34) hC dX7_item_33 rfl rfl ?_
      refine x_getI (j' := 4) (pc' := 37) hC kf_X7_50 dX7_item_34 (hM 0 _ rfl) rfl rfl rfl ?_
      rw [h27.1 _ _ (by omega) (by omega), xU_nj (by omega), ho]
      refine x_if_ne (tgt := 63) (pc' := 40) hC dX7_item_37 (by decide) rfl (by omega) (fun c37 => ?_) (fun c37 => ?_)
      · refine x_iconst (pc' := 64) hC dX7_item_63 rfl ?_
        first | exact well _ _ (by omega) h27.1 (Or.inr rfl) ⟨fun _ => ⟨c30.1, by unfold tkOk; have := c30.2; omega⟩, fun _ => rfl⟩ (fun _ => ⟨b1, b4, by omega, w0.1⟩) | exact well _ _ (by omega) h27.1 (Or.inl rfl) ⟨fun z => absurd z (by decide), fun z => absurd z.2 (by unfold tkOk; omega)⟩ (fun z => absurd z (by decide)) | exact well _ _ (by omega) h27.1 (Or.inl rfl) ⟨fun z => absurd z (by decide), fun z => absurd (show okN (dch nt tx) (p + 1) 1 from ⟨z.1, by have y := z.2; unfold tkOk at y; omega⟩) c30⟩ (fun z => absurd z (by decide))
      · refine x_aload_n (pc' := 41) hC dX7_item_40 rfl rfl ?_
        refine x_getR (pc' := 44) (b := 91) hC kf_X7_37 dX7_item_41 (hM 0 _ rfl) rfl rfl ?_
        refine x_iconst (pc' := 45) hC dX7_item_44 rfl ?_
        refine x_iald (pc' := 46) hC dX7_item_45 (hM 10 _ rfl) (by omega) (by decide) rfl ?_
        rw [w0.1]
        refine x_i2l (pc' := 47) hC dX7_item_46 (by omega) rfl ?_
        refine x_ldc2 (pc' := 50) (a := 3) hC kc_X7_83 dX7_item_47 (by decide) rfl ?_
        refine x_ldc2 (pc' := 53) (a := 16) hC kc_X7_85 dX7_item_50 (by decide) rfl ?_
        refine x_callS (pc' := 56) (n := 3) hC (m_in (by omega) (by omega) (by omega)) ky_X7_in ks_X7_in kl_X7_58 dX7_item_53 rfl rfl ⟨Nat.le_of_ble_eq_true rfl, Nat.le_of_ble_eq_true rfl⟩ (Nat.le_of_ble_eq_true rfl) ⟨Nat.le_refl _, Nat.le_refl _⟩ (Or.inl rfl) rfl (x_kd ?_)
        refine x_ifb_eq (tgt := 63) (pc' := 59) hC dX7_item_56 (by decide) rfl (fun c56 => ?_) (fun c56 => ?_)
        · refine x_iconst (pc' := 64) hC dX7_item_63 rfl ?_
          first | exact well _ _ (by omega) h27.1 (Or.inr rfl) ⟨fun _ => ⟨c30.1, by unfold tkOk; have := c30.2; omega⟩, fun _ => rfl⟩ (fun _ => ⟨b1, b4, by omega, w0.1⟩) | exact well _ _ (by omega) h27.1 (Or.inl rfl) ⟨fun z => absurd z (by decide), fun z => absurd z.2 (by unfold tkOk; omega)⟩ (fun z => absurd z (by decide)) | exact well _ _ (by omega) h27.1 (Or.inl rfl) ⟨fun z => absurd z (by decide), fun z => absurd (show okN (dch nt tx) (p + 1) 1 from ⟨z.1, by have y := z.2; unfold tkOk at y; omega⟩) c30⟩ (fun z => absurd z (by decide))
        · refine x_iconst (pc' := 60) hC dX7_item_59 rfl ?_
          refine x_goto (tgt := 64) hC dX7_item_60 (by decide) ?_
          first | exact well _ _ (by omega) h27.1 (Or.inr rfl) ⟨fun _ => ⟨c30.1, by unfold tkOk; have := c30.2; omega⟩, fun _ => rfl⟩ (fun _ => ⟨b1, b4, by omega, w0.1⟩) | exact well _ _ (by omega) h27.1 (Or.inl rfl) ⟨fun z => absurd z (by decide), fun z => absurd z.2 (by unfold tkOk; omega)⟩ (fun z => absurd z (by decide)) | exact well _ _ (by omega) h27.1 (Or.inl rfl) ⟨fun z => absurd z (by decide), fun z => absurd (show okN (dch nt tx) (p + 1) 1 from ⟨z.1, by have y := z.2; unfold tkOk at y; omega⟩) c30⟩ (fun z => absurd z (by decide))
