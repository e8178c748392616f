theorem WR_weath {T r : Int → Int} {d : Int} (hT : WT T) (hR : WR T r) (hd : 0 ≤ d) : WR T (weath T r d) := by
  have t0 := hT.1
  have t1 := hT.2.1
  have z1 := Int.emod_nonneg d (show T 0 ≠ 0 by omega)
  have z2 := Int.emod_lt_of_pos d (show 0 < T 0 by omega)
  have z3 := Int.emod_nonneg (d / 32) (show T 0 ≠ 0 by omega)
  have z4 := Int.emod_lt_of_pos (d / 32) (show 0 < T 0 by omega)
  have h1 : WR T (if d / 16 % 2 = 0 then waxBy r (d % T 0) 1 else r) := by
    split
    · exact WR_waxBy hR (by omega) (by omega)
    · exact hR
  show WR T (if d / 512 % 3 = 0 then waxBy (if d / 16 % 2 = 0 then waxBy r (d % T 0) 1 else r) (d / 32 % T 0) (-2) else (if d / 16 % 2 = 0 then waxBy r (d % T 0) 1 else r))
  split
  · exact WR_waxBy h1 (by omega) (by omega)
  · exact h1
set_option maxRecDepth 100000 in
set_option maxHeartbeats 4000000 in
theorem c_power {g : xG} {l : Launch} {S : List xS} {μ : xM} {b t : Int} {N : Nat} (ht : t = N) (hN : N ≤ 100) : xCt g l yX6_power cX6_power 4 (some .int) 0 0 0 0 [vI b, vI t] S μ S (xI (fun a μ' => a = powI b N ∧ μ' = μ)) := by
  refine x_enter (by decide) (Nat.le_of_ble_eq_true rfl) ?_
  intro zp ze zs zm za zb zh zc hC hz0
  have loop : ∀ (zn : Nat) (k : Nat) (i pr : Int) (hi : i = k) (hk : k ≤ N) (hp : pr = powI b k), N - k < zn → xX g 4 zp l ze { frames := 0, cells := 0, slots := 0, locals := 0 } zs zm za zb zh zc 0 0 (MQ zb (xQ g S (xI (fun a μ' => a = powI b N ∧ μ' = μ))) za zs 0 0 (xA0 g)) S μ 4 [some (vI b), some (vI t), some (vI pr), some (vI i)] [] := by
    intro zn
    induction zn with
    | zero => intros; rename_i hz; exact absurd hz (Nat.not_lt_zero _)
    | succ zn ih =>
      intro k i pr hi hk hp hn
      subst hi
      refine x_iload_n (pc' := 5) hC dX6_power_4 rfl rfl ?_
      refine x_iload_n (pc' := 6) hC dX6_power_5 rfl rfl ?_
      refine x_icmp_ge (tgt := 19) (pc' := 9) hC dX6_power_6 (by decide) rfl (by omega) (by omega) (fun c6 => ?_) (fun c6 => ?_)
      · refine x_iload_n (pc' := 20) hC dX6_power_19 rfl rfl ?_
        exact x_iret hC dX6_power_20 (xI.mk ⟨by rw [hp, show N = k by omega], rfl⟩)
      · refine x_iload_n (pc' := 10) hC dX6_power_9 rfl rfl ?_
        refine x_iload_n (pc' := 11) hC dX6_power_10 rfl rfl ?_
        refine x_imul (pc' := 12) hC dX6_power_11 rfl ?_
        refine x_istore_n (pc' := 13) hC dX6_power_12 (by decide) rfl rfl ?_
        refine x_iinc (pc' := 16) hC dX6_power_13 rfl (by decide) rfl rfl ?_
        refine x_goto (tgt := 4) hC dX6_power_16 (by decide) ?_
        exact ih (k + 1) _ _ (by omega) (by omega) (by rw [powI, hp]) (by omega)
  refine x_iconst (pc' := 1) hC dX6_power_0 rfl ?_
  refine x_istore_n (pc' := 2) hC dX6_power_1 (by decide) rfl rfl ?_
  refine x_iconst (pc' := 3) hC dX6_power_2 rfl ?_
  refine x_istore_n (pc' := 4) hC dX6_power_3 (by decide) rfl rfl ?_
  exact loop (N + 1) 0 _ _ rfl (by omega) rfl (by omega)
set_option maxRecDepth 100000 in
set_option maxHeartbeats 4000000 in
theorem c_weightOf {g : xG} {l : Launch} {S : List xS} {μ : xM} {k n x : Int} {K N : Nat} (hk : k = K) (hn : n = N) (hN : N < 7) (hK : K < 2 ^ N) (hx : 0 ≤ x ∧ x ≤ 10) : xCt g l yX6_weightOf cX6_weightOf 4 (some .int) 1 23 0 0 [vI k, vI n, vI x] S μ S (xI (fun a μ' => a = chanceF x k N ∧ μ' = μ)) := by
  refine x_enter (by decide) (Nat.le_of_ble_eq_true rfl) ?_
  intro zp ze zs zm za zb zh zc hC hz0
  subst hk
  have hc := chance_all N hN K hK x.toNat (by omega)
  rw [show ((x.toNat : Nat) : Int) = x by omega] at hc
  have h2 : 2 ^ N ≤ 64 := by have : N = 0 ∨ N = 1 ∨ N = 2 ∨ N = 3 ∨ N = 4 ∨ N = 5 ∨ N = 6 := by omega
                             rcases this with h | h | h | h | h | h | h <;> rw [h] <;> decide
  have hb := bcF_all K (by omega)
  refine x_iload_n (pc' := 1) hC dX6_weightOf_0 rfl rfl ?_
  refine x_callS (pc' := 4) (n := 1) hC (c_bitCount) ky_J6_bitCount_0f7a4 ks_J6_bitCount_0f7a4 kl_X6_184 dX6_weightOf_1 rfl rfl ⟨Nat.le_of_ble_eq_true rfl, Nat.le_of_ble_eq_true rfl⟩ (Nat.le_of_ble_eq_true rfl) ⟨Nat.le_refl _, Nat.le_refl _⟩ (Or.inl rfl) rfl (x_kd ?_)
  rw [hb.1]
  refine x_istore_n (pc' := 5) hC dX6_weightOf_4 (by decide) rfl rfl ?_
  refine x_iload_n (pc' := 6) hC dX6_weightOf_5 rfl rfl ?_
  refine x_iload_n (pc' := 7) hC dX6_weightOf_6 rfl rfl ?_
  refine x_callS (pc' := 10) (n := 2) hC (c_power (N := (popN 8 K).toNat) (by omega) (by omega)) ky_X6_power ks_X6_power kl_X6_203 dX6_weightOf_7 rfl rfl ⟨Nat.le_of_ble_eq_true rfl, Nat.le_of_ble_eq_true rfl⟩ (Nat.le_of_ble_eq_true rfl) ⟨Nat.le_refl _, Nat.le_refl _⟩ (Or.inl rfl) rfl (x_kd ?_)
  refine x_bipush (pc' := 12) hC dX6_weightOf_10 (by decide) rfl ?_
  refine x_iload_n (pc' := 13) hC dX6_weightOf_12 rfl rfl ?_
  refine x_isub (pc' := 14) hC dX6_weightOf_13 rfl ?_
  refine x_iload_n (pc' := 15) hC dX6_weightOf_14 rfl rfl ?_
  refine x_iload_n (pc' := 16) hC dX6_weightOf_15 rfl rfl ?_
  refine x_isub (pc' := 17) hC dX6_weightOf_16 rfl ?_
  refine x_callS (pc' := 20) (n := 2) hC (c_power (N := N - (popN 8 K).toNat) (by omega) (by omega)) ky_X6_power ks_X6_power kl_X6_203 dX6_weightOf_17 rfl rfl ⟨Nat.le_of_ble_eq_true rfl, Nat.le_of_ble_eq_true rfl⟩ (Nat.le_of_ble_eq_true rfl) ⟨Nat.le_refl _, Nat.le_refl _⟩ (Or.inl rfl) rfl (x_kd ?_)
  refine x_imul (pc' := 21) hC dX6_weightOf_20 rfl ?_
  exact x_iret hC dX6_weightOf_21 (xI.mk ⟨hc.1.symm, rfl⟩)
set_option maxRecDepth 100000 in
set_option maxHeartbeats 4000000 in
theorem c_govPath {g : xG} {l : Launch} {S : List xS} {μ : xM} {T r : Int → Int} {nt : Int} {tx : Int → Int} {un kp : List (Int → Int)} {sl : List (Int × Int)} {m n z : Int} {N : Nat} (hP : xPre S) (hA : RC μ T r nt tx un kp sl) (hF : WF T r un kp) (hm9 : 0 ≤ m ∧ m < T 3) (hn9 : n = N) (hN9 : N ≤ 6) : xCt g l yX6_governsByPath cX6_governsByPath 5 (some .boolean) 4 91 0 0 [vR g 0, vI m, vI n, vI z] S μ S (xI (fun a μ' => a = (if gov T (pathF T z N 0 r) = m then 1 else 0) ∧ FrI 19 24 μ μ')) := by
  refine x_enter (by decide) (Nat.le_of_ble_eq_true rfl) ?_
  intro zp ze zs zm za zb zh zc hC hz0
  have hT := hF.1
  have hR := hF.2.1.1
  have hy := hF.2.1.2
  have t0 := hT.1
  have t1 := hT.2.1
  have t2 := hT.2.2.1
  have t3 := hT.2.2.2.1
  have hN := hA.2.1
  have hm := hN.mi
  have hs := hN.sp
  have loop : ∀ (zn : Nat) (k y : Nat) (i : Int) (μ1 : xM) (r1 : Int → Int) (hi : i = y) (hk : y + k = N) (h1 : FrI 19 24 μ μ1) (hA1 : SA μ1 19 12 T r1) (h3 : WR T r1) (h4 : pathF T z k y r1 = pathF T z N 0 r), k < zn → xX g 5 zp l ze { frames := 4, cells := 0, slots := 0, locals := 91 } zs zm za zb zh zc 0 0 (MQ zb (xQ g S (xI (fun a μ' => a = (if gov T (pathF T z N 0 r) = m then 1 else 0) ∧ FrI 19 24 μ μ'))) za zs 0 0 (xA0 g)) S μ1 14 [some (vR g 0), some (vI m), some (vI n), some (vI z), some (vI i)] [] := by
    intro zn
    induction zn with
    | zero => intros; rename_i hz; exact absurd hz (Nat.not_lt_zero _)
    | succ zn ih =>
      intro k y i μ1 r1 hi hk h1 hA1 h3 h4 hn
      subst hi
      have g9 := gov_in (T := T) (r := r1) hT
      have p9 := h3.2.1 (gov T r1) g9.1 g9.2
      have cut : ∀ (r2 : Int → Int) (μ2 : xM) (hk2 : 0 < k) (e2 : r2 = if hsb z y = true then waxBy r1 (r1 (18 + gov T r1)) 2 else r1) (f1 : FrI 19 24 μ μ2) (hA2 : SA μ2 19 12 T r2) (f3 : WR T r2), xX g 5 zp l ze { frames := 4, cells := 0, slots := 0, locals := 91 } zs zm za zb zh zc 0 0 (MQ zb (xQ g S (xI (fun a μ' => a = (if gov T (pathF T z N 0 r) = m then 1 else 0) ∧ FrI 19 24 μ μ'))) za zs 0 0 (xA0 g)) S μ2 53 [some (vR g 0), some (vI m), some (vI n), some (vI z), some (vI y)] [] := by
        intro r2 μ2 hk2 e2 f1 hA2 f3
        obtain ⟨k1, rfl⟩ : ∃ k1 : Nat, k = k1 + 1 := ⟨k - 1, by omega⟩
        rw [pathF, ← e2] at h4
        refine x_aload_n (pc' := 54) hC dX6_governsByPath_53 rfl rfl ?_
        refine x_getR (pc' := 57) (b := 19) hC kf_X6_39 dX6_governsByPath_54 (hP 0 _ rfl) rfl rfl ?_
        refine x_callV (pc' := 60) (n := 0) hC (c_oneYear (sTri hP) hA2 hT f3) ky_X4_oneYear kv_X4_oneYear kl_X6_162 dX6_governsByPath_57 (hP 19 _ rfl) rfl rfl rfl rfl ⟨Nat.le_of_ble_eq_true rfl, Nat.le_of_ble_eq_true rfl⟩ (Nat.le_of_ble_eq_true rfl) ⟨Nat.le_refl _, Nat.le_refl _⟩ (Or.inl rfl) rfl (x_kn (fun μ57 h57 => ?_))
        refine x_iinc (pc' := 63) hC dX6_governsByPath_60 rfl (by decide) rfl rfl ?_
        refine x_goto (tgt := 14) hC dX6_governsByPath_63 (by decide) ?_
        exact ih k1 (y + 1) _ _ (goYear T r2) (by omega) (by omega) (f1.tr h57.1.I) (hA2.step (by omega) h57.1 h57.2) (WR_goYear hT f3) h4 (by omega)
      refine x_iload (pc' := 16) hC dX6_governsByPath_14 rfl rfl ?_
      refine x_iload_n (pc' := 17) hC dX6_governsByPath_16 rfl rfl ?_
      refine x_icmp_ge (tgt := 66) (pc' := 20) hC dX6_governsByPath_17 (by decide) rfl (by omega) (by omega) (fun c17 => ?_) (fun c17 => ?_)
      · have k0 : k = 0 := by omega
        subst k0
        rw [pathF] at h4
        refine x_aload_n (pc' := 67) hC dX6_governsByPath_66 rfl rfl ?_
        refine x_getR (pc' := 70) (b := 19) hC kf_X6_39 dX6_governsByPath_67 (hP 0 _ rfl) rfl rfl ?_
        refine x_callV (pc' := 73) (n := 0) hC (c_governor (sTri hP) hA1 hT h3) ky_X4_governor kv_X4_governor kl_X6_156 dX6_governsByPath_70 (hP 19 _ rfl) rfl rfl rfl rfl ⟨Nat.le_of_ble_eq_true rfl, Nat.le_of_ble_eq_true rfl⟩ (Nat.le_of_ble_eq_true rfl) ⟨Nat.le_refl _, Nat.le_refl _⟩ (Or.inl rfl) rfl (x_kd ?_)
        refine x_iload_n (pc' := 74) hC dX6_governsByPath_73 rfl rfl ?_
        refine x_icmp_ne (tgt := 81) (pc' := 77) hC dX6_governsByPath_74 (by decide) rfl (by omega) (by omega) (fun c74 => ?_) (fun c74 => ?_)
        · refine x_iconst (pc' := 82) hC dX6_governsByPath_81 rfl ?_
          exact x_zret hC dX6_governsByPath_82 (by first | exact Or.inl rfl | exact Or.inr rfl | omega) (xI.mk ⟨by rw [← h4]; first | rw [if_pos (by omega)] | rw [if_neg (by omega)], h1⟩)
        · refine x_iconst (pc' := 78) hC dX6_governsByPath_77 rfl ?_
          refine x_goto (tgt := 82) hC dX6_governsByPath_78 (by decide) ?_
          exact x_zret hC dX6_governsByPath_82 (by first | exact Or.inl rfl | exact Or.inr rfl | omega) (xI.mk ⟨by rw [← h4]; first | rw [if_pos (by omega)] | rw [if_neg (by omega)], h1⟩)
      · refine x_iload_n (pc' := 21) hC dX6_governsByPath_20 rfl rfl ?_
        refine x_iload (pc' := 23) hC dX6_governsByPath_21 rfl rfl ?_
        refine x_ishr (pc' := 24) hC dX6_governsByPath_23 rfl ?_
        refine x_iconst (pc' := 25) hC dX6_governsByPath_24 rfl ?_
        refine x_iand (pc' := 26) hC dX6_governsByPath_25 rfl ?_
        refine x_iconst (pc' := 27) hC dX6_governsByPath_26 rfl ?_
        refine x_icmp_ne (tgt := 53) (pc' := 30) hC dX6_governsByPath_27 (by decide) rfl (iAnd_rg _ _) (by omega) (fun c27 => ?_) (fun c27 => ?_)
        · first | exact cut _ _ (by omega) (if_neg (by simpa [hsb] using c27)).symm h1 hA1 h3 | exact cut _ _ (by omega) (if_pos (by simpa [hsb] using c27)).symm (h1.tr h50.1.I) (hA1.step (by omega) h50.1 h50.2) (WR_waxBy h3 (by omega) (by omega))
        · refine x_aload_n (pc' := 31) hC dX6_governsByPath_30 rfl rfl ?_
          refine x_getR (pc' := 34) (b := 19) hC kf_X6_39 dX6_governsByPath_31 (hP 0 _ rfl) rfl rfl ?_
          refine x_aload_n (pc' := 35) hC dX6_governsByPath_34 rfl rfl ?_
          refine x_getR (pc' := 38) (b := 19) hC kf_X6_39 dX6_governsByPath_35 (hP 0 _ rfl) rfl rfl ?_
          refine x_getR (pc' := 41) (b := 21) hC kf_X6_103 dX6_governsByPath_38 (hP 19 _ rfl) rfl rfl ?_
          refine x_aload_n (pc' := 42) hC dX6_governsByPath_41 rfl rfl ?_
          refine x_getR (pc' := 45) (b := 19) hC kf_X6_39 dX6_governsByPath_42 (hP 0 _ rfl) rfl rfl ?_
          refine x_callV (pc' := 48) (n := 0) hC (c_governor (sTri hP) hA1 hT h3) ky_X4_governor kv_X4_governor kl_X6_156 dX6_governsByPath_45 (hP 19 _ rfl) rfl rfl rfl rfl ⟨Nat.le_of_ble_eq_true rfl, Nat.le_of_ble_eq_true rfl⟩ (Nat.le_of_ble_eq_true rfl) ⟨Nat.le_refl _, Nat.le_refl _⟩ (Or.inl rfl) rfl (x_kd ?_)
          refine x_iald (pc' := 49) hC dX6_governsByPath_48 (hP 21 _ rfl) (by omega) (by decide) rfl ?_
          rw [hA1.pc (by omega) (by omega)]
          refine x_iconst (pc' := 50) hC dX6_governsByPath_49 rfl ?_
          refine x_callV (pc' := 53) (n := 2) hC (c_addWax (sTri hP) hA1 hT h3 p9 (by omega)) ky_X4_addWax kv_X4_addWax kl_X6_145 dX6_governsByPath_50 (hP 19 _ rfl) rfl rfl rfl rfl ⟨Nat.le_of_ble_eq_true rfl, Nat.le_of_ble_eq_true rfl⟩ (Nat.le_of_ble_eq_true rfl) ⟨Nat.le_refl _, Nat.le_refl _⟩ (Or.inl rfl) rfl (x_kn (fun μ50 h50 => ?_))
          first | exact cut _ _ (by omega) (if_neg (by simpa [hsb] using c27)).symm h1 hA1 h3 | exact cut _ _ (by omega) (if_pos (by simpa [hsb] using c27)).symm (h1.tr h50.1.I) (hA1.step (by omega) h50.1 h50.2) (WR_waxBy h3 (by omega) (by omega))
  refine x_aload_n (pc' := 1) hC dX6_governsByPath_0 rfl rfl ?_
  refine x_getR (pc' := 4) (b := 19) hC kf_X6_39 dX6_governsByPath_1 (hP 0 _ rfl) rfl rfl ?_
  refine x_aload_n (pc' := 5) hC dX6_governsByPath_4 rfl rfl ?_
  refine x_getR (pc' := 8) (b := 14) hC kf_X6_35 dX6_governsByPath_5 (hP 0 _ rfl) rfl rfl ?_
  refine x_callV (pc' := 11) (n := 1) hC (c_copy (sTri hP) (sNow hP) (by omega) hN.2.2) ky_X4_copy kv_X4_copy kl_X6_159 dX6_governsByPath_8 (hP 19 _ rfl) rfl rfl rfl rfl ⟨Nat.le_of_ble_eq_true rfl, Nat.le_of_ble_eq_true rfl⟩ (Nat.le_of_ble_eq_true rfl) ⟨Nat.le_refl _, Nat.le_refl _⟩ (Or.inl rfl) rfl (x_kn (fun μ8 h8 => ?_))
  refine x_iconst (pc' := 12) hC dX6_governsByPath_11 rfl ?_
  refine x_istore (pc' := 14) hC dX6_governsByPath_12 (by decide) rfl rfl ?_
  exact loop (N + 1) N 0 _ _ r rfl (by omega) h8.1.I (xTrial hT hN h8) hR rfl (by omega)
set_option maxRecDepth 100000 in
set_option maxHeartbeats 4000000 in
theorem c_gcd {g : xG} {l : Launch} {S : List xS} {μ : xM} {a b : Int} {A B : Nat} (ha : a = A) (hb : b = B) (hA : A ≤ 100000000) (hB : 0 < B ∧ B ≤ 1000000) : xCt g l yX6_commonDivisor cX6_commonDivisor 6 (some .int) 1 21 0 0 [vI a, vI b] S μ S (xI (fun x μ' => x = (Nat.gcd A B : Int) ∧ μ' = μ)) := by
  refine x_enter (by decide) (Nat.le_of_ble_eq_true rfl) ?_
  intro zp ze zs zm za zb zh zc hC hz0
  have hg := gcdF_100 hB.1 hB.2 hA
  have hg0 : 0 < Nat.gcd A B := Nat.gcd_pos_of_pos_right _ hB.1
  have hg1 : Nat.gcd A B ≤ B := Nat.le_of_dvd hB.1 (Nat.gcd_dvd_right A B)
  have loop : ∀ (zn : Nat) (k : Nat) (i : Int) (L s : Nat) (L9 s9 : Int) (hL : L9 = L) (hs : s9 = s) (hi : i + k = 100) (hi0 : 0 ≤ i) (h1 : L ≤ 100000000) (h2 : s ≤ 100000000) (h4 : gcdF k L s = gcdF 100 B A), k < zn → xX g 6 zp l ze { frames := 1, cells := 0, slots := 0, locals := 21 } zs zm za zb zh zc 0 0 (MQ zb (xQ g S (xI (fun x μ' => x = (Nat.gcd A B : Int) ∧ μ' = μ))) za zs 0 0 (xA0 g)) S μ 7 [some (vI a), some (vI b), some (vI L9), some (vI s9), some (vI i), none] [] := by
    intro zn
    induction zn with
    | zero => intros; rename_i hz; exact absurd hz (Nat.not_lt_zero _)
    | succ zn ih =>
      intro k i L s L9 s9 hL hs hi hi0 h1 h2 h4 hn
      subst hL
      subst hs
      refine x_iload (pc' := 9) hC dX6_commonDivisor_7 rfl rfl ?_
      refine x_bipush (pc' := 11) hC dX6_commonDivisor_9 (by decide) rfl ?_
      refine x_icmp_ge (tgt := 34) (pc' := 14) hC dX6_commonDivisor_11 (by decide) rfl (by omega) (by omega) (fun c11 => ?_) (fun c11 => ?_)
      · have e7 : L = Nat.gcd A B := by rw [← hg, ← h4, show k = 0 by omega]; rfl
        refine x_iload_n (pc' := 35) hC dX6_commonDivisor_34 rfl rfl ?_
        refine x_iconst (pc' := 36) hC dX6_commonDivisor_35 rfl ?_
        refine x_mmax (pc' := 39) hC kl_X6_242 dX6_commonDivisor_36 (by omega) (by omega) ⟨Nat.le_of_ble_eq_true rfl, Nat.le_of_ble_eq_true rfl⟩ (Nat.le_of_ble_eq_true rfl) ⟨Nat.le_refl _, Nat.le_refl _⟩ rfl ?_
        exact x_iret hC dX6_commonDivisor_39 (xI.mk ⟨by omega, rfl⟩)
      · refine x_iload_n (pc' := 15) hC dX6_commonDivisor_14 rfl rfl ?_
        refine x_if_eq (tgt := 34) (pc' := 18) hC dX6_commonDivisor_15 (by decide) rfl (by omega) (fun c15 => ?_) (fun c15 => ?_)
        · have e7 : L = Nat.gcd A B := by rw [← hg, ← h4]; cases k with | zero => rfl | succ k => rw [gcdF, if_pos (by omega)]
          refine x_iload_n (pc' := 35) hC dX6_commonDivisor_34 rfl rfl ?_
          refine x_iconst (pc' := 36) hC dX6_commonDivisor_35 rfl ?_
          refine x_mmax (pc' := 39) hC kl_X6_242 dX6_commonDivisor_36 (by omega) (by omega) ⟨Nat.le_of_ble_eq_true rfl, Nat.le_of_ble_eq_true rfl⟩ (Nat.le_of_ble_eq_true rfl) ⟨Nat.le_refl _, Nat.le_refl _⟩ rfl ?_
          exact x_iret hC dX6_commonDivisor_39 (xI.mk ⟨by omega, rfl⟩)
        · obtain ⟨k1, rfl⟩ : ∃ k1 : Nat, k = k1 + 1 := ⟨k - 1, by omega⟩
          rw [gcdF, if_neg (by omega)] at h4
          refine x_iload_n (pc' := 19) hC dX6_commonDivisor_18 rfl rfl ?_
          refine x_iload_n (pc' := 20) hC dX6_commonDivisor_19 rfl rfl ?_
          refine x_irem (pc' := 21) hC dX6_commonDivisor_20 (by omega) (by omega) rfl ?_
          rw [i_rem (by omega) (by omega)]
          refine x_istore (pc' := 23) hC dX6_commonDivisor_21 (by decide) rfl rfl ?_
          refine x_iload_n (pc' := 24) hC dX6_commonDivisor_23 rfl rfl ?_
          refine x_istore_n (pc' := 25) hC dX6_commonDivisor_24 (by decide) rfl rfl ?_
          refine x_iload (pc' := 27) hC dX6_commonDivisor_25 rfl rfl ?_
          refine x_istore_n (pc' := 28) hC dX6_commonDivisor_27 (by decide) rfl rfl ?_
          refine x_iinc (pc' := 31) hC dX6_commonDivisor_28 rfl (by decide) rfl rfl ?_
          refine x_goto (tgt := 7) hC dX6_commonDivisor_31 (by decide) ?_
          refine x_vs (vs' := [some (vI a), some (vI b), some (vI s), some (vI ((L : Int) % s)), some (vI (i + 1)), none]) (by intro i v; match i with | 0 => exact id | 1 => exact id | 2 => exact id | 3 => exact id | 4 => exact id | 5 => (intro h; cases h) | i + 6 => (intro h; cases h)) ?_
          exact ih k1 _ s (L % s) _ _ rfl (by omega) (by omega) (by omega) (by omega) (by have := Nat.mod_lt L (show 0 < s by omega); omega) h4 (by omega)
  refine x_iload_n (pc' := 1) hC dX6_commonDivisor_0 rfl rfl ?_
  refine x_istore_n (pc' := 2) hC dX6_commonDivisor_1 (by decide) rfl rfl ?_
  refine x_iload_n (pc' := 3) hC dX6_commonDivisor_2 rfl rfl ?_
  refine x_istore_n (pc' := 4) hC dX6_commonDivisor_3 (by decide) rfl rfl ?_
  refine x_iconst (pc' := 5) hC dX6_commonDivisor_4 rfl ?_
  refine x_istore (pc' := 7) hC dX6_commonDivisor_5 (by decide) rfl rfl ?_
  refine x_vs (vs' := [some (vI a), some (vI b), some (vI b), some (vI a), some (vI 0), none]) (by intro i v; match i with | 0 => exact id | 1 => exact id | 2 => exact id | 3 => exact id | 4 => exact id | 5 => (intro h; cases h) | i + 6 => (intro h; cases h)) ?_
  exact loop 101 100 _ _ _ _ _ hb ha (by omega) (by omega) (by omega) (by omega) rfl (by omega)
set_option maxRecDepth 100000 in
set_option maxHeartbeats 4000000 in
theorem k_likely {g : xG} {l : Launch} {S : List xS} {μ : xM} {T r : Int → Int} {nt : Int} {tx : Int → Int} {un kp : List (Int → Int)} {sl : List (Int × Int)} {m n x w : Int} (hP : xPre S) (hA : RC μ T r nt tx un kp sl) (hF : WF T r un kp) (hm : -2147483648 ≤ m ∧ m < 2147483648) (hn : -2147483648 ≤ n ∧ n < 2147483648) (hx : -2147483648 ≤ x ∧ x < 2147483648) (hw : -2147483648 ≤ w ∧ w < 2147483648) : xCt g l yX6_likely cX6_likely 8 (some .int) 5 115 0 0 [vR g 0, vI m, vI n, vI x, vI w] S μ S (xI (fun a μ' => a = aLikely T r m n x w ∧ RC μ' T r nt tx un kp sl ∧ FrI 0 81 μ μ')) := by
  refine x_enter (by decide) (Nat.le_of_ble_eq_true rfl) ?_
  intro zp ze zs zm za zb zh zc hC hz0
  have hT := hF.1
  have hR := hF.2.1.1
  have hy := hF.2.1.2
  have t0 := hT.1
  have t1 := hT.2.1
  have t2 := hT.2.2.1
  have t3 := hT.2.2.2.1
  have hN := hA.2.1
  have hm := hN.mi
  have hs := hN.sp
  have loop : ∀ (zn : Nat) (k : Nat) (i ab : Int) (μ1 : xM) (b1 : 0 ≤ m ∧ m < T 3) (b2 : 0 ≤ n ∧ n ≤ 6) (b3 : 0 ≤ x ∧ x ≤ 10) (b4 : 0 ≤ w ∧ w ≤ 1) (hi : i = k) (hk : k ≤ 2 ^ n.toNat) (hab : ab = aboveF T r m x n.toNat k) (h1 : FrI 19 24 μ μ1), 2 ^ n.toNat - k < zn → xX g 8 zp l ze { frames := 5, cells := 0, slots := 0, locals := 115 } zs zm za zb zh zc 0 0 (MQ zb (xQ g S (xI (fun a μ' => a = aLikely T r m n x w ∧ RC μ' T r nt tx un kp sl ∧ FrI 0 81 μ μ'))) za zs 0 0 (xA0 g)) S μ1 49 [some (vR g 0), some (vI m), some (vI n), some (vI x), some (vI w), some (vI ab), some (vI i), none] [] := by
    intro zn
    induction zn with
    | zero => intros; rename_i hz; exact absurd hz (Nat.not_lt_zero _)
    | succ zn ih =>
      intro k i ab μ1 b1 b2 b3 b4 hi hk hab h1 hn
      subst hi
      have q1 := aboveF_rg (T := T) (r := r) (m := m) (x := x) (n := n.toNat) (by omega) b3 k hk
      have q2 := shl1_all n.toNat (by omega)
      rw [show ((n.toNat : Nat) : Int) = n by omega] at q2
      have q3 := pow10_all n.toNat (by omega)
      have q4 : 2 ^ n.toNat ≤ 64 := by have : n.toNat = 0 ∨ n.toNat = 1 ∨ n.toNat = 2 ∨ n.toNat = 3 ∨ n.toNat = 4 ∨ n.toNat = 5 ∨ n.toNat = 6 := by omega
                                       rcases this with h | h | h | h | h | h | h <;> rw [h] <;> decide
      refine x_iload (pc' := 51) hC dX6_likely_49 rfl rfl ?_
      refine x_iconst (pc' := 52) hC dX6_likely_51 rfl ?_
      refine x_iload_n (pc' := 53) hC dX6_likely_52 rfl rfl ?_
      refine x_ishl (pc' := 54) hC dX6_likely_53 rfl ?_
      rw [q2]
      refine x_icmp_ge (tgt := 95) (pc' := 57) hC dX6_likely_54 (by decide) rfl (by omega) (by omega) (fun c54 => ?_) (fun c54 => ?_)
      · have k0 : k = 2 ^ n.toNat := by omega
        subst k0
        have w1 := Nat.gcd_pos_of_pos_right (aboveF T r m x n.toNat (2 ^ n.toNat)).toNat (show 0 < (powI 10 n.toNat).toNat by omega)
        have w2 := Nat.le_of_dvd (show 0 < (powI 10 n.toNat).toNat by omega) (Nat.gcd_dvd_right (aboveF T r m x n.toNat (2 ^ n.toNat)).toNat (powI 10 n.toNat).toNat)
        refine x_bipush (pc' := 97) hC dX6_likely_95 (by decide) rfl ?_
        refine x_iload_n (pc' := 98) hC dX6_likely_97 rfl rfl ?_
        refine x_callS (pc' := 101) (n := 2) hC (c_power (N := n.toNat) (by omega) (by omega)) ky_X6_power ks_X6_power kl_X6_203 dX6_likely_98 rfl rfl ⟨Nat.le_of_ble_eq_true rfl, Nat.le_of_ble_eq_true rfl⟩ (Nat.le_of_ble_eq_true rfl) ⟨Nat.le_refl _, Nat.le_refl _⟩ (Or.inl rfl) rfl (x_kd ?_)
        refine x_istore (pc' := 103) hC dX6_likely_101 (by decide) rfl rfl ?_
        refine x_iload (pc' := 105) hC dX6_likely_103 rfl rfl ?_
        refine x_iload (pc' := 107) hC dX6_likely_105 rfl rfl ?_
        refine x_callS (pc' := 110) (n := 2) hC (c_gcd (A := (aboveF T r m x n.toNat (2 ^ n.toNat)).toNat) (B := (powI 10 n.toNat).toNat) (by omega) (by omega) (by omega) (by omega)) ky_X6_commonDivisor ks_X6_commonDivisor kl_X6_207 dX6_likely_107 rfl rfl ⟨Nat.le_of_ble_eq_true rfl, Nat.le_of_ble_eq_true rfl⟩ (Nat.le_of_ble_eq_true rfl) ⟨Nat.le_refl _, Nat.le_refl _⟩ (Or.inl rfl) rfl (x_kd ?_)
        refine x_istore (pc' := 112) hC dX6_likely_110 (by decide) rfl rfl ?_
        refine x_iload (pc' := 114) hC dX6_likely_112 rfl rfl ?_
        refine x_if_ne (tgt := 122) (pc' := 117) hC dX6_likely_114 (by decide) rfl (by omega) (fun c114 => ?_) (fun c114 => ?_)
        · refine x_iload (pc' := 124) hC dX6_likely_122 rfl rfl ?_
          refine x_iload (pc' := 126) hC dX6_likely_124 rfl rfl ?_
          refine x_idiv (pc' := 127) hC dX6_likely_126 (by omega) (by omega) rfl ?_
          rw [i_div (by omega) (by omega)]
          exact x_iret hC dX6_likely_127 (xI.mk ⟨by
      unfold aLikely
      rw [if_pos ⟨b1, b2, b3, b4⟩, show Int.gcd (aboveF T r m x n.toNat (2 ^ n.toNat)) (powI 10 n.toNat) = Nat.gcd (aboveF T r m x n.toNat (2 ^ n.toNat)).toNat (powI 10 n.toNat).toNat by unfold Int.gcd; congr 1 <;> omega]
      first | rw [if_neg c114] | rw [if_pos (by omega), hab], hA.scr h1 (by omega), h1.mono (by omega) (by omega)⟩)
        · refine x_iload (pc' := 119) hC dX6_likely_117 rfl rfl ?_
          refine x_goto (tgt := 124) hC dX6_likely_119 (by decide) ?_
          refine x_iload (pc' := 126) hC dX6_likely_124 rfl rfl ?_
          refine x_idiv (pc' := 127) hC dX6_likely_126 (by omega) (by omega) rfl ?_
          rw [i_div (by omega) (by omega)]
          exact x_iret hC dX6_likely_127 (xI.mk ⟨by
      unfold aLikely
      rw [if_pos ⟨b1, b2, b3, b4⟩, show Int.gcd (aboveF T r m x n.toNat (2 ^ n.toNat)) (powI 10 n.toNat) = Nat.gcd (aboveF T r m x n.toNat (2 ^ n.toNat)).toNat (powI 10 n.toNat).toNat by unfold Int.gcd; congr 1 <;> omega]
      first | rw [if_neg c114] | rw [if_pos (by omega), hab], hA.scr h1 (by omega), h1.mono (by omega) (by omega)⟩)
      · refine x_iload (pc' := 59) hC dX6_likely_57 rfl rfl ?_
        refine x_iload_n (pc' := 60) hC dX6_likely_59 rfl rfl ?_
        refine x_iload_n (pc' := 61) hC dX6_likely_60 rfl rfl ?_
        refine x_callS (pc' := 64) (n := 3) hC (c_weightOf (K := k) (N := n.toNat) rfl (by omega) (by omega) (by omega) b3) ky_X6_weightOf ks_X6_weightOf kl_X6_196 dX6_likely_61 rfl rfl ⟨Nat.le_of_ble_eq_true rfl, Nat.le_of_ble_eq_true rfl⟩ (Nat.le_of_ble_eq_true rfl) ⟨Nat.le_refl _, Nat.le_refl _⟩ (Or.inl rfl) rfl (x_kd ?_)
        refine x_istore (pc' := 66) hC dX6_likely_64 (by decide) rfl rfl ?_
        refine x_iload (pc' := 68) hC dX6_likely_66 rfl rfl ?_
        have hc := chance_all n.toNat (by omega) k (by omega) x.toNat (by omega)
        rw [show ((x.toNat : Nat) : Int) = x by omega] at hc
        refine x_if_le (tgt := 89) (pc' := 71) hC dX6_likely_68 (by decide) rfl (by omega) (fun c68 => ?_) (fun c68 => ?_)
        · refine x_iinc (pc' := 92) hC dX6_likely_89 rfl (by decide) rfl rfl ?_
          refine x_goto (tgt := 49) hC dX6_likely_92 (by decide) ?_
          refine x_vs (vs' := [some (vR g 0), some (vI m), some (vI n), some (vI x), some (vI w), some (vI _), some (vI ((k : Int) + 1)), none]) (by intro i v; match i with | 0 => exact id | 1 => exact id | 2 => exact id | 3 => exact id | 4 => exact id | 5 => exact id | 6 => exact id | 7 => (intro h; cases h) | i + 8 => (intro h; cases h)) ?_
          have hc := chance_all n.toNat (by omega) k (by omega) x.toNat (by omega)
          rw [show ((x.toNat : Nat) : Int) = x by omega] at hc
          first | exact ih (k + 1) _ _ _ b1 b2 b3 b4 (by omega) (by omega) (by rw [aboveF, if_pos c79, hab]) (h1.tr h76) (by omega) | exact ih (k + 1) _ _ _ b1 b2 b3 b4 (by omega) (by omega) (by rw [aboveF, if_neg c79, hab, Int.add_zero]) (h1.tr h76) (by omega) | exact ih (k + 1) _ _ _ b1 b2 b3 b4 (by omega) (by omega) (by rw [aboveF, hab, show chanceF x k n.toNat = 0 by omega]; split <;> omega) h1 (by omega)
        · refine x_aload_n (pc' := 72) hC dX6_likely_71 rfl rfl ?_
          refine x_iload_n (pc' := 73) hC dX6_likely_72 rfl rfl ?_
          refine x_iload_n (pc' := 74) hC dX6_likely_73 rfl rfl ?_
          refine x_iload (pc' := 76) hC dX6_likely_74 rfl rfl ?_
          refine x_callV (pc' := 79) (n := 3) hC (c_govPath (N := n.toNat) hP (hA.scr h1 (by omega)) hF b1 (by omega) (by omega)) ky_X6_governsByPath kv_X6_governsByPath kl_X6_200 dX6_likely_76 (hP 0 _ rfl) rfl rfl rfl rfl ⟨Nat.le_of_ble_eq_true rfl, Nat.le_of_ble_eq_true rfl⟩ (Nat.le_of_ble_eq_true rfl) ⟨Nat.le_refl _, Nat.le_refl _⟩ (Or.inl rfl) rfl (x_kv (fun μ76 h76 => ?_))
          refine x_ifb_eq (tgt := 89) (pc' := 82) hC dX6_likely_79 (by decide) rfl (fun c79 => ?_) (fun c79 => ?_)
          · refine x_iinc (pc' := 92) hC dX6_likely_89 rfl (by decide) rfl rfl ?_
            refine x_goto (tgt := 49) hC dX6_likely_92 (by decide) ?_
            refine x_vs (vs' := [some (vR g 0), some (vI m), some (vI n), some (vI x), some (vI w), some (vI _), some (vI ((k : Int) + 1)), none]) (by intro i v; match i with | 0 => exact id | 1 => exact id | 2 => exact id | 3 => exact id | 4 => exact id | 5 => exact id | 6 => exact id | 7 => (intro h; cases h) | i + 8 => (intro h; cases h)) ?_
            have hc := chance_all n.toNat (by omega) k (by omega) x.toNat (by omega)
            rw [show ((x.toNat : Nat) : Int) = x by omega] at hc
            first | exact ih (k + 1) _ _ _ b1 b2 b3 b4 (by omega) (by omega) (by rw [aboveF, if_pos c79, hab]) (h1.tr h76) (by omega) | exact ih (k + 1) _ _ _ b1 b2 b3 b4 (by omega) (by omega) (by rw [aboveF, if_neg c79, hab, Int.add_zero]) (h1.tr h76) (by omega) | exact ih (k + 1) _ _ _ b1 b2 b3 b4 (by omega) (by omega) (by rw [aboveF, hab, show chanceF x k n.toNat = 0 by omega]; split <;> omega) h1 (by omega)
          · refine x_iload (pc' := 84) hC dX6_likely_82 rfl rfl ?_
            refine x_iload (pc' := 86) hC dX6_likely_84 rfl rfl ?_
            refine x_iadd (pc' := 87) hC dX6_likely_86 rfl ?_
            refine x_istore (pc' := 89) hC dX6_likely_87 (by decide) rfl rfl ?_
            refine x_iinc (pc' := 92) hC dX6_likely_89 rfl (by decide) rfl rfl ?_
            refine x_goto (tgt := 49) hC dX6_likely_92 (by decide) ?_
            refine x_vs (vs' := [some (vR g 0), some (vI m), some (vI n), some (vI x), some (vI w), some (vI _), some (vI ((k : Int) + 1)), none]) (by intro i v; match i with | 0 => exact id | 1 => exact id | 2 => exact id | 3 => exact id | 4 => exact id | 5 => exact id | 6 => exact id | 7 => (intro h; cases h) | i + 8 => (intro h; cases h)) ?_
            have hc := chance_all n.toNat (by omega) k (by omega) x.toNat (by omega)
            rw [show ((x.toNat : Nat) : Int) = x by omega] at hc
            first | exact ih (k + 1) _ _ _ b1 b2 b3 b4 (by omega) (by omega) (by rw [aboveF, if_pos c79, hab]) (h1.tr h76) (by omega) | exact ih (k + 1) _ _ _ b1 b2 b3 b4 (by omega) (by omega) (by rw [aboveF, if_neg c79, hab, Int.add_zero]) (h1.tr h76) (by omega) | exact ih (k + 1) _ _ _ b1 b2 b3 b4 (by omega) (by omega) (by rw [aboveF, hab, show chanceF x k n.toNat = 0 by omega]; split <;> omega) h1 (by omega)
  refine x_aload_n (pc' := 1) hC dX6_likely_0 rfl rfl ?_
  refine x_getR (pc' := 4) (b := 12) hC kf_X6_26 dX6_likely_1 (hP 0 _ rfl) rfl rfl ?_
  refine x_iload_n (pc' := 5) hC dX6_likely_4 rfl rfl ?_
  refine x_callV (pc' := 8) (n := 1) hC (c_hasMinister (T := T) (sPl hP) hN.1 hT (by omega)) ky_X0_hasMinister kv_X0_hasMinister kl_X6_95 dX6_likely_5 (hP 12 _ rfl) rfl rfl rfl rfl ⟨Nat.le_of_ble_eq_true rfl, Nat.le_of_ble_eq_true rfl⟩ (Nat.le_of_ble_eq_true rfl) ⟨Nat.le_refl _, Nat.le_refl _⟩ (Or.inl rfl) rfl (x_kd ?_)
  refine x_ifb_eq (tgt := 41) (pc' := 11) hC dX6_likely_8 (by decide) rfl (fun c8 => ?_) (fun c8 => ?_)
  · refine x_iconst (pc' := 42) hC dX6_likely_41 rfl ?_
    exact x_iret hC dX6_likely_42 (xI.mk ⟨by unfold aLikely; rw [if_neg (by omega)], hA, FrI.rf⟩)
  · refine x_iload_n (pc' := 12) hC dX6_likely_11 rfl rfl ?_
    refine x_iconst (pc' := 13) hC dX6_likely_12 rfl ?_
    refine x_bipush (pc' := 15) hC dX6_likely_13 (by decide) rfl ?_
    refine x_callS (pc' := 18) (n := 3) hC (c_within (by omega) (by omega) (by omega)) ky_X6_within ks_X6_within kl_X6_84 dX6_likely_15 rfl rfl ⟨Nat.le_of_ble_eq_true rfl, Nat.le_of_ble_eq_true rfl⟩ (Nat.le_of_ble_eq_true rfl) ⟨Nat.le_refl _, Nat.le_refl _⟩ (Or.inl rfl) rfl (x_kd ?_)
    refine x_ifb_eq (tgt := 41) (pc' := 21) hC dX6_likely_18 (by decide) rfl (fun c18 => ?_) (fun c18 => ?_)
    · refine x_iconst (pc' := 42) hC dX6_likely_41 rfl ?_
      exact x_iret hC dX6_likely_42 (xI.mk ⟨by unfold aLikely; rw [if_neg (by omega)], hA, FrI.rf⟩)
    · refine x_iload_n (pc' := 22) hC dX6_likely_21 rfl rfl ?_
      refine x_iconst (pc' := 23) hC dX6_likely_22 rfl ?_
      refine x_bipush (pc' := 25) hC dX6_likely_23 (by decide) rfl ?_
      refine x_callS (pc' := 28) (n := 3) hC (c_within (by omega) (by omega) (by omega)) ky_X6_within ks_X6_within kl_X6_84 dX6_likely_25 rfl rfl ⟨Nat.le_of_ble_eq_true rfl, Nat.le_of_ble_eq_true rfl⟩ (Nat.le_of_ble_eq_true rfl) ⟨Nat.le_refl _, Nat.le_refl _⟩ (Or.inl rfl) rfl (x_kd ?_)
      refine x_ifb_eq (tgt := 41) (pc' := 31) hC dX6_likely_28 (by decide) rfl (fun c28 => ?_) (fun c28 => ?_)
      · refine x_iconst (pc' := 42) hC dX6_likely_41 rfl ?_
        exact x_iret hC dX6_likely_42 (xI.mk ⟨by unfold aLikely; rw [if_neg (by omega)], hA, FrI.rf⟩)
      · refine x_iload (pc' := 33) hC dX6_likely_31 rfl rfl ?_
        refine x_iconst (pc' := 34) hC dX6_likely_33 rfl ?_
        refine x_iconst (pc' := 35) hC dX6_likely_34 rfl ?_
        refine x_callS (pc' := 38) (n := 3) hC (c_within (by omega) (by omega) (by omega)) ky_X6_within ks_X6_within kl_X6_84 dX6_likely_35 rfl rfl ⟨Nat.le_of_ble_eq_true rfl, Nat.le_of_ble_eq_true rfl⟩ (Nat.le_of_ble_eq_true rfl) ⟨Nat.le_refl _, Nat.le_refl _⟩ (Or.inl rfl) rfl (x_kd ?_)
        refine x_ifb_ne (tgt := 43) (pc' := 41) hC dX6_likely_38 (by decide) rfl (fun c38 => ?_) (fun c38 => ?_)
        · refine x_iconst (pc' := 44) hC dX6_likely_43 rfl ?_
          refine x_istore (pc' := 46) hC dX6_likely_44 (by decide) rfl rfl ?_
          refine x_iconst (pc' := 47) hC dX6_likely_46 rfl ?_
          refine x_istore (pc' := 49) hC dX6_likely_47 (by decide) rfl rfl ?_
          exact loop (2 ^ n.toNat + 1) 0 _ _ μ c8 c18 c28 c38 rfl (Nat.zero_le _) rfl FrI.rf (Nat.lt_succ_of_le (Nat.sub_le _ _))
        · refine x_iconst (pc' := 42) hC dX6_likely_41 rfl ?_
          exact x_iret hC dX6_likely_42 (xI.mk ⟨by unfold aLikely; rw [if_neg (by omega)], hA, FrI.rf⟩)
set_option maxRecDepth 100000 in
set_option maxHeartbeats 4000000 in
theorem c_draw {g : xG} {l : Launch} {S : List xS} {μ : xM} {z y : Int} (hz : 0 ≤ z ∧ z ≤ 9999) (hy : 0 ≤ y ∧ y < 100) : xCt g l yX6_draw cX6_draw 4 (some .int) 0 0 0 0 [vI z, vI y] S μ S (xI (fun a μ' => a = drawF z y ∧ μ' = μ)) := by
  refine x_enter (by decide) (Nat.le_of_ble_eq_true rfl) ?_
  intro zp ze zs zm za zb zh zc hC hz0
  have sq := sq_rg (x := 7919 * z + 6151 * y + 1) (by omega)
  refine x_ldc2 (pc' := 3) (a := 7919) hC kc_X6_234 dX6_draw_0 (by decide) rfl ?_
  refine x_iload_n (pc' := 4) hC dX6_draw_3 rfl rfl ?_
  refine x_i2l (pc' := 5) hC dX6_draw_4 (by omega) rfl ?_
  refine x_lmul (pc' := 6) hC dX6_draw_5 rfl ?_
  refine x_ldc2 (pc' := 9) (a := 6151) hC kc_X6_236 dX6_draw_6 (by decide) rfl ?_
  refine x_iload_n (pc' := 10) hC dX6_draw_9 rfl rfl ?_
  refine x_i2l (pc' := 11) hC dX6_draw_10 (by omega) rfl ?_
  refine x_lmul (pc' := 12) hC dX6_draw_11 rfl ?_
  refine x_ladd (pc' := 13) hC dX6_draw_12 rfl ?_
  refine x_lconst (pc' := 14) (a := 1) hC dX6_draw_13 (by decide) rfl ?_
  refine x_ladd (pc' := 15) hC dX6_draw_14 rfl ?_
  refine x_lstore_n (pc' := 16) hC dX6_draw_15 (by decide) rfl rfl ?_
  refine x_lload_n (pc' := 17) hC dX6_draw_16 rfl rfl ?_
  refine x_lload_n (pc' := 18) hC dX6_draw_17 rfl rfl ?_
  refine x_lmul (pc' := 19) hC dX6_draw_18 rfl ?_
  refine x_ldc2 (pc' := 22) (a := 65521) hC kc_X6_238 dX6_draw_19 (by decide) rfl ?_
  refine x_lrem (pc' := 23) hC dX6_draw_22 (by omega) (by omega) rfl ?_
  rw [l_rem (by omega) (by omega)]
  refine x_ldc2 (pc' := 26) (a := 2) hC kc_X6_240 dX6_draw_23 (by decide) rfl ?_
  refine x_ldiv (pc' := 27) hC dX6_draw_26 (by omega) (by omega) rfl ?_
  rw [l_div (by omega) (by omega)]
  refine x_l2i (pc' := 28) hC dX6_draw_27 rfl ?_
  exact x_iret hC dX6_draw_28 (xI.mk ⟨rfl, rfl⟩)
set_option maxRecDepth 100000 in
set_option maxHeartbeats 4000000 in
theorem k_century {g : xG} {l : Launch} {S : List xS} {μ : xM} {T r : Int → Int} {nt : Int} {tx : Int → Int} {un kp : List (Int → Int)} {sl : List (Int × Int)} {z n w : Int} (hP : xPre S) (hA : RC μ T r nt tx un kp sl) (hF : WF T r un kp) (hz : -2147483648 ≤ z ∧ z < 2147483648) (hn : -2147483648 ≤ n ∧ n < 2147483648) (hw : -2147483648 ≤ w ∧ w < 2147483648) : xCt g l yX6_century cX6_century 8 (some .int) 4 91 0 0 [vR g 0, vI z, vI n, vI w] S μ S (xI (fun a μ' => a = aCentury T r z n w ∧ RC μ' T r nt tx un kp sl ∧ FrI 0 81 μ μ')) := by
  refine x_enter (by decide) (Nat.le_of_ble_eq_true rfl) ?_
  intro zp ze zs zm za zb zh zc hC hz0
  have hT := hF.1
  have hR := hF.2.1.1
  have hy := hF.2.1.2
  have t0 := hT.1
  have t1 := hT.2.1
  have t2 := hT.2.2.1
  have t3 := hT.2.2.2.1
  have hN := hA.2.1
  have hm := hN.mi
  have hs := hN.sp
  have loop : ∀ (zn : Nat) (k : Nat) (i gg cc : Int) (μ1 : xM) (r1 : Int → Int) (b1 : 0 ≤ z ∧ z ≤ 9999) (b2 : 1 ≤ n ∧ n ≤ 60) (b3 : 0 ≤ w ∧ w ≤ 1) (hi : i + k = n) (hi0 : 0 ≤ i) (hg : 0 ≤ gg ∧ gg < T 3) (h1 : FrI 19 24 μ μ1) (hA1 : SA μ1 19 12 T r1) (h3 : WR T r1) (h4 : cenF T z k i r1 gg cc = cenF T z n.toNat 0 r (gov T r) 0), k < zn → xX g 8 zp l ze { frames := 4, cells := 0, slots := 0, locals := 91 } zs zm za zb zh zc 0 0 (MQ zb (xQ g S (xI (fun a μ' => a = aCentury T r z n w ∧ RC μ' T r nt tx un kp sl ∧ FrI 0 81 μ μ'))) za zs 0 0 (xA0 g)) S μ1 58 [some (vR g 0), some (vI z), some (vI n), some (vI w), some (vI gg), some (vI cc), some (vI i), none] [] := by
    intro zn
    induction zn with
    | zero => intros; rename_i hz; exact absurd hz (Nat.not_lt_zero _)
    | succ zn ih =>
      intro k i gg cc μ1 r1 b1 b2 b3 hi hi0 hg h1 hA1 h3 h4 hn
      have d9 := drawF_rg z i
      have hW := WR_weath hT h3 (show 0 ≤ drawF z i by omega)
      have g9 := gov_in (T := T) (r := goYear T (weath T r1 (drawF z i))) hT
      refine x_iload (pc' := 60) hC dX6_century_58 rfl rfl ?_
      refine x_iload_n (pc' := 61) hC dX6_century_60 rfl rfl ?_
      refine x_icmp_ge (tgt := 113) (pc' := 64) hC dX6_century_61 (by decide) rfl (by omega) (by omega) (fun c61 => ?_) (fun c61 => ?_)
      · rw [show k = 0 by omega, cenF] at h4
        refine x_iload_n (pc' := 114) hC dX6_century_113 rfl rfl ?_
        refine x_if_ne (tgt := 122) (pc' := 117) hC dX6_century_114 (by decide) rfl (by omega) (fun c114 => ?_) (fun c114 => ?_)
        · refine x_iload (pc' := 124) hC dX6_century_122 rfl rfl ?_
          exact x_iret hC dX6_century_124 (xI.mk ⟨by unfold aCentury; rw [if_pos ⟨b1, b2, b3⟩, ← h4]; first | rw [if_neg c114] | rw [if_pos (by omega)], hA.scr h1 (by omega), h1.mono (by omega) (by omega)⟩)
        · refine x_iload (pc' := 119) hC dX6_century_117 rfl rfl ?_
          refine x_goto (tgt := 124) hC dX6_century_119 (by decide) ?_
          exact x_iret hC dX6_century_124 (xI.mk ⟨by unfold aCentury; rw [if_pos ⟨b1, b2, b3⟩, ← h4]; first | rw [if_neg c114] | rw [if_pos (by omega)], hA.scr h1 (by omega), h1.mono (by omega) (by omega)⟩)
      · obtain ⟨k1, rfl⟩ : ∃ k1 : Nat, k = k1 + 1 := ⟨k - 1, by omega⟩
        rw [cenF] at h4
        refine x_aload_n (pc' := 65) hC dX6_century_64 rfl rfl ?_
        refine x_getR (pc' := 68) (b := 19) hC kf_X6_39 dX6_century_65 (hP 0 _ rfl) rfl rfl ?_
        refine x_iload_n (pc' := 69) hC dX6_century_68 rfl rfl ?_
        refine x_iload (pc' := 71) hC dX6_century_69 rfl rfl ?_
        refine x_callS (pc' := 74) (n := 2) hC (c_draw b1 (by omega)) ky_X6_draw ks_X6_draw kl_X6_210 dX6_century_71 rfl rfl ⟨Nat.le_of_ble_eq_true rfl, Nat.le_of_ble_eq_true rfl⟩ (Nat.le_of_ble_eq_true rfl) ⟨Nat.le_refl _, Nat.le_refl _⟩ (Or.inl rfl) rfl (x_kd ?_)
        refine x_callV (pc' := 77) (n := 1) hC (c_weather (sTri hP) hA1 hT h3 (by omega)) ky_X4_weather kv_X4_weather kl_X6_213 dX6_century_74 (hP 19 _ rfl) rfl rfl rfl rfl ⟨Nat.le_of_ble_eq_true rfl, Nat.le_of_ble_eq_true rfl⟩ (Nat.le_of_ble_eq_true rfl) ⟨Nat.le_refl _, Nat.le_refl _⟩ (Or.inl rfl) rfl (x_kn (fun μ74 h74 => ?_))
        refine x_aload_n (pc' := 78) hC dX6_century_77 rfl rfl ?_
        refine x_getR (pc' := 81) (b := 19) hC kf_X6_39 dX6_century_78 (hP 0 _ rfl) rfl rfl ?_
        refine x_callV (pc' := 84) (n := 0) hC (c_oneYear (sTri hP) (hA1.step (by omega) h74.1 h74.2) hT hW) ky_X4_oneYear kv_X4_oneYear kl_X6_162 dX6_century_81 (hP 19 _ rfl) rfl rfl rfl rfl ⟨Nat.le_of_ble_eq_true rfl, Nat.le_of_ble_eq_true rfl⟩ (Nat.le_of_ble_eq_true rfl) ⟨Nat.le_refl _, Nat.le_refl _⟩ (Or.inl rfl) rfl (x_kn (fun μ81 h81 => ?_))
        refine x_aload_n (pc' := 85) hC dX6_century_84 rfl rfl ?_
        refine x_getR (pc' := 88) (b := 19) hC kf_X6_39 dX6_century_85 (hP 0 _ rfl) rfl rfl ?_
        refine x_callV (pc' := 91) (n := 0) hC (c_governor (T := T) (r := goYear T (weath T r1 (drawF z i))) (sTri hP) ((hA1.step (by omega) h74.1 h74.2).step (by omega) h81.1 h81.2) hT (WR_goYear hT hW)) ky_X4_governor kv_X4_governor kl_X6_156 dX6_century_88 (hP 19 _ rfl) rfl rfl rfl rfl ⟨Nat.le_of_ble_eq_true rfl, Nat.le_of_ble_eq_true rfl⟩ (Nat.le_of_ble_eq_true rfl) ⟨Nat.le_refl _, Nat.le_refl _⟩ (Or.inl rfl) rfl (x_kd ?_)
        refine x_istore (pc' := 93) hC dX6_century_91 (by decide) rfl rfl ?_
        refine x_iload (pc' := 95) hC dX6_century_93 rfl rfl ?_
        refine x_iload (pc' := 97) hC dX6_century_95 rfl rfl ?_
        refine x_icmp_eq (tgt := 103) (pc' := 100) hC dX6_century_97 (by decide) rfl (by omega) (by omega) (fun c97 => ?_) (fun c97 => ?_)
        · rw [if_pos c97] at h4
          refine x_iload (pc' := 105) hC dX6_century_103 rfl rfl ?_
          refine x_istore (pc' := 107) hC dX6_century_105 (by decide) rfl rfl ?_
          refine x_iinc (pc' := 110) hC dX6_century_107 rfl (by decide) rfl rfl ?_
          refine x_goto (tgt := 58) hC dX6_century_110 (by decide) ?_
          refine x_vs (vs' := [some (vR g 0), some (vI z), some (vI n), some (vI w), some (vI (gov T (goYear T (weath T r1 (drawF z i))))), some (vI _), some (vI (i + 1)), none]) (by intro i v; match i with | 0 => exact id | 1 => exact id | 2 => exact id | 3 => exact id | 4 => exact id | 5 => exact id | 6 => exact id | 7 => (intro h; cases h) | i + 8 => (intro h; cases h)) ?_
          exact ih k1 _ _ _ _ (goYear T (weath T r1 (drawF z i))) b1 b2 b3 (by omega) (by omega) g9 ((h1.tr h74.1.I).tr h81.1.I) ((hA1.step (by omega) h74.1 h74.2).step (by omega) h81.1 h81.2) (WR_goYear hT hW) h4 (by omega)
        · rw [if_neg c97] at h4
          refine x_iinc (pc' := 103) hC dX6_century_100 rfl (by decide) rfl rfl ?_
          refine x_iload (pc' := 105) hC dX6_century_103 rfl rfl ?_
          refine x_istore (pc' := 107) hC dX6_century_105 (by decide) rfl rfl ?_
          refine x_iinc (pc' := 110) hC dX6_century_107 rfl (by decide) rfl rfl ?_
          refine x_goto (tgt := 58) hC dX6_century_110 (by decide) ?_
          refine x_vs (vs' := [some (vR g 0), some (vI z), some (vI n), some (vI w), some (vI (gov T (goYear T (weath T r1 (drawF z i))))), some (vI _), some (vI (i + 1)), none]) (by intro i v; match i with | 0 => exact id | 1 => exact id | 2 => exact id | 3 => exact id | 4 => exact id | 5 => exact id | 6 => exact id | 7 => (intro h; cases h) | i + 8 => (intro h; cases h)) ?_
          exact ih k1 _ _ _ _ (goYear T (weath T r1 (drawF z i))) b1 b2 b3 (by omega) (by omega) g9 ((h1.tr h74.1.I).tr h81.1.I) ((hA1.step (by omega) h74.1 h74.2).step (by omega) h81.1 h81.2) (WR_goYear hT hW) h4 (by omega)
  refine x_iload_n (pc' := 1) hC dX6_century_0 rfl rfl ?_
  refine x_iconst (pc' := 2) hC dX6_century_1 rfl ?_
  refine x_sipush (pc' := 5) hC dX6_century_2 (by decide) rfl ?_
  refine x_callS (pc' := 8) (n := 3) hC (c_within (by omega) (by omega) (by omega)) ky_X6_within ks_X6_within kl_X6_84 dX6_century_5 rfl rfl ⟨Nat.le_of_ble_eq_true rfl, Nat.le_of_ble_eq_true rfl⟩ (Nat.le_of_ble_eq_true rfl) ⟨Nat.le_refl _, Nat.le_refl _⟩ (Or.inl rfl) rfl (x_kd ?_)
  refine x_ifb_eq (tgt := 30) (pc' := 11) hC dX6_century_8 (by decide) rfl (fun c8 => ?_) (fun c8 => ?_)
  · refine x_iconst (pc' := 31) hC dX6_century_30 rfl ?_
    exact x_iret hC dX6_century_31 (xI.mk ⟨by unfold aCentury; rw [if_neg (by omega)], hA, FrI.rf⟩)
  · refine x_iload_n (pc' := 12) hC dX6_century_11 rfl rfl ?_
    refine x_iconst (pc' := 13) hC dX6_century_12 rfl ?_
    refine x_bipush (pc' := 15) hC dX6_century_13 (by decide) rfl ?_
    refine x_callS (pc' := 18) (n := 3) hC (c_within (by omega) (by omega) (by omega)) ky_X6_within ks_X6_within kl_X6_84 dX6_century_15 rfl rfl ⟨Nat.le_of_ble_eq_true rfl, Nat.le_of_ble_eq_true rfl⟩ (Nat.le_of_ble_eq_true rfl) ⟨Nat.le_refl _, Nat.le_refl _⟩ (Or.inl rfl) rfl (x_kd ?_)
    refine x_ifb_eq (tgt := 30) (pc' := 21) hC dX6_century_18 (by decide) rfl (fun c18 => ?_) (fun c18 => ?_)
    · refine x_iconst (pc' := 31) hC dX6_century_30 rfl ?_
      exact x_iret hC dX6_century_31 (xI.mk ⟨by unfold aCentury; rw [if_neg (by omega)], hA, FrI.rf⟩)
    · refine x_iload_n (pc' := 22) hC dX6_century_21 rfl rfl ?_
      refine x_iconst (pc' := 23) hC dX6_century_22 rfl ?_
      refine x_iconst (pc' := 24) hC dX6_century_23 rfl ?_
      refine x_callS (pc' := 27) (n := 3) hC (c_within (by omega) (by omega) (by omega)) ky_X6_within ks_X6_within kl_X6_84 dX6_century_24 rfl rfl ⟨Nat.le_of_ble_eq_true rfl, Nat.le_of_ble_eq_true rfl⟩ (Nat.le_of_ble_eq_true rfl) ⟨Nat.le_refl _, Nat.le_refl _⟩ (Or.inl rfl) rfl (x_kd ?_)
      refine x_ifb_ne (tgt := 32) (pc' := 30) hC dX6_century_27 (by decide) rfl (fun c27 => ?_) (fun c27 => ?_)
      · refine x_aload_n (pc' := 33) hC dX6_century_32 rfl rfl ?_
        refine x_getR (pc' := 36) (b := 19) hC kf_X6_39 dX6_century_33 (hP 0 _ rfl) rfl rfl ?_
        refine x_aload_n (pc' := 37) hC dX6_century_36 rfl rfl ?_
        refine x_getR (pc' := 40) (b := 14) hC kf_X6_35 dX6_century_37 (hP 0 _ rfl) rfl rfl ?_
        refine x_callV (pc' := 43) (n := 1) hC (c_copy (sTri hP) (sNow hP) (by omega) hN.2.2) ky_X4_copy kv_X4_copy kl_X6_159 dX6_century_40 (hP 19 _ rfl) rfl rfl rfl rfl ⟨Nat.le_of_ble_eq_true rfl, Nat.le_of_ble_eq_true rfl⟩ (Nat.le_of_ble_eq_true rfl) ⟨Nat.le_refl _, Nat.le_refl _⟩ (Or.inl rfl) rfl (x_kn (fun μ40 h40 => ?_))
        refine x_aload_n (pc' := 44) hC dX6_century_43 rfl rfl ?_
        refine x_getR (pc' := 47) (b := 19) hC kf_X6_39 dX6_century_44 (hP 0 _ rfl) rfl rfl ?_
        refine x_callV (pc' := 50) (n := 0) hC (c_governor (sTri hP) (xTrial hT hN h40) hT hR) ky_X4_governor kv_X4_governor kl_X6_156 dX6_century_47 (hP 19 _ rfl) rfl rfl rfl rfl ⟨Nat.le_of_ble_eq_true rfl, Nat.le_of_ble_eq_true rfl⟩ (Nat.le_of_ble_eq_true rfl) ⟨Nat.le_refl _, Nat.le_refl _⟩ (Or.inl rfl) rfl (x_kd ?_)
        refine x_istore (pc' := 52) hC dX6_century_50 (by decide) rfl rfl ?_
        refine x_iconst (pc' := 53) hC dX6_century_52 rfl ?_
        refine x_istore (pc' := 55) hC dX6_century_53 (by decide) rfl rfl ?_
        refine x_iconst (pc' := 56) hC dX6_century_55 rfl ?_
        refine x_istore (pc' := 58) hC dX6_century_56 (by decide) rfl rfl ?_
        exact loop (n.toNat + 1) n.toNat _ _ _ _ r c8 c18 c27 (by omega) (by omega) (gov_in hT) h40.1.I (xTrial hT hN h40) hR rfl (by omega)
      · refine x_iconst (pc' := 31) hC dX6_century_30 rfl ?_
        exact x_iret hC dX6_century_31 (xI.mk ⟨by unfold aCentury; rw [if_neg (by omega)], hA, FrI.rf⟩)
set_option maxRecDepth 100000 in
set_option maxHeartbeats 4000000 in
theorem k_keep {g : xG} {l : Launch} {S : List xS} {μ : xM} {T r : Int → Int} {nt : Int} {tx : Int → Int} {un kp : List (Int → Int)} {sl : List (Int × Int)} (hP : xPre S) (hA : RC μ T r nt tx un kp sl) (hF : WF T r un kp) : xCt g l yX6_keep cX6_keep 1 (some .int) 3 82 0 0 [vR g 0] S μ S (xI (fun a μ' => a = aKeep kp ∧ RC μ' T r nt tx un (kKeep r kp) sl ∧ FrI 0 81 μ μ')) := by
  refine x_enter (by decide) (Nat.le_of_ble_eq_true rfl) ?_
  intro zp ze zs zm za zb zh zc hC hz0
  have hT := hF.1
  have hR := hF.2.1.1
  have hy := hF.2.1.2
  have t0 := hT.1
  have t1 := hT.2.1
  have t2 := hT.2.2.1
  have t3 := hT.2.2.2.1
  have hN := hA.2.1
  have hm := hN.mi
  have hs := hN.sp
  refine x_aload_n (pc' := 1) hC dX6_keep_0 rfl rfl ?_
  refine x_getR (pc' := 4) (b := 66) hC kf_X6_51 dX6_keep_1 (hP 0 _ rfl) rfl rfl ?_
  refine x_callV (pc' := 7) (n := 0) hC (c_isFull (sKep hP) hA.2.2.2.1) ky_X2_isFull kv_X2_isFull kl_X6_216 dX6_keep_4 (hP 66 _ rfl) rfl rfl rfl rfl ⟨Nat.le_of_ble_eq_true rfl, Nat.le_of_ble_eq_true rfl⟩ (Nat.le_of_ble_eq_true rfl) ⟨Nat.le_refl _, Nat.le_refl _⟩ (Or.inl rfl) rfl (x_kd ?_)
  refine x_ifb_eq (tgt := 13) (pc' := 10) hC dX6_keep_7 (by decide) rfl (fun c7 => ?_) (fun c7 => ?_)
  · refine x_aload_n (pc' := 14) hC dX6_keep_13 rfl rfl ?_
    refine x_getR (pc' := 17) (b := 66) hC kf_X6_51 dX6_keep_14 (hP 0 _ rfl) rfl rfl ?_
    refine x_aload_n (pc' := 18) hC dX6_keep_17 rfl rfl ?_
    refine x_getR (pc' := 21) (b := 14) hC kf_X6_35 dX6_keep_18 (hP 0 _ rfl) rfl rfl ?_
    refine x_callV (pc' := 24) (n := 1) hC (c_put (sKep hP) (sNow hP) (by omega) hT hA.2.2.2.1 hN.2.2 hN.2.1) ky_X2_put kv_X2_put kl_X6_134 dX6_keep_21 (hP 66 _ rfl) rfl rfl rfl rfl ⟨Nat.le_of_ble_eq_true rfl, Nat.le_of_ble_eq_true rfl⟩ (Nat.le_of_ble_eq_true rfl) ⟨Nat.le_refl _, Nat.le_refl _⟩ (Or.inl rfl) rfl (x_kn (fun μ21 h21 => ?_))
    refine x_aload_n (pc' := 25) hC dX6_keep_24 rfl rfl ?_
    refine x_getR (pc' := 28) (b := 66) hC kf_X6_51 dX6_keep_25 (hP 0 _ rfl) rfl rfl ?_
    refine x_getI (j' := 1) (pc' := 31) hC kf_X6_153 dX6_keep_28 (hP 66 _ rfl) rfl rfl rfl ?_
    have e5 : (r :: kp).take 2 = r :: kp := List.take_of_length_le (by simp; omega)
    rw [e5] at h21
    rw [h21.2.1]
    exact x_iret hC dX6_keep_31 (xI.mk ⟨by unfold aKeep; rw [if_neg c7]; simp, by unfold kKeep; rw [if_neg c7]; exact ⟨hA.1.frI h21.1 (by omega), hN.frI h21.1 (by omega) (by omega), hA.2.2.1.frI (Or.inr rfl) h21.1 (by omega), h21.2, hA.2.2.2.2.frI h21.1 (by omega)⟩, h21.1.mono (by omega) (by omega)⟩)
  · refine x_bipush (pc' := 12) hC dX6_keep_10 (by decide) rfl ?_
    exact x_iret hC dX6_keep_12 (xI.mk ⟨by unfold aKeep; rw [if_pos c7], by unfold kKeep; rw [if_pos c7]; exact hA, FrI.rf⟩)
set_option maxRecDepth 100000 in
set_option maxHeartbeats 4000000 in
theorem k_back0 {g : xG} {l : Launch} {S : List xS} {μ : xM} {T r : Int → Int} {nt : Int} {tx : Int → Int} {un kp : List (Int → Int)} {sl : List (Int × Int)} (hP : xPre S) (hA : RC μ T r nt tx un kp sl) (hF : WF T r un kp) (hu : kp = []) : xCt g l yX6_back cX6_back 1 (some .int) 3 82 0 0 [vR g 0] S μ S (xI (fun a μ' => a = -2 ∧ RC μ' T r nt tx un kp sl ∧ FrI 0 81 μ μ')) := by
  refine x_enter (by decide) (Nat.le_of_ble_eq_true rfl) ?_
  intro zp ze zs zm za zb zh zc hC hz0
  have hT := hF.1
  have hR := hF.2.1.1
  have hy := hF.2.1.2
  have t0 := hT.1
  have t1 := hT.2.1
  have t2 := hT.2.2.1
  have t3 := hT.2.2.2.1
  have hN := hA.2.1
  have hm := hN.mi
  have hs := hN.sp
  refine x_aload_n (pc' := 1) hC dX6_back_0 rfl rfl ?_
  refine x_getR (pc' := 4) (b := 66) hC kf_X6_51 dX6_back_1 (hP 0 _ rfl) rfl rfl ?_
  refine x_aload_n (pc' := 5) hC dX6_back_4 rfl rfl ?_
  refine x_getR (pc' := 8) (b := 14) hC kf_X6_35 dX6_back_5 (hP 0 _ rfl) rfl rfl ?_
  refine x_callV (pc' := 11) (n := 1) hC (c_take0 (r := r) (b2 := 14) (pl2 := 12) (sKep hP) hu hA.2.2.2.1) ky_X2_takeLatest kv_X2_takeLatest kl_X6_149 dX6_back_8 (hP 66 _ rfl) rfl rfl rfl rfl ⟨Nat.le_of_ble_eq_true rfl, Nat.le_of_ble_eq_true rfl⟩ (Nat.le_of_ble_eq_true rfl) ⟨Nat.le_refl _, Nat.le_refl _⟩ (Or.inl rfl) rfl (x_kd ?_)
  refine x_if_ne (tgt := 17) (pc' := 14) hC dX6_back_11 (by decide) rfl (by omega) (fun c11 => ?_) (fun c11 => ?_)
  · exact absurd c11 (by decide)
  · refine x_bipush (pc' := 16) hC dX6_back_14 (by decide) rfl ?_
    exact x_iret hC dX6_back_16 (xI.mk ⟨rfl, hA, FrI.rf⟩)
set_option maxRecDepth 100000 in
set_option maxHeartbeats 4000000 in
theorem k_back1 {g : xG} {l : Launch} {S : List xS} {μ : xM} {T r : Int → Int} {nt : Int} {tx : Int → Int} {un kp : List (Int → Int)} {sl : List (Int × Int)} {u : Int → Int} {kp1 : List (Int → Int)} (hP : xPre S) (hA : RC μ T r nt tx un kp sl) (hF : WF T r un kp) (hu : kp = u :: kp1) : xCt g l yX6_back cX6_back 1 (some .int) 3 82 0 0 [vR g 0] S μ S (xI (fun a μ' => a = kp1.length ∧ RC μ' T u nt tx [] kp1 sl ∧ FrI 0 81 μ μ')) := by
  refine x_enter (by decide) (Nat.le_of_ble_eq_true rfl) ?_
  intro zp ze zs zm za zb zh zc hC hz0
  have hT := hF.1
  have hR := hF.2.1.1
  have hy := hF.2.1.2
  have t0 := hT.1
  have t1 := hT.2.1
  have t2 := hT.2.2.1
  have t3 := hT.2.2.2.1
  have hN := hA.2.1
  have hm := hN.mi
  have hs := hN.sp
  refine x_aload_n (pc' := 1) hC dX6_back_0 rfl rfl ?_
  refine x_getR (pc' := 4) (b := 66) hC kf_X6_51 dX6_back_1 (hP 0 _ rfl) rfl rfl ?_
  refine x_aload_n (pc' := 5) hC dX6_back_4 rfl rfl ?_
  refine x_getR (pc' := 8) (b := 14) hC kf_X6_35 dX6_back_5 (hP 0 _ rfl) rfl rfl ?_
  refine x_callV (pc' := 11) (n := 1) hC (c_take1 (r := r) (sKep hP) hu (sNow hP) (by omega) hT hA.2.2.2.1) ky_X2_takeLatest kv_X2_takeLatest kl_X6_149 dX6_back_8 (hP 66 _ rfl) rfl rfl rfl rfl ⟨Nat.le_of_ble_eq_true rfl, Nat.le_of_ble_eq_true rfl⟩ (Nat.le_of_ble_eq_true rfl) ⟨Nat.le_refl _, Nat.le_refl _⟩ (Or.inl rfl) rfl (x_kv (fun μ8 h8 => ?_))
  refine x_if_ne (tgt := 17) (pc' := 14) hC dX6_back_11 (by decide) rfl (by omega) (fun c11 => ?_) (fun c11 => ?_)
  · refine x_aload_n (pc' := 18) hC dX6_back_17 rfl rfl ?_
    refine x_getR (pc' := 21) (b := 24) hC kf_X6_47 dX6_back_18 (hP 0 _ rfl) rfl rfl ?_
    refine x_iconst (pc' := 22) hC dX6_back_21 rfl ?_
    refine x_putI (j' := 1) (pc' := 25) hC kf_X6_153 dX6_back_22 (hP 24 _ rfl) rfl rfl rfl rfl rfl ?_
    refine x_aload_n (pc' := 26) hC dX6_back_25 rfl rfl ?_
    refine x_getR (pc' := 29) (b := 66) hC kf_X6_51 dX6_back_26 (hP 0 _ rfl) rfl rfl ?_
    refine x_getI (j' := 1) (pc' := 32) hC kf_X6_153 dX6_back_29 (hP 66 _ rfl) rfl rfl rfl ?_
    rw [xU_nk (by omega), h8.2.2.2.1]
    exact x_iret hC dX6_back_32 (xI.mk (by
      have z := hA.take (Or.inr rfl) h8.1 h8.2.1 h8.2.2.1 (hA.2.2.1.off (Or.inr rfl) h8.1 (by omega) (by omega)) h8.2.2.2
      have f : FrI 24 25 μ8 (xU μ8 24 1 0) := FrI.rf.u (by omega)
      obtain ⟨⟨z1, z2, ⟨y1, y2, nx, y3, y4, y5⟩, z4, z5⟩, z6⟩ := z
      exact ⟨rfl, ⟨z1.frI f (by omega), z2.frI f (by omega) (by omega), ⟨xU_at2, by simp, nx, by rw [xU_nj (by omega)]; exact y3, y4, fun i u hu => by simp at hu⟩, z4.frI (Or.inl rfl) f (by omega), z5.frI f (by omega)⟩, z6.tr (f.mono (by omega) (by omega))⟩))
  · exact absurd c11 (by decide)
set_option maxRecDepth 100000 in
set_option maxHeartbeats 4000000 in
theorem k_count {g : xG} {l : Launch} {S : List xS} {μ : xM} {T r : Int → Int} {nt : Int} {tx : Int → Int} {un kp : List (Int → Int)} {sl : List (Int × Int)} {w : Int} (hP : xPre S) (hA : RC μ T r nt tx un kp sl) (hF : WF T r un kp) (hw : -2147483648 ≤ w ∧ w < 2147483648) : xCt g l yX6_count cX6_count 2 (some .int) 1 22 0 0 [vR g 0, vI w] S μ S (xI (fun a μ' => a = aCount T r nt un kp sl w ∧ RC μ' T r nt tx un kp sl ∧ FrI 0 81 μ μ')) := by
  refine x_enter (by decide) (Nat.le_of_ble_eq_true rfl) ?_
  intro zp ze zs zm za zb zh zc hC hz0
  have hT := hF.1
  have hR := hF.2.1.1
  have hy := hF.2.1.2
  have t0 := hT.1
  have t1 := hT.2.1
  have t2 := hT.2.2.1
  have t3 := hT.2.2.2.1
  have hN := hA.2.1
  have hm := hN.mi
  have hs := hN.sp
  refine x_iload_n (pc' := 1) hC dX6_count_0 rfl rfl ?_
  have w1 : w = 0 ∨ w = 1 ∨ w = 2 ∨ w = 3 ∨ w = 4 ∨ w = 5 ∨ w = 6 ∨ w = 7 ∨ w = 8 ∨ (w < 0 ∨ 8 < w) := by omega
  rcases w1 with w1 | w1 | w1 | w1 | w1 | w1 | w1 | w1 | w1 | w1
  · refine x_tabIn (off := 51) (tgt := 52) hC dX6_count_1 (by omega) (by omega) (by rw [w1]; rfl) (by decide) ?_
    refine x_aload_n (pc' := 53) hC dX6_count_52 rfl rfl ?_
    refine x_getR (pc' := 56) (b := 12) hC kf_X6_26 dX6_count_53 (hP 0 _ rfl) rfl rfl ?_
    refine x_getI (j' := 1) (pc' := 59) hC kf_X6_92 dX6_count_56 (hP 12 _ rfl) rfl rfl rfl ?_
    rw [hm]
    exact x_iret hC dX6_count_59 (xI.mk ⟨by unfold aCount; first | rw [if_neg (by omega), if_neg (by omega), if_neg (by omega), if_neg (by omega), if_neg (by omega), if_neg (by omega), if_neg (by omega), if_neg (by omega), if_neg (by omega)] | rw [if_neg (by omega), if_neg (by omega), if_neg (by omega), if_neg (by omega), if_neg (by omega), if_neg (by omega), if_neg (by omega), if_neg (by omega), if_pos w1] | rw [if_neg (by omega), if_neg (by omega), if_neg (by omega), if_neg (by omega), if_neg (by omega), if_neg (by omega), if_neg (by omega), if_pos w1] | rw [if_neg (by omega), if_neg (by omega), if_neg (by omega), if_neg (by omega), if_neg (by omega), if_neg (by omega), if_pos w1] | rw [if_neg (by omega), if_neg (by omega), if_neg (by omega), if_neg (by omega), if_neg (by omega), if_pos w1] | rw [if_neg (by omega), if_neg (by omega), if_neg (by omega), if_neg (by omega), if_pos w1] | rw [if_neg (by omega), if_neg (by omega), if_neg (by omega), if_pos w1] | rw [if_neg (by omega), if_neg (by omega), if_pos w1] | rw [if_neg (by omega), if_pos w1] | rw [if_pos w1], hA, FrI.rf⟩)
  · refine x_tabIn (off := 59) (tgt := 60) hC dX6_count_1 (by omega) (by omega) (by rw [w1]; rfl) (by decide) ?_
    refine x_aload_n (pc' := 61) hC dX6_count_60 rfl rfl ?_
    refine x_getR (pc' := 64) (b := 12) hC kf_X6_26 dX6_count_61 (hP 0 _ rfl) rfl rfl ?_
    refine x_getI (j' := 2) (pc' := 67) hC kf_X6_175 dX6_count_64 (hP 12 _ rfl) rfl rfl rfl ?_
    rw [hs]
    exact x_iret hC dX6_count_67 (xI.mk ⟨by unfold aCount; first | rw [if_neg (by omega), if_neg (by omega), if_neg (by omega), if_neg (by omega), if_neg (by omega), if_neg (by omega), if_neg (by omega), if_neg (by omega), if_neg (by omega)] | rw [if_neg (by omega), if_neg (by omega), if_neg (by omega), if_neg (by omega), if_neg (by omega), if_neg (by omega), if_neg (by omega), if_neg (by omega), if_pos w1] | rw [if_neg (by omega), if_neg (by omega), if_neg (by omega), if_neg (by omega), if_neg (by omega), if_neg (by omega), if_neg (by omega), if_pos w1] | rw [if_neg (by omega), if_neg (by omega), if_neg (by omega), if_neg (by omega), if_neg (by omega), if_neg (by omega), if_pos w1] | rw [if_neg (by omega), if_neg (by omega), if_neg (by omega), if_neg (by omega), if_neg (by omega), if_pos w1] | rw [if_neg (by omega), if_neg (by omega), if_neg (by omega), if_neg (by omega), if_pos w1] | rw [if_neg (by omega), if_neg (by omega), if_neg (by omega), if_pos w1] | rw [if_neg (by omega), if_neg (by omega), if_pos w1] | rw [if_neg (by omega), if_pos w1] | rw [if_pos w1], hA, FrI.rf⟩)
  · refine x_tabIn (off := 67) (tgt := 68) hC dX6_count_1 (by omega) (by omega) (by rw [w1]; rfl) (by decide) ?_
    refine x_aload_n (pc' := 69) hC dX6_count_68 rfl rfl ?_
    refine x_getR (pc' := 72) (b := 14) hC kf_X6_35 dX6_count_69 (hP 0 _ rfl) rfl rfl ?_
    refine x_getI (j' := 6) (pc' := 75) hC kf_X6_131 dX6_count_72 (hP 14 _ rfl) rfl rfl rfl ?_
    rw [hN.yr]
    exact x_iret hC dX6_count_75 (xI.mk ⟨by unfold aCount; first | rw [if_neg (by omega), if_neg (by omega), if_neg (by omega), if_neg (by omega), if_neg (by omega), if_neg (by omega), if_neg (by omega), if_neg (by omega), if_neg (by omega)] | rw [if_neg (by omega), if_neg (by omega), if_neg (by omega), if_neg (by omega), if_neg (by omega), if_neg (by omega), if_neg (by omega), if_neg (by omega), if_pos w1] | rw [if_neg (by omega), if_neg (by omega), if_neg (by omega), if_neg (by omega), if_neg (by omega), if_neg (by omega), if_neg (by omega), if_pos w1] | rw [if_neg (by omega), if_neg (by omega), if_neg (by omega), if_neg (by omega), if_neg (by omega), if_neg (by omega), if_pos w1] | rw [if_neg (by omega), if_neg (by omega), if_neg (by omega), if_neg (by omega), if_neg (by omega), if_pos w1] | rw [if_neg (by omega), if_neg (by omega), if_neg (by omega), if_neg (by omega), if_pos w1] | rw [if_neg (by omega), if_neg (by omega), if_neg (by omega), if_pos w1] | rw [if_neg (by omega), if_neg (by omega), if_pos w1] | rw [if_neg (by omega), if_pos w1] | rw [if_pos w1], hA, FrI.rf⟩)
  · refine x_tabIn (off := 75) (tgt := 76) hC dX6_count_1 (by omega) (by omega) (by rw [w1]; rfl) (by decide) ?_
    refine x_aload_n (pc' := 77) hC dX6_count_76 rfl rfl ?_
    refine x_getR (pc' := 80) (b := 14) hC kf_X6_35 dX6_count_77 (hP 0 _ rfl) rfl rfl ?_
    refine x_getI (j' := 5) (pc' := 83) hC kf_X6_142 dX6_count_80 (hP 14 _ rfl) rfl rfl rfl ?_
    rw [hN.fu]
    exact x_iret hC dX6_count_83 (xI.mk ⟨by unfold aCount; first | rw [if_neg (by omega), if_neg (by omega), if_neg (by omega), if_neg (by omega), if_neg (by omega), if_neg (by omega), if_neg (by omega), if_neg (by omega), if_neg (by omega)] | rw [if_neg (by omega), if_neg (by omega), if_neg (by omega), if_neg (by omega), if_neg (by omega), if_neg (by omega), if_neg (by omega), if_neg (by omega), if_pos w1] | rw [if_neg (by omega), if_neg (by omega), if_neg (by omega), if_neg (by omega), if_neg (by omega), if_neg (by omega), if_neg (by omega), if_pos w1] | rw [if_neg (by omega), if_neg (by omega), if_neg (by omega), if_neg (by omega), if_neg (by omega), if_neg (by omega), if_pos w1] | rw [if_neg (by omega), if_neg (by omega), if_neg (by omega), if_neg (by omega), if_neg (by omega), if_pos w1] | rw [if_neg (by omega), if_neg (by omega), if_neg (by omega), if_neg (by omega), if_pos w1] | rw [if_neg (by omega), if_neg (by omega), if_neg (by omega), if_pos w1] | rw [if_neg (by omega), if_neg (by omega), if_pos w1] | rw [if_neg (by omega), if_pos w1] | rw [if_pos w1], hA, FrI.rf⟩)
  · refine x_tabIn (off := 83) (tgt := 84) hC dX6_count_1 (by omega) (by omega) (by rw [w1]; rfl) (by decide) ?_
    refine x_aload_n (pc' := 85) hC dX6_count_84 rfl rfl ?_
    refine x_getR (pc' := 88) (b := 14) hC kf_X6_35 dX6_count_85 (hP 0 _ rfl) rfl rfl ?_
    refine x_callV (pc' := 91) (n := 0) hC (c_allWax (sNow hP) hN hT hR) ky_X4_allWax kv_X4_allWax kl_X6_219 dX6_count_88 (hP 14 _ rfl) rfl rfl rfl rfl ⟨Nat.le_of_ble_eq_true rfl, Nat.le_of_ble_eq_true rfl⟩ (Nat.le_of_ble_eq_true rfl) ⟨Nat.le_refl _, Nat.le_refl _⟩ (Or.inl rfl) rfl (x_kd ?_)
    exact x_iret hC dX6_count_91 (xI.mk ⟨by unfold aCount; first | rw [if_neg (by omega), if_neg (by omega), if_neg (by omega), if_neg (by omega), if_neg (by omega), if_neg (by omega), if_neg (by omega), if_neg (by omega), if_neg (by omega)] | rw [if_neg (by omega), if_neg (by omega), if_neg (by omega), if_neg (by omega), if_neg (by omega), if_neg (by omega), if_neg (by omega), if_neg (by omega), if_pos w1] | rw [if_neg (by omega), if_neg (by omega), if_neg (by omega), if_neg (by omega), if_neg (by omega), if_neg (by omega), if_neg (by omega), if_pos w1] | rw [if_neg (by omega), if_neg (by omega), if_neg (by omega), if_neg (by omega), if_neg (by omega), if_neg (by omega), if_pos w1] | rw [if_neg (by omega), if_neg (by omega), if_neg (by omega), if_neg (by omega), if_neg (by omega), if_pos w1] | rw [if_neg (by omega), if_neg (by omega), if_neg (by omega), if_neg (by omega), if_pos w1] | rw [if_neg (by omega), if_neg (by omega), if_neg (by omega), if_pos w1] | rw [if_neg (by omega), if_neg (by omega), if_pos w1] | rw [if_neg (by omega), if_pos w1] | rw [if_pos w1], hA, FrI.rf⟩)
  · refine x_tabIn (off := 91) (tgt := 92) hC dX6_count_1 (by omega) (by omega) (by rw [w1]; rfl) (by decide) ?_
    refine x_aload_n (pc' := 93) hC dX6_count_92 rfl rfl ?_
    refine x_getR (pc' := 96) (b := 78) hC kf_X6_57 dX6_count_93 (hP 0 _ rfl) rfl rfl ?_
    refine x_getI (j' := 2) (pc' := 99) hC kf_X6_192 dX6_count_96 (hP 78 _ rfl) rfl rfl rfl ?_
    rw [hA.2.2.2.2.1]
    exact x_iret hC dX6_count_99 (xI.mk ⟨by unfold aCount; first | rw [if_neg (by omega), if_neg (by omega), if_neg (by omega), if_neg (by omega), if_neg (by omega), if_neg (by omega), if_neg (by omega), if_neg (by omega), if_neg (by omega)] | rw [if_neg (by omega), if_neg (by omega), if_neg (by omega), if_neg (by omega), if_neg (by omega), if_neg (by omega), if_neg (by omega), if_neg (by omega), if_pos w1] | rw [if_neg (by omega), if_neg (by omega), if_neg (by omega), if_neg (by omega), if_neg (by omega), if_neg (by omega), if_neg (by omega), if_pos w1] | rw [if_neg (by omega), if_neg (by omega), if_neg (by omega), if_neg (by omega), if_neg (by omega), if_neg (by omega), if_pos w1] | rw [if_neg (by omega), if_neg (by omega), if_neg (by omega), if_neg (by omega), if_neg (by omega), if_pos w1] | rw [if_neg (by omega), if_neg (by omega), if_neg (by omega), if_neg (by omega), if_pos w1] | rw [if_neg (by omega), if_neg (by omega), if_neg (by omega), if_pos w1] | rw [if_neg (by omega), if_neg (by omega), if_pos w1] | rw [if_neg (by omega), if_pos w1] | rw [if_pos w1], hA, FrI.rf⟩)
  · refine x_tabIn (off := 99) (tgt := 100) hC dX6_count_1 (by omega) (by omega) (by rw [w1]; rfl) (by decide) ?_
    refine x_aload_n (pc' := 101) hC dX6_count_100 rfl rfl ?_
    refine x_getR (pc' := 104) (b := 24) hC kf_X6_47 dX6_count_101 (hP 0 _ rfl) rfl rfl ?_
    refine x_getI (j' := 1) (pc' := 107) hC kf_X6_153 dX6_count_104 (hP 24 _ rfl) rfl rfl rfl ?_
    rw [hA.2.2.1.1]
    exact x_iret hC dX6_count_107 (xI.mk ⟨by unfold aCount; first | rw [if_neg (by omega), if_neg (by omega), if_neg (by omega), if_neg (by omega), if_neg (by omega), if_neg (by omega), if_neg (by omega), if_neg (by omega), if_neg (by omega)] | rw [if_neg (by omega), if_neg (by omega), if_neg (by omega), if_neg (by omega), if_neg (by omega), if_neg (by omega), if_neg (by omega), if_neg (by omega), if_pos w1] | rw [if_neg (by omega), if_neg (by omega), if_neg (by omega), if_neg (by omega), if_neg (by omega), if_neg (by omega), if_neg (by omega), if_pos w1] | rw [if_neg (by omega), if_neg (by omega), if_neg (by omega), if_neg (by omega), if_neg (by omega), if_neg (by omega), if_pos w1] | rw [if_neg (by omega), if_neg (by omega), if_neg (by omega), if_neg (by omega), if_neg (by omega), if_pos w1] | rw [if_neg (by omega), if_neg (by omega), if_neg (by omega), if_neg (by omega), if_pos w1] | rw [if_neg (by omega), if_neg (by omega), if_neg (by omega), if_pos w1] | rw [if_neg (by omega), if_neg (by omega), if_pos w1] | rw [if_neg (by omega), if_pos w1] | rw [if_pos w1], hA, FrI.rf⟩)
  · refine x_tabIn (off := 107) (tgt := 108) hC dX6_count_1 (by omega) (by omega) (by rw [w1]; rfl) (by decide) ?_
    refine x_aload_n (pc' := 109) hC dX6_count_108 rfl rfl ?_
    refine x_getR (pc' := 112) (b := 66) hC kf_X6_51 dX6_count_109 (hP 0 _ rfl) rfl rfl ?_
    refine x_getI (j' := 1) (pc' := 115) hC kf_X6_153 dX6_count_112 (hP 66 _ rfl) rfl rfl rfl ?_
    rw [hA.2.2.2.1.1]
    exact x_iret hC dX6_count_115 (xI.mk ⟨by unfold aCount; first | rw [if_neg (by omega), if_neg (by omega), if_neg (by omega), if_neg (by omega), if_neg (by omega), if_neg (by omega), if_neg (by omega), if_neg (by omega), if_neg (by omega)] | rw [if_neg (by omega), if_neg (by omega), if_neg (by omega), if_neg (by omega), if_neg (by omega), if_neg (by omega), if_neg (by omega), if_neg (by omega), if_pos w1] | rw [if_neg (by omega), if_neg (by omega), if_neg (by omega), if_neg (by omega), if_neg (by omega), if_neg (by omega), if_neg (by omega), if_pos w1] | rw [if_neg (by omega), if_neg (by omega), if_neg (by omega), if_neg (by omega), if_neg (by omega), if_neg (by omega), if_pos w1] | rw [if_neg (by omega), if_neg (by omega), if_neg (by omega), if_neg (by omega), if_neg (by omega), if_pos w1] | rw [if_neg (by omega), if_neg (by omega), if_neg (by omega), if_neg (by omega), if_pos w1] | rw [if_neg (by omega), if_neg (by omega), if_neg (by omega), if_pos w1] | rw [if_neg (by omega), if_neg (by omega), if_pos w1] | rw [if_neg (by omega), if_pos w1] | rw [if_pos w1], hA, FrI.rf⟩)
  · refine x_tabIn (off := 115) (tgt := 116) hC dX6_count_1 (by omega) (by omega) (by rw [w1]; rfl) (by decide) ?_
    refine x_aload_n (pc' := 117) hC dX6_count_116 rfl rfl ?_
    refine x_getR (pc' := 120) (b := 1) hC kf_X6_10 dX6_count_117 (hP 0 _ rfl) rfl rfl ?_
    refine x_getI (j' := 1) (pc' := 123) hC kf_X6_81 dX6_count_120 (hP 1 _ rfl) rfl rfl rfl ?_
    rw [hA.1.1]
    exact x_iret hC dX6_count_123 (xI.mk ⟨by unfold aCount; first | rw [if_neg (by omega), if_neg (by omega), if_neg (by omega), if_neg (by omega), if_neg (by omega), if_neg (by omega), if_neg (by omega), if_neg (by omega), if_neg (by omega)] | rw [if_neg (by omega), if_neg (by omega), if_neg (by omega), if_neg (by omega), if_neg (by omega), if_neg (by omega), if_neg (by omega), if_neg (by omega), if_pos w1] | rw [if_neg (by omega), if_neg (by omega), if_neg (by omega), if_neg (by omega), if_neg (by omega), if_neg (by omega), if_neg (by omega), if_pos w1] | rw [if_neg (by omega), if_neg (by omega), if_neg (by omega), if_neg (by omega), if_neg (by omega), if_neg (by omega), if_pos w1] | rw [if_neg (by omega), if_neg (by omega), if_neg (by omega), if_neg (by omega), if_neg (by omega), if_pos w1] | rw [if_neg (by omega), if_neg (by omega), if_neg (by omega), if_neg (by omega), if_pos w1] | rw [if_neg (by omega), if_neg (by omega), if_neg (by omega), if_pos w1] | rw [if_neg (by omega), if_neg (by omega), if_pos w1] | rw [if_neg (by omega), if_pos w1] | rw [if_pos w1], hA, FrI.rf⟩)
  · refine x_tabOut (tgt := 124) hC dX6_count_1 (by omega) (by omega) (by decide) ?_
    refine x_iconst (pc' := 125) hC dX6_count_124 rfl ?_
    exact x_iret hC dX6_count_125 (xI.mk ⟨by unfold aCount; first | rw [if_neg (by omega), if_neg (by omega), if_neg (by omega), if_neg (by omega), if_neg (by omega), if_neg (by omega), if_neg (by omega), if_neg (by omega), if_neg (by omega)] | rw [if_neg (by omega), if_neg (by omega), if_neg (by omega), if_neg (by omega), if_neg (by omega), if_neg (by omega), if_neg (by omega), if_neg (by omega), if_pos w1] | rw [if_neg (by omega), if_neg (by omega), if_neg (by omega), if_neg (by omega), if_neg (by omega), if_neg (by omega), if_neg (by omega), if_pos w1] | rw [if_neg (by omega), if_neg (by omega), if_neg (by omega), if_neg (by omega), if_neg (by omega), if_neg (by omega), if_pos w1] | rw [if_neg (by omega), if_neg (by omega), if_neg (by omega), if_neg (by omega), if_neg (by omega), if_pos w1] | rw [if_neg (by omega), if_neg (by omega), if_neg (by omega), if_neg (by omega), if_pos w1] | rw [if_neg (by omega), if_neg (by omega), if_neg (by omega), if_pos w1] | rw [if_neg (by omega), if_neg (by omega), if_pos w1] | rw [if_neg (by omega), if_pos w1] | rw [if_pos w1], hA, FrI.rf⟩)
