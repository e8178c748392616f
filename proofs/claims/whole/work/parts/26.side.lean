set_option maxRecDepth 100000 in
set_option maxHeartbeats 4000000 in
theorem m_has {g : xG} {l : Launch} {S : List xS} {μ : xM} {k x : Int} : xCt g l yX7_has cX7_has 2 (some .boolean) 0 0 0 0 [vI k, vI x] S μ S (xI (fun a μ' => a = (if hsb k x = true then 1 else 0) ∧ μ' = μ)) := by
  refine x_enter (by decide) (Nat.le_of_ble_eq_true rfl) ?_
  intro zp ze zs zm za zb zh zc hC hz0
  refine x_iload_n (pc' := 1) hC dX7_has_0 rfl rfl ?_
  refine x_iload_n (pc' := 2) hC dX7_has_1 rfl rfl ?_
  refine x_ishr (pc' := 3) hC dX7_has_2 rfl ?_
  refine x_iconst (pc' := 4) hC dX7_has_3 rfl ?_
  refine x_iand (pc' := 5) hC dX7_has_4 rfl ?_
  refine x_iconst (pc' := 6) hC dX7_has_5 rfl ?_
  refine x_icmp_ne (tgt := 13) (pc' := 9) hC dX7_has_6 (by decide) rfl (iAnd_rg _ _) (by omega) (fun c6 => ?_) (fun c6 => ?_)
  · refine x_iconst (pc' := 14) hC dX7_has_13 rfl ?_
    exact x_zret hC dX7_has_14 (by first | exact Or.inl rfl | exact Or.inr rfl | omega) (xI.mk ⟨by first | (rw [if_pos (by simpa [hsb] using c6)]) | (rw [if_neg (by simpa [hsb] using c6)]), rfl⟩)
  · refine x_iconst (pc' := 10) hC dX7_has_9 rfl ?_
    refine x_goto (tgt := 14) hC dX7_has_10 (by decide) ?_
    exact x_zret hC dX7_has_14 (by first | exact Or.inl rfl | exact Or.inr rfl | omega) (xI.mk ⟨by first | (rw [if_pos (by simpa [hsb] using c6)]) | (rw [if_neg (by simpa [hsb] using c6)]), rfl⟩)
set_option maxRecDepth 100000 in
set_option maxHeartbeats 4000000 in
theorem m_in {g : xG} {l : Launch} {S : List xS} {μ : xM} {p q s : Int} (hp : -9223372036854775808 ≤ p ∧ p < 9223372036854775808) (hq : -9223372036854775808 ≤ q ∧ q < 9223372036854775808) (hs : -9223372036854775808 ≤ s ∧ s < 9223372036854775808) : xCt g l yX7_in cX7_in 6 (some .boolean) 0 0 0 0 [vL p, vL q, vL s] S μ S (xI (fun a μ' => a = (if q ≤ p ∧ p ≤ s then 1 else 0) ∧ μ' = μ)) := by
  refine x_enter (by decide) (Nat.le_of_ble_eq_true rfl) ?_
  intro zp ze zs zm za zb zh zc hC hz0
  have z1 := lg_all (a := p) (b := q) hp hq
  have z2 := lg_all (a := p) (b := s) hp hs
  refine x_lload_n (pc' := 1) hC dX7_in_0 rfl rfl ?_
  refine x_lload_n (pc' := 2) hC dX7_in_1 rfl rfl ?_
  refine x_lcmp (pc' := 3) hC dX7_in_2 rfl ?_
  refine x_if_lt (tgt := 17) (pc' := 6) hC dX7_in_3 (by decide) rfl (by omega) (fun c3 => ?_) (fun c3 => ?_)
  · refine x_iconst (pc' := 18) hC dX7_in_17 rfl ?_
    exact x_zret hC dX7_in_18 (by first | exact Or.inl rfl | exact Or.inr rfl | omega) (xI.mk ⟨by first | rw [if_pos (by omega)] | rw [if_neg (by omega)], rfl⟩)
  · refine x_lload_n (pc' := 7) hC dX7_in_6 rfl rfl ?_
    refine x_lload (pc' := 9) hC dX7_in_7 rfl rfl ?_
    refine x_lcmp (pc' := 10) hC dX7_in_9 rfl ?_
    refine x_if_gt (tgt := 17) (pc' := 13) hC dX7_in_10 (by decide) rfl (by omega) (fun c10 => ?_) (fun c10 => ?_)
    · refine x_iconst (pc' := 18) hC dX7_in_17 rfl ?_
      exact x_zret hC dX7_in_18 (by first | exact Or.inl rfl | exact Or.inr rfl | omega) (xI.mk ⟨by first | rw [if_pos (by omega)] | rw [if_neg (by omega)], rfl⟩)
    · refine x_iconst (pc' := 14) hC dX7_in_13 rfl ?_
      refine x_goto (tgt := 18) hC dX7_in_14 (by decide) ?_
      exact x_zret hC dX7_in_18 (by first | exact Or.inl rfl | exact Or.inr rfl | omega) (xI.mk ⟨by first | rw [if_pos (by omega)] | rw [if_neg (by omega)], rfl⟩)
set_option maxRecDepth 100000 in
set_option maxHeartbeats 4000000 in
theorem m_aside {g : xG} {l : Launch} {S : List xS} {μ : xM} {r : Int → Int} (hM : xPreM S) (hA : Rw μ 85 r) : xCt g l yX7_aside cX7_aside 2 none 0 0 0 0 [vR g 81] S μ S (xN (fun μ' => FrI 87 88 μ μ' ∧ Rw μ' 87 r)) := by
  refine x_enter (by decide) (Nat.le_of_ble_eq_true rfl) ?_
  intro zp ze zs zm za zb zh zc hC hz0
  have loop : ∀ (zn : Nat) (k : Nat) (i : Int) (μ1 : xM) (hi : i = k) (hk : k ≤ 32) (h1 : FrI 87 88 μ μ1) (h2 : ∀ j : Int, 0 ≤ j → j < k → μ1 87 j = r j), 32 - k < zn → xX g 2 zp l ze { frames := 0, cells := 0, slots := 0, locals := 0 } zs zm za zb zh zc 0 0 (MQ zb (xQ g S (xN (fun μ' => FrI 87 88 μ μ' ∧ Rw μ' 87 r))) za zs 0 0 (xA0 g)) S μ1 2 [some (vR g 81), some (vI i)] [] := by
    intro zn
    induction zn with
    | zero => intros; rename_i hz; exact absurd hz (Nat.not_lt_zero _)
    | succ zn ih =>
      intro k i μ1 hi hk h1 h2 hn
      subst hi
      refine x_iload_n (pc' := 3) hC dX7_aside_2 rfl rfl ?_
      refine x_bipush (pc' := 5) hC dX7_aside_3 (by decide) rfl ?_
      refine x_icmp_ge (tgt := 26) (pc' := 8) hC dX7_aside_5 (by decide) rfl (by omega) (by omega) (fun c5 => ?_) (fun c5 => ?_)
      · exact x_vret hC dX7_aside_26 (xN.mk ⟨h1, fun j a b => h2 j a (by omega)⟩)
      · refine x_aload_n (pc' := 9) hC dX7_aside_8 rfl rfl ?_
        refine x_getR (pc' := 12) (b := 87) hC kf_X7_25 dX7_aside_9 (hM 0 _ rfl) rfl rfl ?_
        refine x_iload_n (pc' := 13) hC dX7_aside_12 rfl rfl ?_
        refine x_aload_n (pc' := 14) hC dX7_aside_13 rfl rfl ?_
        refine x_getR (pc' := 17) (b := 85) hC kf_X7_19 dX7_aside_14 (hM 0 _ rfl) rfl rfl ?_
        refine x_iload_n (pc' := 18) hC dX7_aside_17 rfl rfl ?_
        refine x_iald (pc' := 19) hC dX7_aside_18 (hM 4 _ rfl) (by omega) (by decide) rfl ?_
        rw [h1 _ _ (by omega), hA k (by omega) (by omega)]
        refine x_iast (pc' := 20) hC dX7_aside_19 (hM 6 _ rfl) (by omega) (by omega) rfl ?_
        refine x_iinc (pc' := 23) hC dX7_aside_20 rfl (by decide) rfl rfl ?_
        refine x_goto (tgt := 2) hC dX7_aside_23 (by decide) ?_
        exact ih (k + 1) _ _ (by omega) (by omega) (h1.u (by omega)) (fun j a b => by by_cases hj : j = k; (rw [hj, xU_at2]); (rw [xU_nj hj]; exact h2 j a (by omega))) (by omega)
  refine x_iconst (pc' := 1) hC dX7_aside_0 rfl ?_
  refine x_istore_n (pc' := 2) hC dX7_aside_1 (by decide) rfl rfl ?_
  exact loop 33 0 _ μ rfl (by omega) FrI.rf (fun j a b => absurd b (by omega)) (by omega)
set_option maxRecDepth 100000 in
set_option maxHeartbeats 4000000 in
theorem m_take {g : xG} {l : Launch} {S : List xS} {μ : xM} {r : Int → Int} (hM : xPreM S) (hA : Rw μ 87 r) : xCt g l yX7_take cX7_take 2 none 0 0 0 0 [vR g 81] S μ S (xN (fun μ' => FrI 85 86 μ μ' ∧ Rw μ' 85 r)) := by
  refine x_enter (by decide) (Nat.le_of_ble_eq_true rfl) ?_
  intro zp ze zs zm za zb zh zc hC hz0
  have loop : ∀ (zn : Nat) (k : Nat) (i : Int) (μ1 : xM) (hi : i = k) (hk : k ≤ 32) (h1 : FrI 85 86 μ μ1) (h2 : ∀ j : Int, 0 ≤ j → j < k → μ1 85 j = r j), 32 - k < zn → xX g 2 zp l ze { frames := 0, cells := 0, slots := 0, locals := 0 } zs zm za zb zh zc 0 0 (MQ zb (xQ g S (xN (fun μ' => FrI 85 86 μ μ' ∧ Rw μ' 85 r))) za zs 0 0 (xA0 g)) S μ1 2 [some (vR g 81), some (vI i)] [] := by
    intro zn
    induction zn with
    | zero => intros; rename_i hz; exact absurd hz (Nat.not_lt_zero _)
    | succ zn ih =>
      intro k i μ1 hi hk h1 h2 hn
      subst hi
      refine x_iload_n (pc' := 3) hC dX7_take_2 rfl rfl ?_
      refine x_bipush (pc' := 5) hC dX7_take_3 (by decide) rfl ?_
      refine x_icmp_ge (tgt := 26) (pc' := 8) hC dX7_take_5 (by decide) rfl (by omega) (by omega) (fun c5 => ?_) (fun c5 => ?_)
      · exact x_vret hC dX7_take_26 (xN.mk ⟨h1, fun j a b => h2 j a (by omega)⟩)
      · refine x_aload_n (pc' := 9) hC dX7_take_8 rfl rfl ?_
        refine x_getR (pc' := 12) (b := 85) hC kf_X7_19 dX7_take_9 (hM 0 _ rfl) rfl rfl ?_
        refine x_iload_n (pc' := 13) hC dX7_take_12 rfl rfl ?_
        refine x_aload_n (pc' := 14) hC dX7_take_13 rfl rfl ?_
        refine x_getR (pc' := 17) (b := 87) hC kf_X7_25 dX7_take_14 (hM 0 _ rfl) rfl rfl ?_
        refine x_iload_n (pc' := 18) hC dX7_take_17 rfl rfl ?_
        refine x_iald (pc' := 19) hC dX7_take_18 (hM 6 _ rfl) (by omega) (by decide) rfl ?_
        rw [h1 _ _ (by omega), hA k (by omega) (by omega)]
        refine x_iast (pc' := 20) hC dX7_take_19 (hM 4 _ rfl) (by omega) (by omega) rfl ?_
        refine x_iinc (pc' := 23) hC dX7_take_20 rfl (by decide) rfl rfl ?_
        refine x_goto (tgt := 2) hC dX7_take_23 (by decide) ?_
        exact ih (k + 1) _ _ (by omega) (by omega) (h1.u (by omega)) (fun j a b => by by_cases hj : j = k; (rw [hj, xU_at2]); (rw [xU_nj hj]; exact h2 j a (by omega))) (by omega)
  refine x_iconst (pc' := 1) hC dX7_take_0 rfl ?_
  refine x_istore_n (pc' := 2) hC dX7_take_1 (by decide) rfl rfl ?_
  exact loop 33 0 _ μ rfl (by omega) FrI.rf (fun j a b => absurd b (by omega)) (by omega)
set_option maxRecDepth 100000 in
set_option maxHeartbeats 4000000 in
theorem m_lack {g : xG} {l : Launch} {S : List xS} {μ : xM} {T r : Int → Int} (hM : xPreM S) (hT : WT T) (hR : WR T r) (hA : SD μ T r) {m : Int} (hm : 0 ≤ m ∧ m < T 3) : xCt g l yX7_lack cX7_lack 4 (some .int) 0 0 0 0 [vR g 81, vI m] S μ S (xI (fun a μ' => a = lack T r m ∧ μ' = μ)) := by
  refine x_enter (by decide) (Nat.le_of_ble_eq_true rfl) ?_
  intro zp ze zs zm za zb zh zc hC hz0
  have t0 := hT.1
  have t1 := hT.2.1
  have t2 := hT.2.2.1
  have t3 := hT.2.2.2.1
  obtain ⟨⟨⟨m0, m1, m2, m3⟩, m4⟩, h87⟩ := hA
  have p1 := hR.2.1 m hm.1 hm.2
  have p2 := hR.1 (r (18 + m)) (by omega) (by omega)
  have p3 := hT.2.2.2.2 m hm.1 hm.2
  refine x_aload_n (pc' := 1) hC dX7_lack_0 rfl rfl ?_
  refine x_getR (pc' := 4) (b := 87) hC kf_X7_25 dX7_lack_1 (hM 0 _ rfl) rfl rfl ?_
  refine x_bipush (pc' := 6) hC dX7_lack_4 (by decide) rfl ?_
  refine x_iload_n (pc' := 7) hC dX7_lack_6 rfl rfl ?_
  refine x_iadd (pc' := 8) hC dX7_lack_7 rfl ?_
  refine x_iald (pc' := 9) hC dX7_lack_8 (hM 6 _ rfl) (by omega) (by decide) rfl ?_
  rw [h87 (18 + m) (by omega) (by omega)]
  refine x_istore_n (pc' := 10) hC dX7_lack_9 (by decide) rfl rfl ?_
  refine x_aload_n (pc' := 11) hC dX7_lack_10 rfl rfl ?_
  refine x_getR (pc' := 14) (b := 83) hC kf_X7_13 dX7_lack_11 (hM 0 _ rfl) rfl rfl ?_
  refine x_bipush (pc' := 16) hC dX7_lack_14 (by decide) rfl ?_
  refine x_iload_n (pc' := 17) hC dX7_lack_16 rfl rfl ?_
  refine x_iadd (pc' := 18) hC dX7_lack_17 rfl ?_
  refine x_iald (pc' := 19) hC dX7_lack_18 (hM 2 _ rfl) (by omega) (by decide) rfl ?_
  rw [(m4 m hm.1 hm.2).2]
  refine x_aload_n (pc' := 20) hC dX7_lack_19 rfl rfl ?_
  refine x_getR (pc' := 23) (b := 83) hC kf_X7_13 dX7_lack_20 (hM 0 _ rfl) rfl rfl ?_
  refine x_iconst (pc' := 24) hC dX7_lack_23 rfl ?_
  refine x_iload_n (pc' := 25) hC dX7_lack_24 rfl rfl ?_
  refine x_iadd (pc' := 26) hC dX7_lack_25 rfl ?_
  refine x_iald (pc' := 27) hC dX7_lack_26 (hM 2 _ rfl) (by omega) (by decide) rfl ?_
  rw [(m4 m hm.1 hm.2).1]
  refine x_iconst (pc' := 28) hC dX7_lack_27 rfl ?_
  refine x_icmp_ne (tgt := 47) (pc' := 31) hC dX7_lack_28 (by decide) rfl (by omega) (by omega) (fun c28 => ?_) (fun c28 => ?_)
  · refine x_iconst (pc' := 48) hC dX7_lack_47 rfl ?_
    refine x_iadd (pc' := 49) hC dX7_lack_48 rfl ?_
    refine x_istore_n (pc' := 50) hC dX7_lack_49 (by decide) rfl rfl ?_
    refine x_aload_n (pc' := 51) hC dX7_lack_50 rfl rfl ?_
    refine x_getR (pc' := 54) (b := 87) hC kf_X7_25 dX7_lack_51 (hM 0 _ rfl) rfl rfl ?_
    refine x_iconst (pc' := 55) hC dX7_lack_54 rfl ?_
    refine x_iload_n (pc' := 56) hC dX7_lack_55 rfl rfl ?_
    refine x_iadd (pc' := 57) hC dX7_lack_56 rfl ?_
    refine x_iald (pc' := 58) hC dX7_lack_57 (hM 6 _ rfl) (by omega) (by decide) rfl ?_
    rw [h87 (2 + r (18 + m)) (by omega) (by omega)]
    refine x_iload_n (pc' := 59) hC dX7_lack_58 rfl rfl ?_
    refine x_isub (pc' := 60) hC dX7_lack_59 rfl ?_
    exact x_iret hC dX7_lack_60 (xI.mk ⟨by unfold lack; first | (rw [if_pos (by omega)]; omega) | (rw [if_neg (by omega)]; omega), rfl⟩)
  · refine x_iload_n (pc' := 32) hC dX7_lack_31 rfl rfl ?_
    refine x_aload_n (pc' := 33) hC dX7_lack_32 rfl rfl ?_
    refine x_getR (pc' := 36) (b := 83) hC kf_X7_13 dX7_lack_33 (hM 0 _ rfl) rfl rfl ?_
    refine x_iconst (pc' := 37) hC dX7_lack_36 rfl ?_
    refine x_iald (pc' := 38) hC dX7_lack_37 (hM 2 _ rfl) (by omega) (by decide) rfl ?_
    rw [m0]
    refine x_iconst (pc' := 39) hC dX7_lack_38 rfl ?_
    refine x_isub (pc' := 40) hC dX7_lack_39 rfl ?_
    refine x_icmp_ne (tgt := 47) (pc' := 43) hC dX7_lack_40 (by decide) rfl (by omega) (by omega) (fun c40 => ?_) (fun c40 => ?_)
    · refine x_iconst (pc' := 48) hC dX7_lack_47 rfl ?_
      refine x_iadd (pc' := 49) hC dX7_lack_48 rfl ?_
      refine x_istore_n (pc' := 50) hC dX7_lack_49 (by decide) rfl rfl ?_
      refine x_aload_n (pc' := 51) hC dX7_lack_50 rfl rfl ?_
      refine x_getR (pc' := 54) (b := 87) hC kf_X7_25 dX7_lack_51 (hM 0 _ rfl) rfl rfl ?_
      refine x_iconst (pc' := 55) hC dX7_lack_54 rfl ?_
      refine x_iload_n (pc' := 56) hC dX7_lack_55 rfl rfl ?_
      refine x_iadd (pc' := 57) hC dX7_lack_56 rfl ?_
      refine x_iald (pc' := 58) hC dX7_lack_57 (hM 6 _ rfl) (by omega) (by decide) rfl ?_
      rw [h87 (2 + r (18 + m)) (by omega) (by omega)]
      refine x_iload_n (pc' := 59) hC dX7_lack_58 rfl rfl ?_
      refine x_isub (pc' := 60) hC dX7_lack_59 rfl ?_
      exact x_iret hC dX7_lack_60 (xI.mk ⟨by unfold lack; first | (rw [if_pos (by omega)]; omega) | (rw [if_neg (by omega)]; omega), rfl⟩)
    · refine x_iconst (pc' := 44) hC dX7_lack_43 rfl ?_
      refine x_goto (tgt := 48) hC dX7_lack_44 (by decide) ?_
      refine x_iadd (pc' := 49) hC dX7_lack_48 rfl ?_
      refine x_istore_n (pc' := 50) hC dX7_lack_49 (by decide) rfl rfl ?_
      refine x_aload_n (pc' := 51) hC dX7_lack_50 rfl rfl ?_
      refine x_getR (pc' := 54) (b := 87) hC kf_X7_25 dX7_lack_51 (hM 0 _ rfl) rfl rfl ?_
      refine x_iconst (pc' := 55) hC dX7_lack_54 rfl ?_
      refine x_iload_n (pc' := 56) hC dX7_lack_55 rfl rfl ?_
      refine x_iadd (pc' := 57) hC dX7_lack_56 rfl ?_
      refine x_iald (pc' := 58) hC dX7_lack_57 (hM 6 _ rfl) (by omega) (by decide) rfl ?_
      rw [h87 (2 + r (18 + m)) (by omega) (by omega)]
      refine x_iload_n (pc' := 59) hC dX7_lack_58 rfl rfl ?_
      refine x_isub (pc' := 60) hC dX7_lack_59 rfl ?_
      exact x_iret hC dX7_lack_60 (xI.mk ⟨by unfold lack; first | (rw [if_pos (by omega)]; omega) | (rw [if_neg (by omega)]; omega), rfl⟩)
set_option maxRecDepth 100000 in
set_option maxHeartbeats 4000000 in
theorem m_stops {g : xG} {l : Launch} {S : List xS} {μ : xM} {T r : Int → Int} (hM : xPreM S) (hT : WT T) (hR : WR T r) (hA : SD μ T r) {m x : Int} (hm : 0 ≤ m ∧ m < T 3) : xCt g l yX7_stops cX7_stops 3 (some .boolean) 1 21 0 0 [vR g 81, vI m, vI x] S μ S (xI (fun a μ' => a = (if stp T m x = true then 1 else 0) ∧ μ' = μ)) := by
  refine x_enter (by decide) (Nat.le_of_ble_eq_true rfl) ?_
  intro zp ze zs zm za zb zh zc hC hz0
  have t0 := hT.1
  have t1 := hT.2.1
  have t2 := hT.2.2.1
  have t3 := hT.2.2.2.1
  obtain ⟨⟨⟨m0, m1, m2, m3⟩, m4⟩, h87⟩ := hA
  have p1 := hR.2.1 m hm.1 hm.2
  have p2 := hR.1 (r (18 + m)) (by omega) (by omega)
  have p3 := hT.2.2.2.2 m hm.1 hm.2
  refine x_aload_n (pc' := 1) hC dX7_stops_0 rfl rfl ?_
  refine x_getR (pc' := 4) (b := 83) hC kf_X7_13 dX7_stops_1 (hM 0 _ rfl) rfl rfl ?_
  refine x_iconst (pc' := 5) hC dX7_stops_4 rfl ?_
  refine x_iald (pc' := 6) hC dX7_stops_5 (hM 2 _ rfl) (by omega) (by decide) rfl ?_
  rw [m1]
  refine x_iload_n (pc' := 7) hC dX7_stops_6 rfl rfl ?_
  refine x_callS (pc' := 10) (n := 2) hC (m_has) ky_X7_has ks_X7_has kl_X7_107 dX7_stops_7 rfl rfl ⟨Nat.le_of_ble_eq_true rfl, Nat.le_of_ble_eq_true rfl⟩ (Nat.le_of_ble_eq_true rfl) ⟨Nat.le_refl _, Nat.le_refl _⟩ (Or.inl rfl) rfl (x_kd ?_)
  refine x_ifb_ne (tgt := 38) (pc' := 13) hC dX7_stops_10 (by decide) rfl (fun c10 => ?_) (fun c10 => ?_)
  · refine x_iconst (pc' := 39) hC dX7_stops_38 rfl ?_
    refine x_goto (tgt := 43) hC dX7_stops_39 (by decide) ?_
    exact x_zret hC dX7_stops_43 (by first | exact Or.inl rfl | exact Or.inr rfl | omega) (xI.mk (by first | exact ⟨(if_pos (stp_iff.mpr (Or.inl c10))).symm, rfl⟩ | exact ⟨(if_pos (stp_iff.mpr (Or.inr ⟨c22, c35⟩))).symm, rfl⟩ | exact ⟨(if_neg (fun z => (stp_iff.mp z).elim (fun z => c10 z) (fun z => c22 z.1))).symm, rfl⟩ | exact ⟨(if_neg (fun z => (stp_iff.mp z).elim (fun z => c10 z) (fun z => c35 z.2))).symm, rfl⟩))
  · refine x_aload_n (pc' := 14) hC dX7_stops_13 rfl rfl ?_
    refine x_getR (pc' := 17) (b := 83) hC kf_X7_13 dX7_stops_14 (hM 0 _ rfl) rfl rfl ?_
    refine x_iconst (pc' := 18) hC dX7_stops_17 rfl ?_
    refine x_iload_n (pc' := 19) hC dX7_stops_18 rfl rfl ?_
    refine x_iadd (pc' := 20) hC dX7_stops_19 rfl ?_
    refine x_iald (pc' := 21) hC dX7_stops_20 (hM 2 _ rfl) (by omega) (by decide) rfl ?_
    rw [(m4 m hm.1 hm.2).1]
    refine x_iconst (pc' := 22) hC dX7_stops_21 rfl ?_
    refine x_icmp_ne (tgt := 42) (pc' := 25) hC dX7_stops_22 (by decide) rfl (by omega) (by omega) (fun c22 => ?_) (fun c22 => ?_)
    · refine x_iconst (pc' := 43) hC dX7_stops_42 rfl ?_
      exact x_zret hC dX7_stops_43 (by first | exact Or.inl rfl | exact Or.inr rfl | omega) (xI.mk (by first | exact ⟨(if_pos (stp_iff.mpr (Or.inl c10))).symm, rfl⟩ | exact ⟨(if_pos (stp_iff.mpr (Or.inr ⟨c22, c35⟩))).symm, rfl⟩ | exact ⟨(if_neg (fun z => (stp_iff.mp z).elim (fun z => c10 z) (fun z => c22 z.1))).symm, rfl⟩ | exact ⟨(if_neg (fun z => (stp_iff.mp z).elim (fun z => c10 z) (fun z => c35 z.2))).symm, rfl⟩))
    · refine x_aload_n (pc' := 26) hC dX7_stops_25 rfl rfl ?_
      refine x_getR (pc' := 29) (b := 83) hC kf_X7_13 dX7_stops_26 (hM 0 _ rfl) rfl rfl ?_
      refine x_iconst (pc' := 30) hC dX7_stops_29 rfl ?_
      refine x_iald (pc' := 31) hC dX7_stops_30 (hM 2 _ rfl) (by omega) (by decide) rfl ?_
      rw [m2]
      refine x_iload_n (pc' := 32) hC dX7_stops_31 rfl rfl ?_
      refine x_callS (pc' := 35) (n := 2) hC (m_has) ky_X7_has ks_X7_has kl_X7_107 dX7_stops_32 rfl rfl ⟨Nat.le_of_ble_eq_true rfl, Nat.le_of_ble_eq_true rfl⟩ (Nat.le_of_ble_eq_true rfl) ⟨Nat.le_refl _, Nat.le_refl _⟩ (Or.inl rfl) rfl (x_kd ?_)
      refine x_ifb_eq (tgt := 42) (pc' := 38) hC dX7_stops_35 (by decide) rfl (fun c35 => ?_) (fun c35 => ?_)
      · refine x_iconst (pc' := 43) hC dX7_stops_42 rfl ?_
        exact x_zret hC dX7_stops_43 (by first | exact Or.inl rfl | exact Or.inr rfl | omega) (xI.mk (by first | exact ⟨(if_pos (stp_iff.mpr (Or.inl c10))).symm, rfl⟩ | exact ⟨(if_pos (stp_iff.mpr (Or.inr ⟨c22, c35⟩))).symm, rfl⟩ | exact ⟨(if_neg (fun z => (stp_iff.mp z).elim (fun z => c10 z) (fun z => c22 z.1))).symm, rfl⟩ | exact ⟨(if_neg (fun z => (stp_iff.mp z).elim (fun z => c10 z) (fun z => c35 z.2))).symm, rfl⟩))
      · refine x_iconst (pc' := 39) hC dX7_stops_38 rfl ?_
        refine x_goto (tgt := 43) hC dX7_stops_39 (by decide) ?_
        exact x_zret hC dX7_stops_43 (by first | exact Or.inl rfl | exact Or.inr rfl | omega) (xI.mk (by first | exact ⟨(if_pos (stp_iff.mpr (Or.inl c10))).symm, rfl⟩ | exact ⟨(if_pos (stp_iff.mpr (Or.inr ⟨c22, c35⟩))).symm, rfl⟩ | exact ⟨(if_neg (fun z => (stp_iff.mp z).elim (fun z => c10 z) (fun z => c22 z.1))).symm, rfl⟩ | exact ⟨(if_neg (fun z => (stp_iff.mp z).elim (fun z => c10 z) (fun z => c35 z.2))).symm, rfl⟩))
set_option maxRecDepth 100000 in
set_option maxHeartbeats 4000000 in
theorem m_slideDown {g : xG} {l : Launch} {S : List xS} {μ : xM} {T r : Int → Int} (hM : xPreM S) (hT : WT T) (hR : WR T r) (hA : SD μ T r) {m sp0 : Int} (hm : 0 ≤ m ∧ m < T 3) (hsp : -100 ≤ sp0 ∧ sp0 ≤ 60) : xCt g l yX7_slideDown cX7_slideDown 5 none 2 43 0 0 [vR g 81, vI m, vI sp0] S μ S (xN (fun μ' => FrI 87 88 μ μ' ∧ Rw μ' 87 (slide T m 16 sp0 r))) := by
  refine x_enter (by decide) (Nat.le_of_ble_eq_true rfl) ?_
  intro zp ze zs zm za zb zh zc hC hz0
  have hA0 := hA
  have t0 := hT.1
  have t1 := hT.2.1
  have t2 := hT.2.2.1
  have t3 := hT.2.2.2.1
  obtain ⟨⟨⟨m0, m1, m2, m3⟩, m4⟩, h87⟩ := hA
  have loop : ∀ (zn : Nat) (n : Nat) (sp : Int) (μ1 : xM) (r1 : Int → Int) (hn : r1 (18 + m) ≤ n) (hn2 : n ≤ 16) (hs1 : -100 ≤ sp ∧ sp + 7 * n ≤ 200) (h1 : FrI 87 88 μ μ1) (h2 : Rw μ1 87 r1) (h3 : WR T r1) (h4 : slide T m n sp r1 = slide T m 16 sp0 r), n < zn → xX g 5 zp l ze { frames := 2, cells := 0, slots := 0, locals := 43 } zs zm za zb zh zc 0 0 (MQ zb (xQ g S (xN (fun μ' => FrI 87 88 μ μ' ∧ Rw μ' 87 (slide T m 16 sp0 r)))) za zs 0 0 (xA0 g)) S μ1 2 [some (vR g 81), some (vI m), some (vI sp0), some (vI sp), none] [] := by
    intro zn
    induction zn with
    | zero => intros; rename_i hz; exact absurd hz (Nat.not_lt_zero _)
    | succ zn ih =>
      intro n sp μ1 r1 hn hn2 hs1 h1 h2 h3 h4 hn
      have p1 := h3.2.1 m hm.1 hm.2
      have p2 := h3.1 (r1 (18 + m)) (by omega) (by omega)
      have p3 := hT.2.2.2.2 m hm.1 hm.2
      have hA1 := hA0.st h1 h2
      have cut : ∀ (v : Int) (c3 : 0 < sp) (c15 : 0 < r1 (18 + m)) (hv : v = max 0 (r1 (2 + r1 (18 + m)) - 1)), xX g 5 zp l ze { frames := 2, cells := 0, slots := 0, locals := 43 } zs zm za zb zh zc 0 0 (MQ zb (xQ g S (xN (fun μ' => FrI 87 88 μ μ' ∧ Rw μ' 87 (slide T m 16 sp0 r)))) za zs 0 0 (xA0 g)) S ((xU μ1 87 (2 + r1 (18 + m)) v)) 58 [some (vR g 81), some (vI m), some (vI sp0), some (vI sp), some (vI (r1 (18 + m)))] [] := by
        intro v c3 c15 hv
        obtain ⟨n1, rfl⟩ : ∃ n1 : Nat, n = n1 + 1 := ⟨n - 1, by omega⟩
        rw [slide_st c3 c15, ← hv] at h4
        have p4 := h3.1 (r1 (18 + m) - 1) (by omega) (by omega)
        have e5 : 2 + (r1 (18 + m) - 1) = 2 + r1 (18 + m) - 1 := by omega
        rw [e5] at h4 p4
        have p5 := WR_down hT h3 hm c15 hv
        have p6 : FrI 87 88 μ (xU (xU μ1 87 (2 + r1 (18 + m)) v) 87 (18 + m) (r1 (18 + m) - 1)) := (h1.u (by omega)).u (by omega)
        have p7 : Rw (xU (xU μ1 87 (2 + r1 (18 + m)) v) 87 (18 + m) (r1 (18 + m) - 1)) 87 (up (up r1 (2 + r1 (18 + m)) v) (18 + m) (r1 (18 + m) - 1)) := h2.u.u
        have p8 := hA0.st p6 p7
        have e6 : ∀ x y z : Int, x + y - z = x + (y - z) := fun x y z => by omega
        rw [e6] at h4
        refine x_aload_n (pc' := 59) hC dX7_slideDown_58 rfl rfl ?_
        refine x_getR (pc' := 62) (b := 87) hC kf_X7_25 dX7_slideDown_59 (hM 0 _ rfl) rfl rfl ?_
        refine x_bipush (pc' := 64) hC dX7_slideDown_62 (by decide) rfl ?_
        refine x_iload_n (pc' := 65) hC dX7_slideDown_64 rfl rfl ?_
        refine x_iadd (pc' := 66) hC dX7_slideDown_65 rfl ?_
        refine x_iload (pc' := 68) hC dX7_slideDown_66 rfl rfl ?_
        refine x_iconst (pc' := 69) hC dX7_slideDown_68 rfl ?_
        refine x_isub (pc' := 70) hC dX7_slideDown_69 rfl ?_
        refine x_iast (pc' := 71) hC dX7_slideDown_70 (hM 6 _ rfl) (by omega) (by omega) rfl ?_
        refine x_iload_n (pc' := 72) hC dX7_slideDown_71 rfl rfl ?_
        refine x_aload_n (pc' := 73) hC dX7_slideDown_72 rfl rfl ?_
        refine x_getR (pc' := 76) (b := 87) hC kf_X7_25 dX7_slideDown_73 (hM 0 _ rfl) rfl rfl ?_
        refine x_iconst (pc' := 77) hC dX7_slideDown_76 rfl ?_
        refine x_iload (pc' := 79) hC dX7_slideDown_77 rfl rfl ?_
        refine x_iadd (pc' := 80) hC dX7_slideDown_79 rfl ?_
        refine x_iconst (pc' := 81) hC dX7_slideDown_80 rfl ?_
        refine x_isub (pc' := 82) hC dX7_slideDown_81 rfl ?_
        refine x_iald (pc' := 83) hC dX7_slideDown_82 (hM 6 _ rfl) (by omega) (by decide) rfl ?_
        rw [xU_nj (by omega), xU_nj (by omega), h2 (2 + r1 (18 + m) - 1) (by omega) (by omega)]
        refine x_aload_n (pc' := 84) hC dX7_slideDown_83 rfl rfl ?_
        refine x_getR (pc' := 87) (b := 83) hC kf_X7_13 dX7_slideDown_84 (hM 0 _ rfl) rfl rfl ?_
        refine x_iconst (pc' := 88) hC dX7_slideDown_87 rfl ?_
        refine x_iload_n (pc' := 89) hC dX7_slideDown_88 rfl rfl ?_
        refine x_iadd (pc' := 90) hC dX7_slideDown_89 rfl ?_
        refine x_iald (pc' := 91) hC dX7_slideDown_90 (hM 2 _ rfl) (by omega) (by decide) rfl ?_
        rw [(p8.1.2 m hm.1 hm.2).1]
        refine x_iconst (pc' := 92) hC dX7_slideDown_91 rfl ?_
        refine x_icmp_ne (tgt := 99) (pc' := 95) hC dX7_slideDown_92 (by decide) rfl (by omega) (by omega) (fun c92 => ?_) (fun c92 => ?_)
        · rw [if_neg c92] at h4
          refine x_iconst (pc' := 100) hC dX7_slideDown_99 rfl ?_
          refine x_isub (pc' := 101) hC dX7_slideDown_100 rfl ?_
          refine x_iadd (pc' := 102) hC dX7_slideDown_101 rfl ?_
          refine x_istore_n (pc' := 103) hC dX7_slideDown_102 (by decide) rfl rfl ?_
          refine x_aload_n (pc' := 104) hC dX7_slideDown_103 rfl rfl ?_
          refine x_iload_n (pc' := 105) hC dX7_slideDown_104 rfl rfl ?_
          refine x_iload (pc' := 107) hC dX7_slideDown_105 rfl rfl ?_
          refine x_iconst (pc' := 108) hC dX7_slideDown_107 rfl ?_
          refine x_isub (pc' := 109) hC dX7_slideDown_108 rfl ?_
          refine x_callV (pc' := 112) (n := 2) hC (m_stops hM hT p5 p8 hm) ky_X7_stops kv_X7_stops kl_X7_111 dX7_slideDown_109 (hM 0 _ rfl) rfl rfl rfl rfl ⟨Nat.le_of_ble_eq_true rfl, Nat.le_of_ble_eq_true rfl⟩ (Nat.le_of_ble_eq_true rfl) ⟨Nat.le_refl _, Nat.le_refl _⟩ (Or.inl rfl) rfl (x_kd ?_)
          refine x_ifb_eq (tgt := 119) (pc' := 115) hC dX7_slideDown_112 (by decide) rfl (fun c112 => ?_) (fun c112 => ?_)
          · rw [if_neg c112] at h4
            refine x_iload_n (pc' := 120) hC dX7_slideDown_119 rfl rfl ?_
            refine x_istore_n (pc' := 121) hC dX7_slideDown_120 (by decide) rfl rfl ?_
            refine x_goto (tgt := 2) hC dX7_slideDown_121 (by decide) ?_
            refine x_vs (vs' := [some (vR g 81), some (vI m), some (vI sp0), some (vI _), none]) (by intro i v; match i with | 0 => exact id | 1 => exact id | 2 => exact id | 3 => exact id | 4 => (intro h; cases h) | i + 5 => (intro h; cases h)) ?_
            exact ih n1 _ _ _ (by rw [up_at]; omega) (by omega) (by omega) p6 p7 p5 h4 (by omega)
          · rw [if_pos c112] at h4
            refine x_iconst (pc' := 116) hC dX7_slideDown_115 rfl ?_
            refine x_goto (tgt := 120) hC dX7_slideDown_116 (by decide) ?_
            refine x_istore_n (pc' := 121) hC dX7_slideDown_120 (by decide) rfl rfl ?_
            refine x_goto (tgt := 2) hC dX7_slideDown_121 (by decide) ?_
            refine x_vs (vs' := [some (vR g 81), some (vI m), some (vI sp0), some (vI _), none]) (by intro i v; match i with | 0 => exact id | 1 => exact id | 2 => exact id | 3 => exact id | 4 => (intro h; cases h) | i + 5 => (intro h; cases h)) ?_
            exact ih n1 _ _ _ (by rw [up_at]; omega) (by omega) (by omega) p6 p7 p5 h4 (by omega)
        · rw [if_pos c92] at h4
          refine x_iconst (pc' := 96) hC dX7_slideDown_95 rfl ?_
          refine x_goto (tgt := 100) hC dX7_slideDown_96 (by decide) ?_
          refine x_isub (pc' := 101) hC dX7_slideDown_100 rfl ?_
          refine x_iadd (pc' := 102) hC dX7_slideDown_101 rfl ?_
          refine x_istore_n (pc' := 103) hC dX7_slideDown_102 (by decide) rfl rfl ?_
          refine x_aload_n (pc' := 104) hC dX7_slideDown_103 rfl rfl ?_
          refine x_iload_n (pc' := 105) hC dX7_slideDown_104 rfl rfl ?_
          refine x_iload (pc' := 107) hC dX7_slideDown_105 rfl rfl ?_
          refine x_iconst (pc' := 108) hC dX7_slideDown_107 rfl ?_
          refine x_isub (pc' := 109) hC dX7_slideDown_108 rfl ?_
          refine x_callV (pc' := 112) (n := 2) hC (m_stops hM hT p5 p8 hm) ky_X7_stops kv_X7_stops kl_X7_111 dX7_slideDown_109 (hM 0 _ rfl) rfl rfl rfl rfl ⟨Nat.le_of_ble_eq_true rfl, Nat.le_of_ble_eq_true rfl⟩ (Nat.le_of_ble_eq_true rfl) ⟨Nat.le_refl _, Nat.le_refl _⟩ (Or.inl rfl) rfl (x_kd ?_)
          refine x_ifb_eq (tgt := 119) (pc' := 115) hC dX7_slideDown_112 (by decide) rfl (fun c112 => ?_) (fun c112 => ?_)
          · rw [if_neg c112] at h4
            refine x_iload_n (pc' := 120) hC dX7_slideDown_119 rfl rfl ?_
            refine x_istore_n (pc' := 121) hC dX7_slideDown_120 (by decide) rfl rfl ?_
            refine x_goto (tgt := 2) hC dX7_slideDown_121 (by decide) ?_
            refine x_vs (vs' := [some (vR g 81), some (vI m), some (vI sp0), some (vI _), none]) (by intro i v; match i with | 0 => exact id | 1 => exact id | 2 => exact id | 3 => exact id | 4 => (intro h; cases h) | i + 5 => (intro h; cases h)) ?_
            exact ih n1 _ _ _ (by rw [up_at]; omega) (by omega) (by omega) p6 p7 p5 h4 (by omega)
          · rw [if_pos c112] at h4
            refine x_iconst (pc' := 116) hC dX7_slideDown_115 rfl ?_
            refine x_goto (tgt := 120) hC dX7_slideDown_116 (by decide) ?_
            refine x_istore_n (pc' := 121) hC dX7_slideDown_120 (by decide) rfl rfl ?_
            refine x_goto (tgt := 2) hC dX7_slideDown_121 (by decide) ?_
            refine x_vs (vs' := [some (vR g 81), some (vI m), some (vI sp0), some (vI _), none]) (by intro i v; match i with | 0 => exact id | 1 => exact id | 2 => exact id | 3 => exact id | 4 => (intro h; cases h) | i + 5 => (intro h; cases h)) ?_
            exact ih n1 _ _ _ (by rw [up_at]; omega) (by omega) (by omega) p6 p7 p5 h4 (by omega)
      refine x_iload_n (pc' := 3) hC dX7_slideDown_2 rfl rfl ?_
      refine x_if_le (tgt := 124) (pc' := 6) hC dX7_slideDown_3 (by decide) rfl (by omega) (fun c3 => ?_) (fun c3 => ?_)
      · exact x_vret hC dX7_slideDown_124 (xN.mk ⟨h1, by rw [← h4, slide_stop (by omega)]; exact h2⟩)
      · refine x_aload_n (pc' := 7) hC dX7_slideDown_6 rfl rfl ?_
        refine x_getR (pc' := 10) (b := 87) hC kf_X7_25 dX7_slideDown_7 (hM 0 _ rfl) rfl rfl ?_
        refine x_bipush (pc' := 12) hC dX7_slideDown_10 (by decide) rfl ?_
        refine x_iload_n (pc' := 13) hC dX7_slideDown_12 rfl rfl ?_
        refine x_iadd (pc' := 14) hC dX7_slideDown_13 rfl ?_
        refine x_iald (pc' := 15) hC dX7_slideDown_14 (hM 6 _ rfl) (by omega) (by decide) rfl ?_
        rw [h2 (18 + m) (by omega) (by omega)]
        refine x_if_le (tgt := 124) (pc' := 18) hC dX7_slideDown_15 (by decide) rfl (by omega) (fun c15 => ?_) (fun c15 => ?_)
        · exact x_vret hC dX7_slideDown_124 (xN.mk ⟨h1, by rw [← h4, slide_stop (by omega)]; exact h2⟩)
        · refine x_aload_n (pc' := 19) hC dX7_slideDown_18 rfl rfl ?_
          refine x_getR (pc' := 22) (b := 87) hC kf_X7_25 dX7_slideDown_19 (hM 0 _ rfl) rfl rfl ?_
          refine x_bipush (pc' := 24) hC dX7_slideDown_22 (by decide) rfl ?_
          refine x_iload_n (pc' := 25) hC dX7_slideDown_24 rfl rfl ?_
          refine x_iadd (pc' := 26) hC dX7_slideDown_25 rfl ?_
          refine x_iald (pc' := 27) hC dX7_slideDown_26 (hM 6 _ rfl) (by omega) (by decide) rfl ?_
          rw [h2 (18 + m) (by omega) (by omega)]
          refine x_istore (pc' := 29) hC dX7_slideDown_27 (by decide) rfl rfl ?_
          refine x_aload_n (pc' := 30) hC dX7_slideDown_29 rfl rfl ?_
          refine x_getR (pc' := 33) (b := 87) hC kf_X7_25 dX7_slideDown_30 (hM 0 _ rfl) rfl rfl ?_
          refine x_iconst (pc' := 34) hC dX7_slideDown_33 rfl ?_
          refine x_iload (pc' := 36) hC dX7_slideDown_34 rfl rfl ?_
          refine x_iadd (pc' := 37) hC dX7_slideDown_36 rfl ?_
          refine x_dup2 (pc' := 38) hC dX7_slideDown_37 rfl rfl rfl ?_
          refine x_iald (pc' := 39) hC dX7_slideDown_38 (hM 6 _ rfl) (by omega) (by decide) rfl ?_
          rw [h2 (2 + r1 (18 + m)) (by omega) (by omega)]
          refine x_aload_n (pc' := 40) hC dX7_slideDown_39 rfl rfl ?_
          refine x_getR (pc' := 43) (b := 87) hC kf_X7_25 dX7_slideDown_40 (hM 0 _ rfl) rfl rfl ?_
          refine x_iconst (pc' := 44) hC dX7_slideDown_43 rfl ?_
          refine x_iload (pc' := 46) hC dX7_slideDown_44 rfl rfl ?_
          refine x_iadd (pc' := 47) hC dX7_slideDown_46 rfl ?_
          refine x_iald (pc' := 48) hC dX7_slideDown_47 (hM 6 _ rfl) (by omega) (by decide) rfl ?_
          rw [h2 (2 + r1 (18 + m)) (by omega) (by omega)]
          refine x_if_le (tgt := 55) (pc' := 51) hC dX7_slideDown_48 (by decide) rfl (by omega) (fun c48 => ?_) (fun c48 => ?_)
          · refine x_iconst (pc' := 56) hC dX7_slideDown_55 rfl ?_
            refine x_isub (pc' := 57) hC dX7_slideDown_56 rfl ?_
            refine x_iast (pc' := 58) hC dX7_slideDown_57 (hM 6 _ rfl) (by omega) (by omega) rfl ?_
            exact cut _ (by omega) (by omega) (by omega)
          · refine x_iconst (pc' := 52) hC dX7_slideDown_51 rfl ?_
            refine x_goto (tgt := 56) hC dX7_slideDown_52 (by decide) ?_
            refine x_isub (pc' := 57) hC dX7_slideDown_56 rfl ?_
            refine x_iast (pc' := 58) hC dX7_slideDown_57 (hM 6 _ rfl) (by omega) (by omega) rfl ?_
            exact cut _ (by omega) (by omega) (by omega)
  refine x_iload_n (pc' := 1) hC dX7_slideDown_0 rfl rfl ?_
  refine x_istore_n (pc' := 2) hC dX7_slideDown_1 (by decide) rfl rfl ?_
  exact loop 17 16 _ μ r (by have := hR.2.1 m hm.1 hm.2; omega) (by omega) (by omega) FrI.rf h87 hR rfl (by omega)
set_option maxRecDepth 100000 in
set_option maxHeartbeats 4000000 in
theorem m_goOne {g : xG} {l : Launch} {S : List xS} {μ : xM} {T r : Int → Int} (hM : xPreM S) (hT : WT T) (hR : WR T r) (hA : SD μ T r) {m : Int} (hm : 0 ≤ m ∧ m < T 3) : xCt g l yX7_goOne cX7_goOne 3 none 3 67 0 0 [vR g 81, vI m] S μ S (xN (fun μ' => FrI 87 88 μ μ' ∧ Rw μ' 87 (goOne T r m))) := by
  refine x_enter (by decide) (Nat.le_of_ble_eq_true rfl) ?_
  intro zp ze zs zm za zb zh zc hC hz0
  have hA0 := hA
  have t0 := hT.1
  have t1 := hT.2.1
  have t2 := hT.2.2.1
  have t3 := hT.2.2.2.1
  obtain ⟨⟨⟨m0, m1, m2, m3⟩, m4⟩, h87⟩ := hA
  have p1 := hR.2.1 m hm.1 hm.2
  have p2 := hR.1 (r (18 + m)) (by omega) (by omega)
  have p3 := hT.2.2.2.2 m hm.1 hm.2
  have q3 := lack_rg hT hR hm
  refine x_aload_n (pc' := 1) hC dX7_goOne_0 rfl rfl ?_
  refine x_iload_n (pc' := 2) hC dX7_goOne_1 rfl rfl ?_
  refine x_callV (pc' := 5) (n := 1) hC (m_lack hM hT hR hA0 hm) ky_X7_lack kv_X7_lack kl_X7_114 dX7_goOne_2 (hM 0 _ rfl) rfl rfl rfl rfl ⟨Nat.le_of_ble_eq_true rfl, Nat.le_of_ble_eq_true rfl⟩ (Nat.le_of_ble_eq_true rfl) ⟨Nat.le_refl _, Nat.le_refl _⟩ (Or.inl rfl) rfl (x_kd ?_)
  refine x_istore_n (pc' := 6) hC dX7_goOne_5 (by decide) rfl rfl ?_
  refine x_iload_n (pc' := 7) hC dX7_goOne_6 rfl rfl ?_
  refine x_if_le (tgt := 19) (pc' := 10) hC dX7_goOne_7 (by decide) rfl (by omega) (fun c7 => ?_) (fun c7 => ?_)
  · refine x_aload_n (pc' := 20) hC dX7_goOne_19 rfl rfl ?_
    refine x_getR (pc' := 23) (b := 87) hC kf_X7_25 dX7_goOne_20 (hM 0 _ rfl) rfl rfl ?_
    refine x_bipush (pc' := 25) hC dX7_goOne_23 (by decide) rfl ?_
    refine x_iload_n (pc' := 26) hC dX7_goOne_25 rfl rfl ?_
    refine x_iadd (pc' := 27) hC dX7_goOne_26 rfl ?_
    refine x_dup2 (pc' := 28) hC dX7_goOne_27 rfl rfl rfl ?_
    refine x_iald (pc' := 29) hC dX7_goOne_28 (hM 6 _ rfl) (by omega) (by decide) rfl ?_
    rw [h87 (18 + m) (by omega) (by omega)]
    refine x_aload_n (pc' := 30) hC dX7_goOne_29 rfl rfl ?_
    refine x_getR (pc' := 33) (b := 87) hC kf_X7_25 dX7_goOne_30 (hM 0 _ rfl) rfl rfl ?_
    refine x_bipush (pc' := 35) hC dX7_goOne_33 (by decide) rfl ?_
    refine x_iload_n (pc' := 36) hC dX7_goOne_35 rfl rfl ?_
    refine x_iadd (pc' := 37) hC dX7_goOne_36 rfl ?_
    refine x_iald (pc' := 38) hC dX7_goOne_37 (hM 6 _ rfl) (by omega) (by decide) rfl ?_
    rw [h87 (18 + m) (by omega) (by omega)]
    refine x_aload_n (pc' := 39) hC dX7_goOne_38 rfl rfl ?_
    refine x_getR (pc' := 42) (b := 83) hC kf_X7_13 dX7_goOne_39 (hM 0 _ rfl) rfl rfl ?_
    refine x_iconst (pc' := 43) hC dX7_goOne_42 rfl ?_
    refine x_iald (pc' := 44) hC dX7_goOne_43 (hM 2 _ rfl) (by omega) (by decide) rfl ?_
    rw [m0]
    refine x_iconst (pc' := 45) hC dX7_goOne_44 rfl ?_
    refine x_isub (pc' := 46) hC dX7_goOne_45 rfl ?_
    refine x_icmp_ge (tgt := 53) (pc' := 49) hC dX7_goOne_46 (by decide) rfl (by omega) (by omega) (fun c46 => ?_) (fun c46 => ?_)
    · refine x_iconst (pc' := 54) hC dX7_goOne_53 rfl ?_
      refine x_iadd (pc' := 55) hC dX7_goOne_54 rfl ?_
      refine x_iast (pc' := 56) hC dX7_goOne_55 (hM 6 _ rfl) (by omega) (by omega) rfl ?_
      exact x_vret hC dX7_goOne_56 (xN.mk (by unfold goOne; first | (rw [if_pos (by omega)]; exact h13) | (rw [if_neg (by omega), if_pos (by omega)]; exact ⟨FrI.rf.u (by omega), h87.u⟩) | (rw [if_neg (by omega), if_neg (by omega)]; refine ⟨FrI.rf.u (by omega), ?_⟩; have z := h87.u (k := 18 + m) (v := r (18 + m) + 0); rw [Int.add_zero, up_self] at z; rw [Int.add_zero]; exact z)))
    · refine x_iconst (pc' := 50) hC dX7_goOne_49 rfl ?_
      refine x_goto (tgt := 54) hC dX7_goOne_50 (by decide) ?_
      refine x_iadd (pc' := 55) hC dX7_goOne_54 rfl ?_
      refine x_iast (pc' := 56) hC dX7_goOne_55 (hM 6 _ rfl) (by omega) (by omega) rfl ?_
      exact x_vret hC dX7_goOne_56 (xN.mk (by unfold goOne; first | (rw [if_pos (by omega)]; exact h13) | (rw [if_neg (by omega), if_pos (by omega)]; exact ⟨FrI.rf.u (by omega), h87.u⟩) | (rw [if_neg (by omega), if_neg (by omega)]; refine ⟨FrI.rf.u (by omega), ?_⟩; have z := h87.u (k := 18 + m) (v := r (18 + m) + 0); rw [Int.add_zero, up_self] at z; rw [Int.add_zero]; exact z)))
  · refine x_aload_n (pc' := 11) hC dX7_goOne_10 rfl rfl ?_
    refine x_iload_n (pc' := 12) hC dX7_goOne_11 rfl rfl ?_
    refine x_iload_n (pc' := 13) hC dX7_goOne_12 rfl rfl ?_
    refine x_callV (pc' := 16) (n := 2) hC (m_slideDown hM hT hR hA0 hm (by omega)) ky_X7_slideDown kv_X7_slideDown kl_X7_117 dX7_goOne_13 (hM 0 _ rfl) rfl rfl rfl rfl ⟨Nat.le_of_ble_eq_true rfl, Nat.le_of_ble_eq_true rfl⟩ (Nat.le_of_ble_eq_true rfl) ⟨Nat.le_refl _, Nat.le_refl _⟩ (Or.inl rfl) rfl (x_kn (fun μ13 h13 => ?_))
    refine x_goto (tgt := 56) hC dX7_goOne_16 (by decide) ?_
    exact x_vret hC dX7_goOne_56 (xN.mk (by unfold goOne; first | (rw [if_pos (by omega)]; exact h13) | (rw [if_neg (by omega), if_pos (by omega)]; exact ⟨FrI.rf.u (by omega), h87.u⟩) | (rw [if_neg (by omega), if_neg (by omega)]; refine ⟨FrI.rf.u (by omega), ?_⟩; have z := h87.u (k := 18 + m) (v := r (18 + m) + 0); rw [Int.add_zero, up_self] at z; rw [Int.add_zero]; exact z)))
set_option maxRecDepth 100000 in
set_option maxHeartbeats 4000000 in
theorem m_governor {g : xG} {l : Launch} {S : List xS} {μ : xM} {T r : Int → Int} (hM : xPreM S) (hT : WT T) (hR : WR T r) (hA : SD μ T r) : xCt g l yX7_governor cX7_governor 3 (some .int) 0 0 0 0 [vR g 81] S μ S (xI (fun a μ' => a = gov T r ∧ μ' = μ)) := by
  refine x_enter (by decide) (Nat.le_of_ble_eq_true rfl) ?_
  intro zp ze zs zm za zb zh zc hC hz0
  have t0 := hT.1
  have t1 := hT.2.1
  have t2 := hT.2.2.1
  have t3 := hT.2.2.2.1
  obtain ⟨⟨⟨m0, m1, m2, m3⟩, m4⟩, h87⟩ := hA
  have loop : ∀ (zn : Nat) (k : Nat) (hi mm : Int) (hhi : hi = govN r k) (hmm : mm = (k : Int) + 1) (hk : (k : Int) + 1 ≤ T 3), (T 3).toNat - k < zn → xX g 3 zp l ze { frames := 0, cells := 0, slots := 0, locals := 0 } zs zm za zb zh zc 0 0 (MQ zb (xQ g S (xI (fun a μ' => a = gov T r ∧ μ' = μ))) za zs 0 0 (xA0 g)) S μ 4 [some (vR g 81), some (vI hi), some (vI mm)] [] := by
    intro zn
    induction zn with
    | zero => intros; rename_i hz; exact absurd hz (Nat.not_lt_zero _)
    | succ zn ih =>
      intro k hi mm hhi hmm hk hn
      have g1 := govN_in (r := r) k
      refine x_iload_n (pc' := 5) hC dX7_governor_4 rfl rfl ?_
      refine x_aload_n (pc' := 6) hC dX7_governor_5 rfl rfl ?_
      refine x_getR (pc' := 9) (b := 83) hC kf_X7_13 dX7_governor_6 (hM 0 _ rfl) rfl rfl ?_
      refine x_iconst (pc' := 10) hC dX7_governor_9 rfl ?_
      refine x_iald (pc' := 11) hC dX7_governor_10 (hM 2 _ rfl) (by omega) (by decide) rfl ?_
      rw [m3]
      refine x_icmp_ge (tgt := 47) (pc' := 14) hC dX7_governor_11 (by decide) rfl (by omega) (by omega) (fun c11 => ?_) (fun c11 => ?_)
      · refine x_iload_n (pc' := 48) hC dX7_governor_47 rfl rfl ?_
        exact x_iret hC dX7_governor_48 (xI.mk ⟨by rw [hhi]; unfold gov; congr 1; omega, rfl⟩)
      · have g2 := hR.2.1 mm (by omega) (by omega)
        have g3 := hR.2.1 hi (by omega) (by omega)
        refine x_aload_n (pc' := 15) hC dX7_governor_14 rfl rfl ?_
        refine x_getR (pc' := 18) (b := 87) hC kf_X7_25 dX7_governor_15 (hM 0 _ rfl) rfl rfl ?_
        refine x_bipush (pc' := 20) hC dX7_governor_18 (by decide) rfl ?_
        refine x_iload_n (pc' := 21) hC dX7_governor_20 rfl rfl ?_
        refine x_iadd (pc' := 22) hC dX7_governor_21 rfl ?_
        refine x_iald (pc' := 23) hC dX7_governor_22 (hM 6 _ rfl) (by omega) (by decide) rfl ?_
        rw [h87 (18 + mm) (by omega) (by omega)]
        refine x_aload_n (pc' := 24) hC dX7_governor_23 rfl rfl ?_
        refine x_getR (pc' := 27) (b := 87) hC kf_X7_25 dX7_governor_24 (hM 0 _ rfl) rfl rfl ?_
        refine x_bipush (pc' := 29) hC dX7_governor_27 (by decide) rfl ?_
        refine x_iload_n (pc' := 30) hC dX7_governor_29 rfl rfl ?_
        refine x_iadd (pc' := 31) hC dX7_governor_30 rfl ?_
        refine x_iald (pc' := 32) hC dX7_governor_31 (hM 6 _ rfl) (by omega) (by decide) rfl ?_
        rw [h87 (18 + hi) (by omega) (by omega)]
        refine x_icmp_le (tgt := 39) (pc' := 35) hC dX7_governor_32 (by decide) rfl (by omega) (by omega) (fun c32 => ?_) (fun c32 => ?_)
        · refine x_iload_n (pc' := 40) hC dX7_governor_39 rfl rfl ?_
          refine x_istore_n (pc' := 41) hC dX7_governor_40 (by decide) rfl rfl ?_
          refine x_iinc (pc' := 44) hC dX7_governor_41 rfl (by decide) rfl rfl ?_
          refine x_goto (tgt := 4) hC dX7_governor_44 (by decide) ?_
          exact ih (k + 1) _ _ (by rw [govN]; subst hhi; subst hmm; first | rw [if_pos (by omega)] | rw [if_neg (by omega)]) (by omega) (by omega) (by omega)
        · refine x_iload_n (pc' := 36) hC dX7_governor_35 rfl rfl ?_
          refine x_goto (tgt := 40) hC dX7_governor_36 (by decide) ?_
          refine x_istore_n (pc' := 41) hC dX7_governor_40 (by decide) rfl rfl ?_
          refine x_iinc (pc' := 44) hC dX7_governor_41 rfl (by decide) rfl rfl ?_
          refine x_goto (tgt := 4) hC dX7_governor_44 (by decide) ?_
          exact ih (k + 1) _ _ (by rw [govN]; subst hhi; subst hmm; first | rw [if_pos (by omega)] | rw [if_neg (by omega)]) (by omega) (by omega) (by omega)
  refine x_iconst (pc' := 1) hC dX7_governor_0 rfl ?_
  refine x_istore_n (pc' := 2) hC dX7_governor_1 (by decide) rfl rfl ?_
  refine x_iconst (pc' := 3) hC dX7_governor_2 rfl ?_
  refine x_istore_n (pc' := 4) hC dX7_governor_3 (by decide) rfl rfl ?_
  exact loop ((T 3).toNat + 1) 0 _ _ rfl rfl (by omega) (by omega)
set_option maxRecDepth 100000 in
set_option maxHeartbeats 4000000 in
theorem m_goYear {g : xG} {l : Launch} {S : List xS} {μ : xM} {T r : Int → Int} (hM : xPreM S) (hT : WT T) (hR : WR T r) (hA : SD μ T r) : xCt g l yX7_goYear cX7_goYear 2 none 4 89 0 0 [vR g 81] S μ S (xN (fun μ' => FrI 87 88 μ μ' ∧ Rw μ' 87 (goYear T r))) := by
  refine x_enter (by decide) (Nat.le_of_ble_eq_true rfl) ?_
  intro zp ze zs zm za zb zh zc hC hz0
  have hA0 := hA
  have t0 := hT.1
  have t1 := hT.2.1
  have t2 := hT.2.2.1
  have t3 := hT.2.2.2.1
  obtain ⟨⟨⟨m0, m1, m2, m3⟩, m4⟩, h87⟩ := hA
  have loop : ∀ (zn : Nat) (k : Nat) (i : Int) (μ1 : xM) (hi : i = k) (hk : (k : Int) ≤ T 3) (h1 : FrI 87 88 μ μ1) (h2 : Rw μ1 87 (goN T r k)), (T 3).toNat - k < zn → xX g 2 zp l ze { frames := 4, cells := 0, slots := 0, locals := 89 } zs zm za zb zh zc 0 0 (MQ zb (xQ g S (xN (fun μ' => FrI 87 88 μ μ' ∧ Rw μ' 87 (goYear T r)))) za zs 0 0 (xA0 g)) S μ1 2 [some (vR g 81), some (vI i)] [] := by
    intro zn
    induction zn with
    | zero => intros; rename_i hz; exact absurd hz (Nat.not_lt_zero _)
    | succ zn ih =>
      intro k i μ1 hi hk h1 h2 hn
      subst hi
      have hA1 := hA0.st h1 h2
      have hR1 := WR_goN hT hR k hk
      have g1 := gov_in (r := goN T r k) hT
      have m3' := hA1.1.1.2.2.2
      refine x_iload_n (pc' := 3) hC dX7_goYear_2 rfl rfl ?_
      refine x_aload_n (pc' := 4) hC dX7_goYear_3 rfl rfl ?_
      refine x_getR (pc' := 7) (b := 83) hC kf_X7_13 dX7_goYear_4 (hM 0 _ rfl) rfl rfl ?_
      refine x_iconst (pc' := 8) hC dX7_goYear_7 rfl ?_
      refine x_iald (pc' := 9) hC dX7_goYear_8 (hM 2 _ rfl) (by omega) (by decide) rfl ?_
      rw [m3']
      refine x_icmp_ge (tgt := 23) (pc' := 12) hC dX7_goYear_9 (by decide) rfl (by omega) (by omega) (fun c9 => ?_) (fun c9 => ?_)
      · have ek : (T 3).toNat = k := by omega
        have g2 := hR1.2.2
        refine x_aload_n (pc' := 24) hC dX7_goYear_23 rfl rfl ?_
        refine x_getR (pc' := 27) (b := 87) hC kf_X7_25 dX7_goYear_24 (hM 0 _ rfl) rfl rfl ?_
        refine x_bipush (pc' := 29) hC dX7_goYear_27 (by decide) rfl ?_
        refine x_aload_n (pc' := 30) hC dX7_goYear_29 rfl rfl ?_
        refine x_callV (pc' := 33) (n := 0) hC (m_governor hM hT hR1 hA1) ky_X7_governor kv_X7_governor kl_X7_125 dX7_goYear_30 (hM 0 _ rfl) rfl rfl rfl rfl ⟨Nat.le_of_ble_eq_true rfl, Nat.le_of_ble_eq_true rfl⟩ (Nat.le_of_ble_eq_true rfl) ⟨Nat.le_refl _, Nat.le_refl _⟩ (Or.inl rfl) rfl (x_kd ?_)
        refine x_iadd (pc' := 34) hC dX7_goYear_33 rfl ?_
        refine x_dup2 (pc' := 35) hC dX7_goYear_34 rfl rfl rfl ?_
        refine x_iald (pc' := 36) hC dX7_goYear_35 (hM 6 _ rfl) (by omega) (by decide) rfl ?_
        rw [h2 (25 + gov T (goN T r k)) (by omega) (by omega)]
        refine x_iconst (pc' := 37) hC dX7_goYear_36 rfl ?_
        refine x_iadd (pc' := 38) hC dX7_goYear_37 rfl ?_
        refine x_iast (pc' := 39) hC dX7_goYear_38 (hM 6 _ rfl) (by omega) (by omega) rfl ?_
        refine x_aload_n (pc' := 40) hC dX7_goYear_39 rfl rfl ?_
        refine x_getR (pc' := 43) (b := 87) hC kf_X7_25 dX7_goYear_40 (hM 0 _ rfl) rfl rfl ?_
        refine x_iconst (pc' := 44) hC dX7_goYear_43 rfl ?_
        refine x_aload_n (pc' := 45) hC dX7_goYear_44 rfl rfl ?_
        refine x_getR (pc' := 48) (b := 87) hC kf_X7_25 dX7_goYear_45 (hM 0 _ rfl) rfl rfl ?_
        refine x_iconst (pc' := 49) hC dX7_goYear_48 rfl ?_
        refine x_iald (pc' := 50) hC dX7_goYear_49 (hM 6 _ rfl) (by omega) (by decide) rfl ?_
        rw [xU_nj (by omega), h2 1 (by omega) (by omega)]
        refine x_bipush (pc' := 52) hC dX7_goYear_50 (by decide) rfl ?_
        refine x_icmp_le (tgt := 60) (pc' := 55) hC dX7_goYear_52 (by decide) rfl (by omega) (by omega) (fun c52 => ?_) (fun c52 => ?_)
        · refine x_aload_n (pc' := 61) hC dX7_goYear_60 rfl rfl ?_
          refine x_getR (pc' := 64) (b := 87) hC kf_X7_25 dX7_goYear_61 (hM 0 _ rfl) rfl rfl ?_
          refine x_iconst (pc' := 65) hC dX7_goYear_64 rfl ?_
          refine x_iald (pc' := 66) hC dX7_goYear_65 (hM 6 _ rfl) (by omega) (by decide) rfl ?_
          rw [xU_nj (by omega), h2 1 (by omega) (by omega)]
          refine x_iconst (pc' := 67) hC dX7_goYear_66 rfl ?_
          refine x_iadd (pc' := 68) hC dX7_goYear_67 rfl ?_
          refine x_iast (pc' := 69) hC dX7_goYear_68 (hM 6 _ rfl) (by omega) (by omega) rfl ?_
          refine x_aload_n (pc' := 70) hC dX7_goYear_69 rfl rfl ?_
          refine x_getR (pc' := 73) (b := 87) hC kf_X7_25 dX7_goYear_70 (hM 0 _ rfl) rfl rfl ?_
          refine x_iconst (pc' := 74) hC dX7_goYear_73 rfl ?_
          refine x_dup2 (pc' := 75) hC dX7_goYear_74 rfl rfl rfl ?_
          refine x_iald (pc' := 76) hC dX7_goYear_75 (hM 6 _ rfl) (by omega) (by decide) rfl ?_
          rw [xU_nj (by omega), xU_nj (by omega), h2 0 (by omega) (by omega)]
          refine x_iconst (pc' := 77) hC dX7_goYear_76 rfl ?_
          refine x_iadd (pc' := 78) hC dX7_goYear_77 rfl ?_
          refine x_iast (pc' := 79) hC dX7_goYear_78 (hM 6 _ rfl) (by omega) (by omega) rfl ?_
          exact x_vret hC dX7_goYear_79 (xN.mk ⟨((h1.u (by omega)).u (by omega)).u (by omega), by
      rw [goYear_eq, ek]
      have e1 : reignUp T (goN T r k) 1 = goN T r k 1 := up_ne (by omega)
      have e2 : fundsUp (reignUp T (goN T r k)) 0 = goN T r k 0 := (up_ne (by omega)).trans (up_ne (by omega))
      rw [e1, e2]
      first | (rw [show min 99 (goN T r k 1 + 3) = 99 by omega]; exact h2.u.u.u) | (rw [show min 99 (goN T r k 1 + 3) = goN T r k 1 + 3 by omega]; exact h2.u.u.u)⟩)
        · refine x_bipush (pc' := 57) hC dX7_goYear_55 (by decide) rfl ?_
          refine x_goto (tgt := 68) hC dX7_goYear_57 (by decide) ?_
          refine x_iast (pc' := 69) hC dX7_goYear_68 (hM 6 _ rfl) (by omega) (by omega) rfl ?_
          refine x_aload_n (pc' := 70) hC dX7_goYear_69 rfl rfl ?_
          refine x_getR (pc' := 73) (b := 87) hC kf_X7_25 dX7_goYear_70 (hM 0 _ rfl) rfl rfl ?_
          refine x_iconst (pc' := 74) hC dX7_goYear_73 rfl ?_
          refine x_dup2 (pc' := 75) hC dX7_goYear_74 rfl rfl rfl ?_
          refine x_iald (pc' := 76) hC dX7_goYear_75 (hM 6 _ rfl) (by omega) (by decide) rfl ?_
          rw [xU_nj (by omega), xU_nj (by omega), h2 0 (by omega) (by omega)]
          refine x_iconst (pc' := 77) hC dX7_goYear_76 rfl ?_
          refine x_iadd (pc' := 78) hC dX7_goYear_77 rfl ?_
          refine x_iast (pc' := 79) hC dX7_goYear_78 (hM 6 _ rfl) (by omega) (by omega) rfl ?_
          exact x_vret hC dX7_goYear_79 (xN.mk ⟨((h1.u (by omega)).u (by omega)).u (by omega), by
      rw [goYear_eq, ek]
      have e1 : reignUp T (goN T r k) 1 = goN T r k 1 := up_ne (by omega)
      have e2 : fundsUp (reignUp T (goN T r k)) 0 = goN T r k 0 := (up_ne (by omega)).trans (up_ne (by omega))
      rw [e1, e2]
      first | (rw [show min 99 (goN T r k 1 + 3) = 99 by omega]; exact h2.u.u.u) | (rw [show min 99 (goN T r k 1 + 3) = goN T r k 1 + 3 by omega]; exact h2.u.u.u)⟩)
      · refine x_aload_n (pc' := 13) hC dX7_goYear_12 rfl rfl ?_
        refine x_iload_n (pc' := 14) hC dX7_goYear_13 rfl rfl ?_
        refine x_callV (pc' := 17) (n := 1) hC (m_goOne hM hT hR1 hA1 ⟨by omega, by omega⟩) ky_X7_goOne kv_X7_goOne kl_X7_121 dX7_goYear_14 (hM 0 _ rfl) rfl rfl rfl rfl ⟨Nat.le_of_ble_eq_true rfl, Nat.le_of_ble_eq_true rfl⟩ (Nat.le_of_ble_eq_true rfl) ⟨Nat.le_refl _, Nat.le_refl _⟩ (Or.inl rfl) rfl (x_kn (fun μ14 h14 => ?_))
        refine x_iinc (pc' := 20) hC dX7_goYear_17 rfl (by decide) rfl rfl ?_
        refine x_goto (tgt := 2) hC dX7_goYear_20 (by decide) ?_
        exact ih (k + 1) _ _ (by omega) (by omega) (h1.tr h14.1) (by rw [goN]; exact h14.2) (by omega)
  refine x_iconst (pc' := 1) hC dX7_goYear_0 rfl ?_
  refine x_istore_n (pc' := 2) hC dX7_goYear_1 (by decide) rfl rfl ?_
  exact loop ((T 3).toNat + 1) 0 _ μ rfl (by omega) FrI.rf h87 (by omega)
set_option maxRecDepth 100000 in
set_option maxHeartbeats 4000000 in
theorem m_goYears {g : xG} {l : Launch} {S : List xS} {μ : xM} {T r : Int → Int} (hM : xPreM S) (hT : WT T) (hR : WR T r) (hA : SD μ T r) {N : Nat} {n : Int} (hn : n = N) (hN : N ≤ 1000) : xCt g l yX7_goYears cX7_goYears 3 none 5 110 0 0 [vR g 81, vI n] S μ S (xN (fun μ' => FrI 87 88 μ μ' ∧ Rw μ' 87 (goYears T N r))) := by
  refine x_enter (by decide) (Nat.le_of_ble_eq_true rfl) ?_
  intro zp ze zs zm za zb zh zc hC hz0
  have hA0 := hA
  have t0 := hT.1
  have t1 := hT.2.1
  have t2 := hT.2.2.1
  have t3 := hT.2.2.2.1
  obtain ⟨⟨⟨m0, m1, m2, m3⟩, m4⟩, h87⟩ := hA
  have loop : ∀ (zn : Nat) (k : Nat) (i : Int) (μ1 : xM) (r1 : Int → Int) (hi : i = k) (hk : k ≤ N) (h1 : FrI 87 88 μ μ1) (h2 : Rw μ1 87 r1) (h3 : WR T r1) (h4 : goYears T (N - k) r1 = goYears T N r), N - k < zn → xX g 3 zp l ze { frames := 5, cells := 0, slots := 0, locals := 110 } zs zm za zb zh zc 0 0 (MQ zb (xQ g S (xN (fun μ' => FrI 87 88 μ μ' ∧ Rw μ' 87 (goYears T N r)))) za zs 0 0 (xA0 g)) S μ1 2 [some (vR g 81), some (vI n), some (vI i)] [] := by
    intro zn
    induction zn with
    | zero => intros; rename_i hz; exact absurd hz (Nat.not_lt_zero _)
    | succ zn ih =>
      intro k i μ1 r1 hi hk h1 h2 h3 h4 hn
      have hA1 := hA0.st h1 h2
      refine x_iload_n (pc' := 3) hC dX7_goYears_2 rfl rfl ?_
      refine x_iload_n (pc' := 4) hC dX7_goYears_3 rfl rfl ?_
      refine x_icmp_ge (tgt := 17) (pc' := 7) hC dX7_goYears_4 (by decide) rfl (by omega) (by omega) (fun c4 => ?_) (fun c4 => ?_)
      · exact x_vret hC dX7_goYears_17 (xN.mk ⟨h1, by rw [← h4, show N - k = 0 by omega]; exact h2⟩)
      · refine x_aload_n (pc' := 8) hC dX7_goYears_7 rfl rfl ?_
        refine x_callV (pc' := 11) (n := 0) hC (m_goYear hM hT h3 hA1) ky_X7_goYear kv_X7_goYear kl_X7_128 dX7_goYears_8 (hM 0 _ rfl) rfl rfl rfl rfl ⟨Nat.le_of_ble_eq_true rfl, Nat.le_of_ble_eq_true rfl⟩ (Nat.le_of_ble_eq_true rfl) ⟨Nat.le_refl _, Nat.le_refl _⟩ (Or.inl rfl) rfl (x_kn (fun μ8 h8 => ?_))
        refine x_iinc (pc' := 14) hC dX7_goYears_11 rfl (by decide) rfl rfl ?_
        refine x_goto (tgt := 2) hC dX7_goYears_14 (by decide) ?_
        exact ih (k + 1) _ _ (goYear T r1) (by omega) (by omega) (h1.tr h8.1) h8.2 (WR_goYear hT h3) (by rw [← h4, show N - k = (N - (k + 1)) + 1 by omega]; rfl) (by omega)
  refine x_iconst (pc' := 1) hC dX7_goYears_0 rfl ?_
  refine x_istore_n (pc' := 2) hC dX7_goYears_1 (by decide) rfl rfl ?_
  exact loop (N + 1) 0 _ μ r rfl (by omega) FrI.rf h87 hR rfl (by omega)
set_option maxRecDepth 100000 in
set_option maxHeartbeats 4000000 in
theorem m_more {g : xG} {l : Launch} {S : List xS} {μ : xM} {T r : Int → Int} (hM : xPreM S) (hT : WT T) (hR : WR T r) (hA : SD μ T r) {x v : Int} (hx : 0 ≤ x ∧ x < T 0) (hv : -20 ≤ v ∧ v ≤ 20) : xCt g l yX7_more cX7_more 4 none 0 0 0 0 [vR g 81, vI x, vI v] S μ S (xN (fun μ' => FrI 87 88 μ μ' ∧ Rw μ' 87 (waxBy r x v))) := by
  refine x_enter (by decide) (Nat.le_of_ble_eq_true rfl) ?_
  intro zp ze zs zm za zb zh zc hC hz0
  have hA0 := hA
  have t0 := hT.1
  have t1 := hT.2.1
  have t2 := hT.2.2.1
  have t3 := hT.2.2.2.1
  obtain ⟨⟨⟨m0, m1, m2, m3⟩, m4⟩, h87⟩ := hA
  have q3 := hR.1 x (by omega) (by omega)
  refine x_aload_n (pc' := 1) hC dX7_more_0 rfl rfl ?_
  refine x_getR (pc' := 4) (b := 87) hC kf_X7_25 dX7_more_1 (hM 0 _ rfl) rfl rfl ?_
  refine x_iconst (pc' := 5) hC dX7_more_4 rfl ?_
  refine x_iload_n (pc' := 6) hC dX7_more_5 rfl rfl ?_
  refine x_iadd (pc' := 7) hC dX7_more_6 rfl ?_
  refine x_iald (pc' := 8) hC dX7_more_7 (hM 6 _ rfl) (by omega) (by decide) rfl ?_
  rw [h87 (2 + x) (by omega) (by omega)]
  refine x_iload_n (pc' := 9) hC dX7_more_8 rfl rfl ?_
  refine x_iadd (pc' := 10) hC dX7_more_9 rfl ?_
  refine x_istore_n (pc' := 11) hC dX7_more_10 (by decide) rfl rfl ?_
  refine x_aload_n (pc' := 12) hC dX7_more_11 rfl rfl ?_
  refine x_getR (pc' := 15) (b := 87) hC kf_X7_25 dX7_more_12 (hM 0 _ rfl) rfl rfl ?_
  refine x_iconst (pc' := 16) hC dX7_more_15 rfl ?_
  refine x_iload_n (pc' := 17) hC dX7_more_16 rfl rfl ?_
  refine x_iadd (pc' := 18) hC dX7_more_17 rfl ?_
  refine x_iload_n (pc' := 19) hC dX7_more_18 rfl rfl ?_
  refine x_bipush (pc' := 21) hC dX7_more_19 (by decide) rfl ?_
  refine x_icmp_le (tgt := 29) (pc' := 24) hC dX7_more_21 (by decide) rfl (by omega) (by omega) (fun c21 => ?_) (fun c21 => ?_)
  · refine x_iload_n (pc' := 30) hC dX7_more_29 rfl rfl ?_
    refine x_if_ge (tgt := 37) (pc' := 33) hC dX7_more_30 (by decide) rfl (by omega) (fun c30 => ?_) (fun c30 => ?_)
    · refine x_iload_n (pc' := 38) hC dX7_more_37 rfl rfl ?_
      refine x_iast (pc' := 39) hC dX7_more_38 (hM 6 _ rfl) (by omega) (by omega) rfl ?_
      exact x_vret hC dX7_more_39 (xN.mk ⟨FrI.rf.u (by omega), by unfold waxBy; first | (rw [show max 0 (min 9 (r (2 + x) + v)) = 9 by omega]; exact h87.u) | (rw [show max 0 (min 9 (r (2 + x) + v)) = 0 by omega]; exact h87.u) | (rw [show max 0 (min 9 (r (2 + x) + v)) = r (2 + x) + v by omega]; exact h87.u)⟩)
    · refine x_iconst (pc' := 34) hC dX7_more_33 rfl ?_
      refine x_goto (tgt := 38) hC dX7_more_34 (by decide) ?_
      refine x_iast (pc' := 39) hC dX7_more_38 (hM 6 _ rfl) (by omega) (by omega) rfl ?_
      exact x_vret hC dX7_more_39 (xN.mk ⟨FrI.rf.u (by omega), by unfold waxBy; first | (rw [show max 0 (min 9 (r (2 + x) + v)) = 9 by omega]; exact h87.u) | (rw [show max 0 (min 9 (r (2 + x) + v)) = 0 by omega]; exact h87.u) | (rw [show max 0 (min 9 (r (2 + x) + v)) = r (2 + x) + v by omega]; exact h87.u)⟩)
  · refine x_bipush (pc' := 26) hC dX7_more_24 (by decide) rfl ?_
    refine x_goto (tgt := 38) hC dX7_more_26 (by decide) ?_
    refine x_iast (pc' := 39) hC dX7_more_38 (hM 6 _ rfl) (by omega) (by omega) rfl ?_
    exact x_vret hC dX7_more_39 (xN.mk ⟨FrI.rf.u (by omega), by unfold waxBy; first | (rw [show max 0 (min 9 (r (2 + x) + v)) = 9 by omega]; exact h87.u) | (rw [show max 0 (min 9 (r (2 + x) + v)) = 0 by omega]; exact h87.u) | (rw [show max 0 (min 9 (r (2 + x) + v)) = r (2 + x) + v by omega]; exact h87.u)⟩)
