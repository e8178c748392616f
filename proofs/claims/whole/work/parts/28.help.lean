theorem FrK_rf {c : Nat} {s : Int} {μ : xM} : FrK c s μ μ := fun _ _ _ _ => rfl
set_option maxRecDepth 100000 in
set_option maxHeartbeats 4000000 in
theorem m_isOne {g : xG} {l : Launch} {S : List xS} {μ : xM} {T : Int → Int} {m : Int} (hM : xPreM S) (hT : WT T) (hQ : TT μ 83 T) (hm : -2147483648 ≤ m ∧ m < 2147483648) : xCt g l yX7_isOne cX7_isOne 2 (some .boolean) 1 25 0 0 [vR g 81, vI m] S μ S (xI (fun a μ' => a = (if 0 ≤ m ∧ m < T 3 then 1 else 0) ∧ μ' = μ)) := by
  refine x_enter (by decide) (Nat.le_of_ble_eq_true rfl) ?_
  intro zp ze zs zm za zb zh zc hC hz0
  have t0 := hT.1
  have t1 := hT.2.1
  have t2 := hT.2.2.1
  have t3 := hT.2.2.2.1
  obtain ⟨⟨m0, m1, m2, m3⟩, m4⟩ := hQ
  refine x_iload_n (pc' := 1) hC dX7_isOne_0 rfl rfl ?_
  refine x_i2l (pc' := 2) hC dX7_isOne_1 (by omega) rfl ?_
  refine x_lconst (pc' := 3) (a := 0) hC dX7_isOne_2 (by decide) rfl ?_
  refine x_aload_n (pc' := 4) hC dX7_isOne_3 rfl rfl ?_
  refine x_getR (pc' := 7) (b := 83) hC kf_X7_13 dX7_isOne_4 (hM 0 _ rfl) rfl rfl ?_
  refine x_iconst (pc' := 8) hC dX7_isOne_7 rfl ?_
  refine x_iald (pc' := 9) hC dX7_isOne_8 (hM 2 _ rfl) (by omega) (by decide) rfl ?_
  rw [m3]
  refine x_iconst (pc' := 10) hC dX7_isOne_9 rfl ?_
  refine x_isub (pc' := 11) hC dX7_isOne_10 rfl ?_
  refine x_i2l (pc' := 12) hC dX7_isOne_11 (by omega) rfl ?_
  refine x_callS (pc' := 15) (n := 3) hC (m_in (by omega) (by omega) (by omega)) ky_X7_in ks_X7_in kl_X7_58 dX7_isOne_12 rfl rfl ⟨Nat.le_of_ble_eq_true rfl, Nat.le_of_ble_eq_true rfl⟩ (Nat.le_of_ble_eq_true rfl) ⟨Nat.le_refl _, Nat.le_refl _⟩ (Or.inl rfl) rfl (x_kd ?_)
  exact x_zret hC dX7_isOne_15 (by split <;> omega) (xI.mk ⟨by rcases Decidable.em (0 ≤ m ∧ m < T 3) with z | z; rw [if_pos z, if_pos (by omega)]; rw [if_neg z, if_neg (by omega)], rfl⟩)
set_option maxRecDepth 100000 in
set_option maxHeartbeats 4000000 in
theorem m_isStep {g : xG} {l : Launch} {S : List xS} {μ : xM} {T : Int → Int} {m : Int} (hM : xPreM S) (hT : WT T) (hQ : TT μ 83 T) (hm : -2147483648 ≤ m ∧ m < 2147483648) : xCt g l yX7_isStep cX7_isStep 2 (some .boolean) 1 25 0 0 [vR g 81, vI m] S μ S (xI (fun a μ' => a = (if 0 ≤ m ∧ m < T 0 then 1 else 0) ∧ μ' = μ)) := by
  refine x_enter (by decide) (Nat.le_of_ble_eq_true rfl) ?_
  intro zp ze zs zm za zb zh zc hC hz0
  have t0 := hT.1
  have t1 := hT.2.1
  have t2 := hT.2.2.1
  have t3 := hT.2.2.2.1
  obtain ⟨⟨m0, m1, m2, m3⟩, m4⟩ := hQ
  refine x_iload_n (pc' := 1) hC dX7_isStep_0 rfl rfl ?_
  refine x_i2l (pc' := 2) hC dX7_isStep_1 (by omega) rfl ?_
  refine x_lconst (pc' := 3) (a := 0) hC dX7_isStep_2 (by decide) rfl ?_
  refine x_aload_n (pc' := 4) hC dX7_isStep_3 rfl rfl ?_
  refine x_getR (pc' := 7) (b := 83) hC kf_X7_13 dX7_isStep_4 (hM 0 _ rfl) rfl rfl ?_
  refine x_iconst (pc' := 8) hC dX7_isStep_7 rfl ?_
  refine x_iald (pc' := 9) hC dX7_isStep_8 (hM 2 _ rfl) (by omega) (by decide) rfl ?_
  rw [m0]
  refine x_iconst (pc' := 10) hC dX7_isStep_9 rfl ?_
  refine x_isub (pc' := 11) hC dX7_isStep_10 rfl ?_
  refine x_i2l (pc' := 12) hC dX7_isStep_11 (by omega) rfl ?_
  refine x_callS (pc' := 15) (n := 3) hC (m_in (by omega) (by omega) (by omega)) ky_X7_in ks_X7_in kl_X7_58 dX7_isStep_12 rfl rfl ⟨Nat.le_of_ble_eq_true rfl, Nat.le_of_ble_eq_true rfl⟩ (Nat.le_of_ble_eq_true rfl) ⟨Nat.le_refl _, Nat.le_refl _⟩ (Or.inl rfl) rfl (x_kd ?_)
  exact x_zret hC dX7_isStep_15 (by split <;> omega) (xI.mk ⟨by rcases Decidable.em (0 ≤ m ∧ m < T 0) with z | z; rw [if_pos z, if_pos (by omega)]; rw [if_neg z, if_neg (by omega)], rfl⟩)
set_option maxRecDepth 100000 in
set_option maxHeartbeats 4000000 in
theorem m_governs {g : xG} {l : Launch} {S : List xS} {μ : xM} {T r : Int → Int} (hM : xPreM S) (hT : WT T) (hR : WR T r) (hQ : TT μ 83 T) (hN : Rw μ 85 r) : xCt g l yX7_governs cX7_governs 1 (some .int) 1 22 0 0 [vR g 81] S μ S (xI (fun a μ' => a = gov T r ∧ FrI 87 88 μ μ')) := by
  refine x_enter (by decide) (Nat.le_of_ble_eq_true rfl) ?_
  intro zp ze zs zm za zb zh zc hC hz0
  refine x_aload_n (pc' := 1) hC dX7_governs_0 rfl rfl ?_
  refine x_callV (pc' := 4) (n := 0) hC (m_aside hM hN) ky_X7_aside kv_X7_aside kl_X7_136 dX7_governs_1 (hM 0 _ rfl) rfl rfl rfl rfl ⟨Nat.le_of_ble_eq_true rfl, Nat.le_of_ble_eq_true rfl⟩ (Nat.le_of_ble_eq_true rfl) ⟨Nat.le_refl _, Nat.le_refl _⟩ (Or.inl rfl) rfl (x_kn (fun μ1 h1 => ?_))
  refine x_aload_n (pc' := 5) hC dX7_governs_4 rfl rfl ?_
  refine x_callV (pc' := 8) (n := 0) hC (m_governor hM hT hR ⟨hQ.fr h1.1 (by omega), h1.2⟩) ky_X7_governor kv_X7_governor kl_X7_125 dX7_governs_5 (hM 0 _ rfl) rfl rfl rfl rfl ⟨Nat.le_of_ble_eq_true rfl, Nat.le_of_ble_eq_true rfl⟩ (Nat.le_of_ble_eq_true rfl) ⟨Nat.le_refl _, Nat.le_refl _⟩ (Or.inl rfl) rfl (x_kd ?_)
  exact x_iret hC dX7_governs_8 (xI.mk ⟨rfl, h1.1⟩)
set_option maxRecDepth 100000 in
set_option maxHeartbeats 4000000 in
theorem m_governsWith {g : xG} {l : Launch} {S : List xS} {μ : xM} {T r : Int → Int} (hM : xPreM S) (hT : WT T) (hR : WR T r) (hQ : TT μ 83 T) (hN : Rw μ 85 r) {m n x v : Int} (hmr : -2147483648 ≤ m ∧ m < 2147483648) (hn : 0 ≤ n ∧ n ≤ 40) (hx : 0 ≤ x ∧ x < T 0) (hv : 0 ≤ v) (h9 : r (2 + x) + v ≤ 9) : xCt g l yX7_governsWith cX7_governsWith 5 (some .boolean) 6 132 0 0 [vR g 81, vI m, vI n, vI x, vI v] S μ S (xI (fun a μ' => a = (if gov T (goYears T n.toNat (up r (2 + x) (r (2 + x) + v))) = m then 1 else 0) ∧ FrI 87 88 μ μ')) := by
  refine x_enter (by decide) (Nat.le_of_ble_eq_true rfl) ?_
  intro zp ze zs zm za zb zh zc hC hz0
  have t0 := hT.1
  have t1 := hT.2.1
  have t2 := hT.2.2.1
  have t3 := hT.2.2.2.1
  have W := WR_wax9 hR (show 0 ≤ x ∧ x < 16 by omega) hv h9
  have W2 := WR_goYears hT n.toNat _ W
  have g1 := gov_in (T := T) (r := goYears T n.toNat (up r (2 + x) (r (2 + x) + v))) hT
  refine x_aload_n (pc' := 1) hC dX7_governsWith_0 rfl rfl ?_
  refine x_callV (pc' := 4) (n := 0) hC (m_aside hM hN) ky_X7_aside kv_X7_aside kl_X7_136 dX7_governsWith_1 (hM 0 _ rfl) rfl rfl rfl rfl ⟨Nat.le_of_ble_eq_true rfl, Nat.le_of_ble_eq_true rfl⟩ (Nat.le_of_ble_eq_true rfl) ⟨Nat.le_refl _, Nat.le_refl _⟩ (Or.inl rfl) rfl (x_kn (fun μ1 h1 => ?_))
  refine x_aload_n (pc' := 5) hC dX7_governsWith_4 rfl rfl ?_
  refine x_getR (pc' := 8) (b := 87) hC kf_X7_25 dX7_governsWith_5 (hM 0 _ rfl) rfl rfl ?_
  refine x_iconst (pc' := 9) hC dX7_governsWith_8 rfl ?_
  refine x_iload_n (pc' := 10) hC dX7_governsWith_9 rfl rfl ?_
  refine x_iadd (pc' := 11) hC dX7_governsWith_10 rfl ?_
  refine x_dup2 (pc' := 12) hC dX7_governsWith_11 rfl rfl rfl ?_
  refine x_iald (pc' := 13) hC dX7_governsWith_12 (hM 6 _ rfl) (by omega) (by decide) rfl ?_
  rw [h1.2 (2 + x) (by omega) (by omega)]
  refine x_iload (pc' := 15) hC dX7_governsWith_13 rfl rfl ?_
  refine x_iadd (pc' := 16) hC dX7_governsWith_15 rfl ?_
  refine x_iast (pc' := 17) hC dX7_governsWith_16 (hM 6 _ rfl) (by omega) (by omega) rfl ?_
  refine x_aload_n (pc' := 18) hC dX7_governsWith_17 rfl rfl ?_
  refine x_iload_n (pc' := 19) hC dX7_governsWith_18 rfl rfl ?_
  refine x_callV (pc' := 22) (n := 1) hC (m_goYears (N := n.toNat) (r := up r (2 + x) (r (2 + x) + v)) hM hT W ⟨(hQ.fr h1.1 (by omega)).fr (lo := 87) (hi := 88) (FrI.rf.u (by omega)) (by omega), h1.2.u⟩ (by omega) (by omega)) ky_X7_goYears kv_X7_goYears kl_X7_147 dX7_governsWith_19 (hM 0 _ rfl) rfl rfl rfl rfl ⟨Nat.le_of_ble_eq_true rfl, Nat.le_of_ble_eq_true rfl⟩ (Nat.le_of_ble_eq_true rfl) ⟨Nat.le_refl _, Nat.le_refl _⟩ (Or.inl rfl) rfl (x_kn (fun μ19 h19 => ?_))
  refine x_aload_n (pc' := 23) hC dX7_governsWith_22 rfl rfl ?_
  refine x_callV (pc' := 26) (n := 0) hC (m_governor hM hT W2 ⟨hQ.fr ((h1.1.u (j := 2 + x) (a := r (2 + x) + v) (k := 87) (by omega)).tr h19.1) (by omega), h19.2⟩) ky_X7_governor kv_X7_governor kl_X7_125 dX7_governsWith_23 (hM 0 _ rfl) rfl rfl rfl rfl ⟨Nat.le_of_ble_eq_true rfl, Nat.le_of_ble_eq_true rfl⟩ (Nat.le_of_ble_eq_true rfl) ⟨Nat.le_refl _, Nat.le_refl _⟩ (Or.inl rfl) rfl (x_kd ?_)
  refine x_iload_n (pc' := 27) hC dX7_governsWith_26 rfl rfl ?_
  refine x_icmp_ne (tgt := 34) (pc' := 30) hC dX7_governsWith_27 (by decide) rfl (by omega) hmr (fun c27 => ?_) (fun c27 => ?_)
  · refine x_iconst (pc' := 35) hC dX7_governsWith_34 rfl ?_
    exact x_zret hC dX7_governsWith_35 (by first | exact Or.inl rfl | exact Or.inr rfl | omega) (xI.mk ⟨by first | rw [if_pos c27] | rw [if_neg c27], (h1.1.u (by omega)).tr h19.1⟩)
  · refine x_iconst (pc' := 31) hC dX7_governsWith_30 rfl ?_
    refine x_goto (tgt := 35) hC dX7_governsWith_31 (by decide) ?_
    exact x_zret hC dX7_governsWith_35 (by first | exact Or.inl rfl | exact Or.inr rfl | omega) (xI.mk ⟨by first | rw [if_pos c27] | rw [if_neg c27], (h1.1.u (by omega)).tr h19.1⟩)
set_option maxRecDepth 100000 in
set_option maxHeartbeats 4000000 in
theorem m_waxInAll {g : xG} {l : Launch} {S : List xS} {μ : xM} {T r : Int → Int} (hM : xPreM S) (hT : WT T) (hR : WR T r) (hQ : TT μ 83 T) (hN : Rw μ 85 r) (hz : ∀ j : Int, T 0 ≤ j → j < 16 → r (2 + j) = 0) : xCt g l yX7_waxInAll cX7_waxInAll 3 (some .int) 0 0 0 0 [vR g 81] S μ S (xI (fun a μ' => a = sumW r (T 0).toNat ∧ μ' = μ)) := by
  refine x_enter (by decide) (Nat.le_of_ble_eq_true rfl) ?_
  intro zp ze zs zm za zb zh zc hC hz0
  have t0 := hT.1
  have t1 := hT.2.1
  have t2 := hT.2.2.1
  have t3 := hT.2.2.2.1
  have loop : ∀ (zn : Nat) (k : Nat) (n9 i : Int) (hn9 : n9 = sumW r k) (hi : i = k) (hk : k ≤ 16), 16 - k < zn → xX g 3 zp l ze { frames := 0, cells := 0, slots := 0, locals := 0 } zs zm za zb zh zc 0 0 (MQ zb (xQ g S (xI (fun a μ' => a = sumW r (T 0).toNat ∧ μ' = μ))) za zs 0 0 (xA0 g)) S μ 4 [some (vR g 81), some (vI n9), some (vI i)] [] := by
    intro zn
    induction zn with
    | zero => intros; rename_i hz; exact absurd hz (Nat.not_lt_zero _)
    | succ zn ih =>
      intro k n9 i hn9 hi hk hn
      subst hi
      refine x_iload_n (pc' := 5) hC dX7_waxInAll_4 rfl rfl ?_
      refine x_bipush (pc' := 7) hC dX7_waxInAll_5 (by decide) rfl ?_
      refine x_icmp_ge (tgt := 27) (pc' := 10) hC dX7_waxInAll_7 (by decide) rfl (by omega) (by omega) (fun c7 => ?_) (fun c7 => ?_)
      · have k16 : k = 16 := by omega
        subst k16
        have e := sumW_16 (r := r) (N := (T 0).toNat) (fun j a b => hz j (by omega) b) (16 - (T 0).toNat) (by omega)
        rw [show (T 0).toNat + (16 - (T 0).toNat) = 16 by omega] at e
        refine x_iload_n (pc' := 28) hC dX7_waxInAll_27 rfl rfl ?_
        exact x_iret hC dX7_waxInAll_28 (xI.mk ⟨by rw [hn9, e], rfl⟩)
      · refine x_iload_n (pc' := 11) hC dX7_waxInAll_10 rfl rfl ?_
        refine x_aload_n (pc' := 12) hC dX7_waxInAll_11 rfl rfl ?_
        refine x_getR (pc' := 15) (b := 85) hC kf_X7_19 dX7_waxInAll_12 (hM 0 _ rfl) rfl rfl ?_
        refine x_iconst (pc' := 16) hC dX7_waxInAll_15 rfl ?_
        refine x_iload_n (pc' := 17) hC dX7_waxInAll_16 rfl rfl ?_
        refine x_iadd (pc' := 18) hC dX7_waxInAll_17 rfl ?_
        refine x_iald (pc' := 19) hC dX7_waxInAll_18 (hM 4 _ rfl) (by omega) (by decide) rfl ?_
        rw [hN (2 + (k : Int)) (by omega) (by omega)]
        refine x_iadd (pc' := 20) hC dX7_waxInAll_19 rfl ?_
        refine x_istore_n (pc' := 21) hC dX7_waxInAll_20 (by decide) rfl rfl ?_
        refine x_iinc (pc' := 24) hC dX7_waxInAll_21 rfl (by decide) rfl rfl ?_
        refine x_goto (tgt := 4) hC dX7_waxInAll_24 (by decide) ?_
        exact ih (k + 1) _ _ (by rw [sumW, hn9]) (by omega) (by omega) (by omega)
  refine x_iconst (pc' := 1) hC dX7_waxInAll_0 rfl ?_
  refine x_istore_n (pc' := 2) hC dX7_waxInAll_1 (by decide) rfl rfl ?_
  refine x_iconst (pc' := 3) hC dX7_waxInAll_2 rfl ?_
  refine x_istore_n (pc' := 4) hC dX7_waxInAll_3 (by decide) rfl rfl ?_
  exact loop 17 0 _ _ rfl rfl (by omega) (by omega)
set_option maxRecDepth 100000 in
set_option maxHeartbeats 4000000 in
theorem m_weight {g : xG} {l : Launch} {S : List xS} {μ : xM} {T r : Int → Int} (hM : xPreM S) (hT : WT T) (hR : WR T r) (hQ : TT μ 83 T) (hN : Rw μ 85 r) {z : Int} : xCt g l yX7_weight cX7_weight 4 (some .int) 1 21 0 0 [vR g 81, vI z] S μ S (xI (fun a μ' => a = wgt r z (T 3).toNat ∧ μ' = μ)) := by
  refine x_enter (by decide) (Nat.le_of_ble_eq_true rfl) ?_
  intro zp ze zs zm za zb zh zc hC hz0
  have t0 := hT.1
  have t1 := hT.2.1
  have t2 := hT.2.2.1
  have t3 := hT.2.2.2.1
  obtain ⟨⟨m0, m1, m2, m3⟩, m4⟩ := hQ
  have loop : ∀ (zn : Nat) (k : Nat) (n9 i : Int) (hn9 : n9 = wgt r z k) (hi : i = k) (hk : (k : Int) ≤ T 3), (T 3).toNat - k < zn → xX g 4 zp l ze { frames := 1, cells := 0, slots := 0, locals := 21 } zs zm za zb zh zc 0 0 (MQ zb (xQ g S (xI (fun a μ' => a = wgt r z (T 3).toNat ∧ μ' = μ))) za zs 0 0 (xA0 g)) S μ 4 [some (vR g 81), some (vI z), some (vI n9), some (vI i)] [] := by
    intro zn
    induction zn with
    | zero => intros; rename_i hz; exact absurd hz (Nat.not_lt_zero _)
    | succ zn ih =>
      intro k n9 i hn9 hi hk hn
      subst hi
      refine x_iload_n (pc' := 5) hC dX7_weight_4 rfl rfl ?_
      refine x_aload_n (pc' := 6) hC dX7_weight_5 rfl rfl ?_
      refine x_getR (pc' := 9) (b := 83) hC kf_X7_13 dX7_weight_6 (hM 0 _ rfl) rfl rfl ?_
      refine x_iconst (pc' := 10) hC dX7_weight_9 rfl ?_
      refine x_iald (pc' := 11) hC dX7_weight_10 (hM 2 _ rfl) (by omega) (by decide) rfl ?_
      rw [m3]
      refine x_icmp_ge (tgt := 46) (pc' := 14) hC dX7_weight_11 (by decide) rfl (by omega) (by omega) (fun c11 => ?_) (fun c11 => ?_)
      · refine x_iload_n (pc' := 47) hC dX7_weight_46 rfl rfl ?_
        exact x_iret hC dX7_weight_47 (xI.mk ⟨by rw [hn9, show (T 3).toNat = k by omega], rfl⟩)
      · refine x_iload_n (pc' := 15) hC dX7_weight_14 rfl rfl ?_
        refine x_iload_n (pc' := 16) hC dX7_weight_15 rfl rfl ?_
        refine x_iload_n (pc' := 17) hC dX7_weight_16 rfl rfl ?_
        refine x_callS (pc' := 20) (n := 2) hC (m_has) ky_X7_has ks_X7_has kl_X7_107 dX7_weight_17 rfl rfl ⟨Nat.le_of_ble_eq_true rfl, Nat.le_of_ble_eq_true rfl⟩ (Nat.le_of_ble_eq_true rfl) ⟨Nat.le_refl _, Nat.le_refl _⟩ (Or.inl rfl) rfl (x_kd ?_)
        refine x_ifb_eq (tgt := 37) (pc' := 23) hC dX7_weight_20 (by decide) rfl (fun c20 => ?_) (fun c20 => ?_)
        · refine x_iconst (pc' := 38) hC dX7_weight_37 rfl ?_
          refine x_iadd (pc' := 39) hC dX7_weight_38 rfl ?_
          refine x_istore_n (pc' := 40) hC dX7_weight_39 (by decide) rfl rfl ?_
          refine x_iinc (pc' := 43) hC dX7_weight_40 rfl (by decide) rfl rfl ?_
          refine x_goto (tgt := 4) hC dX7_weight_43 (by decide) ?_
          exact ih (k + 1) _ _ (by rw [wgt]; first | rw [if_pos c20, hn9] | rw [if_neg c20, hn9, Int.add_zero]) (by omega) (by omega) (by omega)
        · refine x_aload_n (pc' := 24) hC dX7_weight_23 rfl rfl ?_
          refine x_getR (pc' := 27) (b := 85) hC kf_X7_19 dX7_weight_24 (hM 0 _ rfl) rfl rfl ?_
          refine x_bipush (pc' := 29) hC dX7_weight_27 (by decide) rfl ?_
          refine x_iload_n (pc' := 30) hC dX7_weight_29 rfl rfl ?_
          refine x_iadd (pc' := 31) hC dX7_weight_30 rfl ?_
          refine x_iald (pc' := 32) hC dX7_weight_31 (hM 4 _ rfl) (by omega) (by decide) rfl ?_
          rw [hN (18 + (k : Int)) (by omega) (by omega)]
          refine x_iconst (pc' := 33) hC dX7_weight_32 rfl ?_
          refine x_iadd (pc' := 34) hC dX7_weight_33 rfl ?_
          refine x_goto (tgt := 38) hC dX7_weight_34 (by decide) ?_
          refine x_iadd (pc' := 39) hC dX7_weight_38 rfl ?_
          refine x_istore_n (pc' := 40) hC dX7_weight_39 (by decide) rfl rfl ?_
          refine x_iinc (pc' := 43) hC dX7_weight_40 rfl (by decide) rfl rfl ?_
          refine x_goto (tgt := 4) hC dX7_weight_43 (by decide) ?_
          exact ih (k + 1) _ _ (by rw [wgt]; first | rw [if_pos c20, hn9] | rw [if_neg c20, hn9, Int.add_zero]) (by omega) (by omega) (by omega)
  refine x_iconst (pc' := 1) hC dX7_weight_0 rfl ?_
  refine x_istore_n (pc' := 2) hC dX7_weight_1 (by decide) rfl rfl ?_
  refine x_iconst (pc' := 3) hC dX7_weight_2 rfl ?_
  refine x_istore_n (pc' := 4) hC dX7_weight_3 (by decide) rfl rfl ?_
  exact loop ((T 3).toNat + 1) 0 _ _ rfl rfl (by omega) (by omega)
set_option maxRecDepth 100000 in
set_option maxHeartbeats 4000000 in
theorem m_ones {g : xG} {l : Launch} {S : List xS} {μ : xM} {k : Int} (hk : 0 ≤ k ∧ k < 128) : xCt g l yX7_ones cX7_ones 3 (some .int) 0 0 0 0 [vI k] S μ S (xI (fun a μ' => a = pop k ∧ μ' = μ)) := by
  refine x_enter (by decide) (Nat.le_of_ble_eq_true rfl) ?_
  intro zp ze zs zm za zb zh zc hC hz0
  have loop : ∀ (zn : Nat) (X : Nat) (c x : Int) (hx : x = X) (hX : X < 128) (hc : c + pop x = pop k), X < zn → xX g 3 zp l ze { frames := 0, cells := 0, slots := 0, locals := 0 } zs zm za zb zh zc 0 0 (MQ zb (xQ g S (xI (fun a μ' => a = pop k ∧ μ' = μ))) za zs 0 0 (xA0 g)) S μ 4 [some (vI k), some (vI c), some (vI x)] [] := by
    intro zn
    induction zn with
    | zero => intros; rename_i hz; exact absurd hz (Nat.not_lt_zero _)
    | succ zn ih =>
      intro X c x hx hX hc hn
      subst hx
      refine x_iload_n (pc' := 5) hC dX7_ones_4 rfl rfl ?_
      refine x_if_eq (tgt := 20) (pc' := 8) hC dX7_ones_5 (by decide) rfl (by omega) (fun c5 => ?_) (fun c5 => ?_)
      · have z0 : X = 0 := by omega
        subst z0
        refine x_iload_n (pc' := 21) hC dX7_ones_20 rfl rfl ?_
        exact x_iret hC dX7_ones_21 (xI.mk ⟨by have := (show pop ((0 : Nat) : Int) = 0 from pop_z); omega, rfl⟩)
      · obtain ⟨z1, z2, z3⟩ := ones_st X hX (by omega)
        refine x_iinc (pc' := 11) hC dX7_ones_8 rfl (by decide) rfl rfl ?_
        refine x_iload_n (pc' := 12) hC dX7_ones_11 rfl rfl ?_
        refine x_iload_n (pc' := 13) hC dX7_ones_12 rfl rfl ?_
        refine x_iconst (pc' := 14) hC dX7_ones_13 rfl ?_
        refine x_isub (pc' := 15) hC dX7_ones_14 rfl ?_
        refine x_iand (pc' := 16) hC dX7_ones_15 rfl ?_
        refine x_istore_n (pc' := 17) hC dX7_ones_16 (by decide) rfl rfl ?_
        refine x_goto (tgt := 4) hC dX7_ones_17 (by decide) ?_
        exact ih (iAnd X ((X : Int) - 1)).toNat _ _ z1 (by omega) (by omega) (by omega)
  refine x_iconst (pc' := 1) hC dX7_ones_0 rfl ?_
  refine x_istore_n (pc' := 2) hC dX7_ones_1 (by decide) rfl rfl ?_
  refine x_iload_n (pc' := 3) hC dX7_ones_2 rfl rfl ?_
  refine x_istore_n (pc' := 4) hC dX7_ones_3 (by decide) rfl rfl ?_
  exact loop 128 k.toNat _ _ (by omega) (by omega) (by omega) (by omega)
set_option maxRecDepth 100000 in
set_option maxHeartbeats 4000000 in
theorem m_isSeen {g : xG} {l : Launch} {S : List xS} {μ : xM} {T r : Int → Int} {sl : List (Int × Int)} (hM : xPreM S) (hT : WT T) (hR : WR T r) (hA : SD μ T r) (hs : Sm μ T sl) : xCt g l yX7_isSeen cX7_isSeen 3 (some .boolean) 5 110 0 0 [vR g 81] S μ S (xI (fun a μ' => a = (if seenB (goYear T r) sl = true then 1 else 0) ∧ FrI 87 88 μ μ')) := by
  refine x_enter (by decide) (Nat.le_of_ble_eq_true rfl) ?_
  intro zp ze zs zm za zb zh zc hC hz0
  have t0 := hT.1
  have t1 := hT.2.1
  have t2 := hT.2.2.1
  have t3 := hT.2.2.2.1
  have hW := WR_goYear hT hR
  have loop : ∀ (zn : Nat) (k : Nat) (f i : Int) (μ1 : xM) (hi : i = k) (hk : k ≤ sl.length) (h1 : FrI 87 88 μ μ1) (h2 : Rw μ1 87 (goYear T r)) (hf : (f = 1 ∧ ∀ (j : Nat) (q : Int × Int), j < k → sl[j]? = some q → goYear T r (18 + q.1) = q.2) ∨ (f = 0 ∧ seenB (goYear T r) sl ≠ true)), sl.length - k < zn → xX g 3 zp l ze { frames := 5, cells := 0, slots := 0, locals := 110 } zs zm za zb zh zc 0 0 (MQ zb (xQ g S (xI (fun a μ' => a = (if seenB (goYear T r) sl = true then 1 else 0) ∧ FrI 87 88 μ μ'))) za zs 0 0 (xA0 g)) S μ1 8 [some (vR g 81), some (vI f), some (vI i)] [] := by
    intro zn
    induction zn with
    | zero => intros; rename_i hz; exact absurd hz (Nat.not_lt_zero _)
    | succ zn ih =>
      intro k f i μ1 hi hk h1 h2 hf hn
      subst hi
      obtain ⟨e1, e2, e3⟩ := hs.fr h1 (by omega) (by omega)
      refine x_iload_n (pc' := 9) hC dX7_isSeen_8 rfl rfl ?_
      refine x_aload_n (pc' := 10) hC dX7_isSeen_9 rfl rfl ?_
      refine x_getI (j' := 13) (pc' := 13) hC kf_X7_98 dX7_isSeen_10 (hM 0 _ rfl) rfl rfl rfl ?_
      rw [e1]
      refine x_icmp_ge (tgt := 61) (pc' := 16) hC dX7_isSeen_13 (by decide) rfl (by omega) (by omega) (fun c13 => ?_) (fun c13 => ?_)
      · refine x_iload_n (pc' := 62) hC dX7_isSeen_61 rfl rfl ?_
        exact x_zret hC dX7_isSeen_62 (by rcases hf with z | z; exact Or.inr z.1; exact Or.inl z.1) (xI.mk ⟨by
      rcases hf with z | z
      · rw [if_pos (seenB_iff.mpr (fun j q hq => z.2 j q (by have := (List.getElem?_eq_some_iff.mp hq).1; omega) hq))]; exact z.1
      · rw [if_neg z.2]; exact z.1, h1⟩)
      · obtain ⟨q, hq⟩ : ∃ q, sl[k]? = some q := ⟨sl[k]'(by omega), List.getElem?_eq_getElem (by omega)⟩
        obtain ⟨f1, f2, f3, f4, f5, f6⟩ := e3 k q hq
        have f7 := hW.2.1 q.1 (by omega) (by omega)
        refine x_iload_n (pc' := 17) hC dX7_isSeen_16 rfl rfl ?_
        refine x_if_eq (tgt := 53) (pc' := 20) hC dX7_isSeen_17 (by decide) rfl (by omega) (fun c17 => ?_) (fun c17 => ?_)
        · refine x_iconst (pc' := 54) hC dX7_isSeen_53 rfl ?_
          refine x_istore_n (pc' := 55) hC dX7_isSeen_54 (by decide) rfl rfl ?_
          refine x_iinc (pc' := 58) hC dX7_isSeen_55 rfl (by decide) rfl rfl ?_
          refine x_goto (tgt := 8) hC dX7_isSeen_58 (by decide) ?_
          exact ih (k + 1) _ _ _ (by omega) (by omega) h1 h2 (by first | exact Or.inr ⟨rfl, by omega⟩ | exact Or.inr ⟨rfl, hf.elim (fun z => absurd z.1 (by omega)) (fun z => z.2)⟩ | exact Or.inr ⟨rfl, fun z => c46 (seenB_iff.mp z k q hq)⟩ | exact Or.inl ⟨rfl, fun j w hj hw => by rcases Nat.lt_or_ge j k with z | z; exact (hf.elim (fun y => y.2) (fun y => absurd y.1 (by omega))) j w z hw; have : j = k := (by omega); subst this; cases hq.symm.trans hw; exact c46⟩) (by omega)
        · refine x_aload_n (pc' := 21) hC dX7_isSeen_20 rfl rfl ?_
          refine x_getR (pc' := 24) (b := 87) hC kf_X7_25 dX7_isSeen_21 (hM 0 _ rfl) rfl rfl ?_
          refine x_bipush (pc' := 26) hC dX7_isSeen_24 (by decide) rfl ?_
          refine x_aload_n (pc' := 27) hC dX7_isSeen_26 rfl rfl ?_
          refine x_getR (pc' := 30) (b := 90) hC kf_X7_34 dX7_isSeen_27 (hM 0 _ rfl) rfl rfl ?_
          refine x_iconst (pc' := 31) hC dX7_isSeen_30 rfl ?_
          refine x_iload_n (pc' := 32) hC dX7_isSeen_31 rfl rfl ?_
          refine x_imul (pc' := 33) hC dX7_isSeen_32 rfl ?_
          refine x_iald (pc' := 34) hC dX7_isSeen_33 (hM 9 _ rfl) (by omega) (by decide) rfl ?_
          rw [f1]
          refine x_iadd (pc' := 35) hC dX7_isSeen_34 rfl ?_
          refine x_iald (pc' := 36) hC dX7_isSeen_35 (hM 6 _ rfl) (by omega) (by decide) rfl ?_
          rw [h2 (18 + q.1) (by omega) (by omega)]
          refine x_aload_n (pc' := 37) hC dX7_isSeen_36 rfl rfl ?_
          refine x_getR (pc' := 40) (b := 90) hC kf_X7_34 dX7_isSeen_37 (hM 0 _ rfl) rfl rfl ?_
          refine x_iconst (pc' := 41) hC dX7_isSeen_40 rfl ?_
          refine x_iload_n (pc' := 42) hC dX7_isSeen_41 rfl rfl ?_
          refine x_imul (pc' := 43) hC dX7_isSeen_42 rfl ?_
          refine x_iconst (pc' := 44) hC dX7_isSeen_43 rfl ?_
          refine x_iadd (pc' := 45) hC dX7_isSeen_44 rfl ?_
          refine x_iald (pc' := 46) hC dX7_isSeen_45 (hM 9 _ rfl) (by omega) (by decide) rfl ?_
          rw [f2]
          refine x_icmp_ne (tgt := 53) (pc' := 49) hC dX7_isSeen_46 (by decide) rfl (by omega) (by omega) (fun c46 => ?_) (fun c46 => ?_)
          · refine x_iconst (pc' := 54) hC dX7_isSeen_53 rfl ?_
            refine x_istore_n (pc' := 55) hC dX7_isSeen_54 (by decide) rfl rfl ?_
            refine x_iinc (pc' := 58) hC dX7_isSeen_55 rfl (by decide) rfl rfl ?_
            refine x_goto (tgt := 8) hC dX7_isSeen_58 (by decide) ?_
            exact ih (k + 1) _ _ _ (by omega) (by omega) h1 h2 (by first | exact Or.inr ⟨rfl, by omega⟩ | exact Or.inr ⟨rfl, hf.elim (fun z => absurd z.1 (by omega)) (fun z => z.2)⟩ | exact Or.inr ⟨rfl, fun z => c46 (seenB_iff.mp z k q hq)⟩ | exact Or.inl ⟨rfl, fun j w hj hw => by rcases Nat.lt_or_ge j k with z | z; exact (hf.elim (fun y => y.2) (fun y => absurd y.1 (by omega))) j w z hw; have : j = k := (by omega); subst this; cases hq.symm.trans hw; exact c46⟩) (by omega)
          · refine x_iconst (pc' := 50) hC dX7_isSeen_49 rfl ?_
            refine x_goto (tgt := 54) hC dX7_isSeen_50 (by decide) ?_
            refine x_istore_n (pc' := 55) hC dX7_isSeen_54 (by decide) rfl rfl ?_
            refine x_iinc (pc' := 58) hC dX7_isSeen_55 rfl (by decide) rfl rfl ?_
            refine x_goto (tgt := 8) hC dX7_isSeen_58 (by decide) ?_
            exact ih (k + 1) _ _ _ (by omega) (by omega) h1 h2 (by first | exact Or.inr ⟨rfl, by omega⟩ | exact Or.inr ⟨rfl, hf.elim (fun z => absurd z.1 (by omega)) (fun z => z.2)⟩ | exact Or.inr ⟨rfl, fun z => c46 (seenB_iff.mp z k q hq)⟩ | exact Or.inl ⟨rfl, fun j w hj hw => by rcases Nat.lt_or_ge j k with z | z; exact (hf.elim (fun y => y.2) (fun y => absurd y.1 (by omega))) j w z hw; have : j = k := (by omega); subst this; cases hq.symm.trans hw; exact c46⟩) (by omega)
  refine x_aload_n (pc' := 1) hC dX7_isSeen_0 rfl rfl ?_
  refine x_callV (pc' := 4) (n := 0) hC (m_goYear hM hT hR hA) ky_X7_goYear kv_X7_goYear kl_X7_128 dX7_isSeen_1 (hM 0 _ rfl) rfl rfl rfl rfl ⟨Nat.le_of_ble_eq_true rfl, Nat.le_of_ble_eq_true rfl⟩ (Nat.le_of_ble_eq_true rfl) ⟨Nat.le_refl _, Nat.le_refl _⟩ (Or.inl rfl) rfl (x_kn (fun μ1 h1 => ?_))
  refine x_iconst (pc' := 5) hC dX7_isSeen_4 rfl ?_
  refine x_istore_n (pc' := 6) hC dX7_isSeen_5 (by decide) rfl rfl ?_
  refine x_iconst (pc' := 7) hC dX7_isSeen_6 rfl ?_
  refine x_istore_n (pc' := 8) hC dX7_isSeen_7 (by decide) rfl rfl ?_
  exact loop (sl.length + 1) 0 _ _ μ1 rfl (by omega) h1.1 h1.2 (Or.inl ⟨rfl, fun j q hj => absurd hj (Nat.not_lt_zero _)⟩) (by omega)
set_option maxRecDepth 100000 in
set_option maxHeartbeats 4000000 in
theorem m_holds {g : xG} {l : Launch} {S : List xS} {μ : xM} {T r : Int → Int} (hM : xPreM S) (hT : WT T) (hR : WR T r) (hQ : TT μ 83 T) (hN : Rw μ 85 r) {n x v : Int} (hn : 0 ≤ n ∧ n ≤ 9) (hx : 0 ≤ x ∧ x < T 0) (hv : 0 ≤ v ∧ v ≤ 9) : xCt g l yX7_holds cX7_holds 8 (some .boolean) 5 110 0 0 [vR g 81, vI n, vI x, vI v] S μ S (xI (fun a μ' => a = (if holdB T r n v x = true then 1 else 0) ∧ FrI 87 88 μ μ')) := by
  refine x_enter (by decide) (Nat.le_of_ble_eq_true rfl) ?_
  intro zp ze zs zm za zb zh zc hC hz0
  have t0 := hT.1
  have t1 := hT.2.1
  have t2 := hT.2.2.1
  have t3 := hT.2.2.2.1
  have w1 := hR.1 x (by omega) (by omega)
  have g1 := gov_in (T := T) (r := r) hT
  have loop : ∀ (zn : Nat) (k : Nat) (f i d : Int) (μ1 : xM) (r1 : Int → Int) (hi : i + k = n) (h0 : 0 ≤ i) (h1 : FrI 87 88 μ μ1) (h2 : Rw μ1 87 r1) (h3 : WR T r1) (hf : (f = 1 ∧ holdsF T (gov T r) k r1 = holdB T r n v x) ∨ (f = 0 ∧ holdB T r n v x = false)), k < zn → xX g 8 zp l ze { frames := 5, cells := 0, slots := 0, locals := 110 } zs zm za zb zh zc 0 0 (MQ zb (xQ g S (xI (fun a μ' => a = (if holdB T r n v x = true then 1 else 0) ∧ FrI 87 88 μ μ'))) za zs 0 0 (xA0 g)) S μ1 49 [some (vR g 81), some (vI n), some (vI x), some (vI v), some (vI (gov T r)), some (vI d), some (vI f), some (vI i)] [] := by
    intro zn
    induction zn with
    | zero => intros; rename_i hz; exact absurd hz (Nat.not_lt_zero _)
    | succ zn ih =>
      intro k f i d μ1 r1 hi h0 h1 h2 h3 hf hn
      have g2 := gov_in (T := T) (r := goYear T r1) hT
      refine x_iload (pc' := 51) hC dX7_holds_49 rfl rfl ?_
      refine x_iload_n (pc' := 52) hC dX7_holds_51 rfl rfl ?_
      refine x_icmp_ge (tgt := 86) (pc' := 55) hC dX7_holds_52 (by decide) rfl (by omega) (by omega) (fun c52 => ?_) (fun c52 => ?_)
      · have k0 : k = 0 := by omega
        subst k0
        refine x_iload (pc' := 88) hC dX7_holds_86 rfl rfl ?_
        exact x_zret hC dX7_holds_88 (by rcases hf with z | z; exact Or.inr z.1; exact Or.inl z.1) (xI.mk ⟨by
      rcases hf with z | z
      · rw [if_pos (by rw [← z.2]; rfl)]; exact z.1
      · rw [if_neg (by rw [z.2]; decide)]; exact z.1, h1⟩)
      · obtain ⟨k1, rfl⟩ : ∃ k1 : Nat, k = k1 + 1 := ⟨k - 1, by omega⟩
        refine x_aload_n (pc' := 56) hC dX7_holds_55 rfl rfl ?_
        refine x_callV (pc' := 59) (n := 0) hC (m_goYear hM hT h3 ⟨hQ.fr h1 (by omega), h2⟩) ky_X7_goYear kv_X7_goYear kl_X7_128 dX7_holds_56 (hM 0 _ rfl) rfl rfl rfl rfl ⟨Nat.le_of_ble_eq_true rfl, Nat.le_of_ble_eq_true rfl⟩ (Nat.le_of_ble_eq_true rfl) ⟨Nat.le_refl _, Nat.le_refl _⟩ (Or.inl rfl) rfl (x_kn (fun μ56 h56 => ?_))
        refine x_iload (pc' := 61) hC dX7_holds_59 rfl rfl ?_
        refine x_if_eq (tgt := 77) (pc' := 64) hC dX7_holds_61 (by decide) rfl (by omega) (fun c61 => ?_) (fun c61 => ?_)
        · refine x_iconst (pc' := 78) hC dX7_holds_77 rfl ?_
          refine x_istore (pc' := 80) hC dX7_holds_78 (by decide) rfl rfl ?_
          refine x_iinc (pc' := 83) hC dX7_holds_80 rfl (by decide) rfl rfl ?_
          refine x_goto (tgt := 49) hC dX7_holds_83 (by decide) ?_
          exact ih k1 _ _ _ _ _ (by omega) (by omega) (h1.tr h56.1) h56.2 (WR_goYear hT h3) (by rcases hf with z | z; (have y := z.2; rw [holdsF] at y; first | exact Or.inl ⟨rfl, by rw [← y, decide_eq_true c70]; rfl⟩ | exact Or.inr ⟨rfl, by rw [← y, decide_eq_false c70]; rfl⟩ | (exfalso; omega)); first | exact Or.inr ⟨rfl, z.2⟩ | (exfalso; omega)) (by omega)
        · refine x_aload_n (pc' := 65) hC dX7_holds_64 rfl rfl ?_
          refine x_callV (pc' := 68) (n := 0) hC (m_governor hM hT (WR_goYear hT h3) ⟨hQ.fr (h1.tr h56.1) (by omega), h56.2⟩) ky_X7_governor kv_X7_governor kl_X7_125 dX7_holds_65 (hM 0 _ rfl) rfl rfl rfl rfl ⟨Nat.le_of_ble_eq_true rfl, Nat.le_of_ble_eq_true rfl⟩ (Nat.le_of_ble_eq_true rfl) ⟨Nat.le_refl _, Nat.le_refl _⟩ (Or.inl rfl) rfl (x_kd ?_)
          refine x_iload (pc' := 70) hC dX7_holds_68 rfl rfl ?_
          refine x_icmp_ne (tgt := 77) (pc' := 73) hC dX7_holds_70 (by decide) rfl (by omega) (by omega) (fun c70 => ?_) (fun c70 => ?_)
          · refine x_iconst (pc' := 78) hC dX7_holds_77 rfl ?_
            refine x_istore (pc' := 80) hC dX7_holds_78 (by decide) rfl rfl ?_
            refine x_iinc (pc' := 83) hC dX7_holds_80 rfl (by decide) rfl rfl ?_
            refine x_goto (tgt := 49) hC dX7_holds_83 (by decide) ?_
            exact ih k1 _ _ _ _ _ (by omega) (by omega) (h1.tr h56.1) h56.2 (WR_goYear hT h3) (by rcases hf with z | z; (have y := z.2; rw [holdsF] at y; first | exact Or.inl ⟨rfl, by rw [← y, decide_eq_true c70]; rfl⟩ | exact Or.inr ⟨rfl, by rw [← y, decide_eq_false c70]; rfl⟩ | (exfalso; omega)); first | exact Or.inr ⟨rfl, z.2⟩ | (exfalso; omega)) (by omega)
          · refine x_iconst (pc' := 74) hC dX7_holds_73 rfl ?_
            refine x_goto (tgt := 78) hC dX7_holds_74 (by decide) ?_
            refine x_istore (pc' := 80) hC dX7_holds_78 (by decide) rfl rfl ?_
            refine x_iinc (pc' := 83) hC dX7_holds_80 rfl (by decide) rfl rfl ?_
            refine x_goto (tgt := 49) hC dX7_holds_83 (by decide) ?_
            exact ih k1 _ _ _ _ _ (by omega) (by omega) (h1.tr h56.1) h56.2 (WR_goYear hT h3) (by rcases hf with z | z; (have y := z.2; rw [holdsF] at y; first | exact Or.inl ⟨rfl, by rw [← y, decide_eq_true c70]; rfl⟩ | exact Or.inr ⟨rfl, by rw [← y, decide_eq_false c70]; rfl⟩ | (exfalso; omega)); first | exact Or.inr ⟨rfl, z.2⟩ | (exfalso; omega)) (by omega)
  refine x_aload_n (pc' := 1) hC dX7_holds_0 rfl rfl ?_
  refine x_callV (pc' := 4) (n := 0) hC (m_aside hM hN) ky_X7_aside kv_X7_aside kl_X7_136 dX7_holds_1 (hM 0 _ rfl) rfl rfl rfl rfl ⟨Nat.le_of_ble_eq_true rfl, Nat.le_of_ble_eq_true rfl⟩ (Nat.le_of_ble_eq_true rfl) ⟨Nat.le_refl _, Nat.le_refl _⟩ (Or.inl rfl) rfl (x_kn (fun μ1 h1 => ?_))
  refine x_aload_n (pc' := 5) hC dX7_holds_4 rfl rfl ?_
  refine x_callV (pc' := 8) (n := 0) hC (m_governor hM hT hR ⟨hQ.fr h1.1 (by omega), h1.2⟩) ky_X7_governor kv_X7_governor kl_X7_125 dX7_holds_5 (hM 0 _ rfl) rfl rfl rfl rfl ⟨Nat.le_of_ble_eq_true rfl, Nat.le_of_ble_eq_true rfl⟩ (Nat.le_of_ble_eq_true rfl) ⟨Nat.le_refl _, Nat.le_refl _⟩ (Or.inl rfl) rfl (x_kd ?_)
  refine x_istore (pc' := 10) hC dX7_holds_8 (by decide) rfl rfl ?_
  refine x_aload_n (pc' := 11) hC dX7_holds_10 rfl rfl ?_
  refine x_getR (pc' := 14) (b := 87) hC kf_X7_25 dX7_holds_11 (hM 0 _ rfl) rfl rfl ?_
  refine x_iconst (pc' := 15) hC dX7_holds_14 rfl ?_
  refine x_iload_n (pc' := 16) hC dX7_holds_15 rfl rfl ?_
  refine x_iadd (pc' := 17) hC dX7_holds_16 rfl ?_
  refine x_iald (pc' := 18) hC dX7_holds_17 (hM 6 _ rfl) (by omega) (by decide) rfl ?_
  rw [h1.2 (2 + x) (by omega) (by omega)]
  refine x_iconst (pc' := 19) hC dX7_holds_18 rfl ?_
  refine x_iload_n (pc' := 20) hC dX7_holds_19 rfl rfl ?_
  refine x_imul (pc' := 21) hC dX7_holds_20 rfl ?_
  refine x_isub (pc' := 22) hC dX7_holds_21 rfl ?_
  refine x_istore (pc' := 24) hC dX7_holds_22 (by decide) rfl rfl ?_
  refine x_aload_n (pc' := 25) hC dX7_holds_24 rfl rfl ?_
  refine x_getR (pc' := 28) (b := 87) hC kf_X7_25 dX7_holds_25 (hM 0 _ rfl) rfl rfl ?_
  refine x_iconst (pc' := 29) hC dX7_holds_28 rfl ?_
  refine x_iload_n (pc' := 30) hC dX7_holds_29 rfl rfl ?_
  refine x_iadd (pc' := 31) hC dX7_holds_30 rfl ?_
  refine x_iload (pc' := 33) hC dX7_holds_31 rfl rfl ?_
  refine x_if_le (tgt := 41) (pc' := 36) hC dX7_holds_33 (by decide) rfl (by omega) (fun c33 => ?_) (fun c33 => ?_)
  · refine x_iconst (pc' := 42) hC dX7_holds_41 rfl ?_
    refine x_iast (pc' := 43) hC dX7_holds_42 (hM 6 _ rfl) (by omega) (by omega) rfl ?_
    refine x_iconst (pc' := 44) hC dX7_holds_43 rfl ?_
    refine x_istore (pc' := 46) hC dX7_holds_44 (by decide) rfl rfl ?_
    refine x_iconst (pc' := 47) hC dX7_holds_46 rfl ?_
    refine x_istore (pc' := 49) hC dX7_holds_47 (by decide) rfl rfl ?_
    first | exact loop (n.toNat + 1) n.toNat _ _ _ _ (waxBy r x (-2 * v)) (by omega) (by omega) (h1.1.u (by omega)) (by unfold waxBy; rw [show max 0 (min 9 (r (2 + x) + -2 * v)) = r (2 + x) - 2 * v by omega]; exact h1.2.u) (WR_waxBy hR hx.1 (by omega)) (Or.inl ⟨rfl, rfl⟩) (by omega) | exact loop (n.toNat + 1) n.toNat _ _ _ _ (waxBy r x (-2 * v)) (by omega) (by omega) (h1.1.u (by omega)) (by unfold waxBy; rw [show max 0 (min 9 (r (2 + x) + -2 * v)) = 0 by omega]; exact h1.2.u) (WR_waxBy hR hx.1 (by omega)) (Or.inl ⟨rfl, rfl⟩) (by omega)
  · refine x_iload (pc' := 38) hC dX7_holds_36 rfl rfl ?_
    refine x_goto (tgt := 42) hC dX7_holds_38 (by decide) ?_
    refine x_iast (pc' := 43) hC dX7_holds_42 (hM 6 _ rfl) (by omega) (by omega) rfl ?_
    refine x_iconst (pc' := 44) hC dX7_holds_43 rfl ?_
    refine x_istore (pc' := 46) hC dX7_holds_44 (by decide) rfl rfl ?_
    refine x_iconst (pc' := 47) hC dX7_holds_46 rfl ?_
    refine x_istore (pc' := 49) hC dX7_holds_47 (by decide) rfl rfl ?_
    first | exact loop (n.toNat + 1) n.toNat _ _ _ _ (waxBy r x (-2 * v)) (by omega) (by omega) (h1.1.u (by omega)) (by unfold waxBy; rw [show max 0 (min 9 (r (2 + x) + -2 * v)) = r (2 + x) - 2 * v by omega]; exact h1.2.u) (WR_waxBy hR hx.1 (by omega)) (Or.inl ⟨rfl, rfl⟩) (by omega) | exact loop (n.toNat + 1) n.toNat _ _ _ _ (waxBy r x (-2 * v)) (by omega) (by omega) (h1.1.u (by omega)) (by unfold waxBy; rw [show max 0 (min 9 (r (2 + x) + -2 * v)) = 0 by omega]; exact h1.2.u) (WR_waxBy hR hx.1 (by omega)) (Or.inl ⟨rfl, rfl⟩) (by omega)
set_option maxRecDepth 100000 in
set_option maxHeartbeats 4000000 in
theorem m_note {g : xG} {l : Launch} {S : List xS} {μ : xM} {r : Int → Int} {un : List (Int → Int)} (hM : xPreM S) (hN : Rw μ 85 r) (hK : Sk μ 88 9 8 un) : xCt g l yX7_note cX7_note 2 none 0 0 0 0 [vR g 81] S μ S (xN (fun μ' => FrK 88 9 μ μ' ∧ Sk μ' 88 9 8 (push r un))) := by
  refine x_enter (by decide) (Nat.le_of_ble_eq_true rfl) ?_
  intro zp ze zs zm za zb zh zc hC hz0
  have hl8 := hK.2.1
  have h9 := hK.1
  have store : ∀ (zn : Nat) (k : Nat) (i : Int) (μ1 μ2 : xM) (un1 : List (Int → Int)) (hi : i = k) (hk : k ≤ 32) (h1 : FrK 88 9 μ μ1) (hl : un1.length < 8) (hS : Sk μ2 88 9 8 un1) (hp : (r :: un1) = push r un) (hx : ∀ j : Int, j < 32 * (un1.length : Int) → μ1 88 j = μ2 88 j) (hy : ∀ j : Int, 0 ≤ j → j < k → μ1 88 (32 * (un1.length : Int) + j) = r j) (h9 : μ1 81 9 = (un1.length : Int)), 32 - k < zn → xX g 2 zp l ze { frames := 0, cells := 0, slots := 0, locals := 0 } zs zm za zb zh zc 0 0 (MQ zb (xQ g S (xN (fun μ' => FrK 88 9 μ μ' ∧ Sk μ' 88 9 8 (push r un)))) za zs 0 0 (xA0 g)) S μ1 51 [some (vR g 81), some (vI i)] [] := by
    intro zn
    induction zn with
    | zero => intros; rename_i hz; exact absurd hz (Nat.not_lt_zero _)
    | succ zn ih =>
      intro k i μ1 μ2 un1 hi hk h1 hl hS hp hx hy h9 hn
      subst hi
      refine x_iload_n (pc' := 52) hC dX7_note_51 rfl rfl ?_
      refine x_bipush (pc' := 54) hC dX7_note_52 (by decide) rfl ?_
      refine x_icmp_ge (tgt := 83) (pc' := 57) hC dX7_note_54 (by decide) rfl (by omega) (by omega) (fun c54 => ?_) (fun c54 => ?_)
      · refine x_aload_n (pc' := 84) hC dX7_note_83 rfl rfl ?_
        refine x_dup (pc' := 85) hC dX7_note_84 rfl rfl ?_
        refine x_getI (j' := 9) (pc' := 88) hC kf_X7_101 dX7_note_85 (hM 0 _ rfl) rfl rfl rfl ?_
        refine x_iconst (pc' := 89) hC dX7_note_88 rfl ?_
        rw [h9]
        refine x_iadd (pc' := 90) hC dX7_note_89 rfl ?_
        refine x_putI (j' := 9) (pc' := 93) hC kf_X7_101 dX7_note_90 (hM 0 _ rfl) rfl rfl rfl rfl rfl ?_
        exact x_vret hC dX7_note_93 (xN.mk ⟨h1.us, hp ▸ Sk.cons hS hl (fun j a b => by rw [xU_nk (by omega)]; exact hy j a (by omega)) (fun j a => by rw [xU_nk (by omega)]; exact hx j a) (by rw [xU_at2])⟩)
      · refine x_aload_n (pc' := 58) hC dX7_note_57 rfl rfl ?_
        refine x_getR (pc' := 61) (b := 88) hC kf_X7_28 dX7_note_58 (hM 0 _ rfl) rfl rfl ?_
        refine x_bipush (pc' := 63) hC dX7_note_61 (by decide) rfl ?_
        refine x_aload_n (pc' := 64) hC dX7_note_63 rfl rfl ?_
        refine x_getI (j' := 9) (pc' := 67) hC kf_X7_101 dX7_note_64 (hM 0 _ rfl) rfl rfl rfl ?_
        rw [h9]
        refine x_imul (pc' := 68) hC dX7_note_67 rfl ?_
        refine x_iload_n (pc' := 69) hC dX7_note_68 rfl rfl ?_
        refine x_iadd (pc' := 70) hC dX7_note_69 rfl ?_
        refine x_aload_n (pc' := 71) hC dX7_note_70 rfl rfl ?_
        refine x_getR (pc' := 74) (b := 85) hC kf_X7_19 dX7_note_71 (hM 0 _ rfl) rfl rfl ?_
        refine x_iload_n (pc' := 75) hC dX7_note_74 rfl rfl ?_
        refine x_iald (pc' := 76) hC dX7_note_75 (hM 4 _ rfl) (by omega) (by decide) rfl ?_
        rw [h1 _ _ (by omega) (by omega), hN k (by omega) (by omega)]
        refine x_iast (pc' := 77) hC dX7_note_76 (hM 7 _ rfl) (by omega) (by omega) rfl ?_
        refine x_iinc (pc' := 80) hC dX7_note_77 rfl (by decide) rfl rfl ?_
        refine x_goto (tgt := 51) hC dX7_note_80 (by decide) ?_
        exact ih (k + 1) _ _ μ2 un1 (by omega) (by omega) h1.uc hl hS hp (fun j a => by rw [xU_nj (by omega)]; exact hx j a) (fun j a b => by by_cases hj : j = k; (rw [hj, xU_at2]); (rw [xU_nj (by omega)]; exact hy j a (by omega))) (by rw [xU_nk (by omega)]; exact h9) (by omega)
  have shift : ∀ (zn : Nat) (k : Nat) (i : Int) (μ1 : xM) (hi : i = k) (hk : k ≤ 224) (h8 : un.length = 8) (h1 : FrK 88 9 μ μ1) (hx : ∀ j : Int, 0 ≤ j → j < k → μ1 88 j = μ 88 (32 + j)) (hy : ∀ j : Int, k ≤ j → μ1 88 j = μ 88 j) (h9 : μ1 81 9 = (un.length : Int)), 224 - k < zn → xX g 2 zp l ze { frames := 0, cells := 0, slots := 0, locals := 0 } zs zm za zb zh zc 0 0 (MQ zb (xQ g S (xN (fun μ' => FrK 88 9 μ μ' ∧ Sk μ' 88 9 8 (push r un)))) za zs 0 0 (xA0 g)) S μ1 11 [some (vR g 81), some (vI i)] [] := by
    intro zn
    induction zn with
    | zero => intros; rename_i hz; exact absurd hz (Nat.not_lt_zero _)
    | succ zn ih =>
      intro k i μ1 hi hk h8 h1 hx hy h9 hn
      subst hi
      refine x_iload_n (pc' := 12) hC dX7_note_11 rfl rfl ?_
      refine x_sipush (pc' := 15) hC dX7_note_12 (by decide) rfl ?_
      refine x_icmp_ge (tgt := 39) (pc' := 18) hC dX7_note_15 (by decide) rfl (by omega) (by omega) (fun c15 => ?_) (fun c15 => ?_)
      · refine x_aload_n (pc' := 40) hC dX7_note_39 rfl rfl ?_
        refine x_dup (pc' := 41) hC dX7_note_40 rfl rfl ?_
        refine x_getI (j' := 9) (pc' := 44) hC kf_X7_101 dX7_note_41 (hM 0 _ rfl) rfl rfl rfl ?_
        refine x_iconst (pc' := 45) hC dX7_note_44 rfl ?_
        rw [h9, h8]
        refine x_isub (pc' := 46) hC dX7_note_45 rfl ?_
        refine x_putI (j' := 9) (pc' := 49) hC kf_X7_101 dX7_note_46 (hM 0 _ rfl) rfl rfl rfl rfl rfl ?_
        refine x_iconst (pc' := 50) hC dX7_note_49 rfl ?_
        refine x_istore_n (pc' := 51) hC dX7_note_50 (by decide) rfl rfl ?_
        first | exact store 33 0 _ μ μ un rfl (by omega) FrK_rf (by omega) hK (List.take_of_length_le (by simp; omega)).symm (fun _ _ => rfl) (fun j a b => absurd b (by omega)) hK.1 (by omega) | exact store 33 0 _ _ _ (un.take 7) rfl (by omega) h1.us (by simp; omega) (Sk.drop hK h8 (fun j a b => by rw [xU_nk (by omega)]; exact hx j a (by omega)) (by rw [xU_at2]; rfl)) (by unfold push; rw [List.take_succ_cons]) (fun _ _ => rfl) (fun j a b => absurd b (by omega)) (by rw [xU_at2]; simp [h8]) (by omega)
      · refine x_aload_n (pc' := 19) hC dX7_note_18 rfl rfl ?_
        refine x_getR (pc' := 22) (b := 88) hC kf_X7_28 dX7_note_19 (hM 0 _ rfl) rfl rfl ?_
        refine x_iload_n (pc' := 23) hC dX7_note_22 rfl rfl ?_
        refine x_aload_n (pc' := 24) hC dX7_note_23 rfl rfl ?_
        refine x_getR (pc' := 27) (b := 88) hC kf_X7_28 dX7_note_24 (hM 0 _ rfl) rfl rfl ?_
        refine x_bipush (pc' := 29) hC dX7_note_27 (by decide) rfl ?_
        refine x_iload_n (pc' := 30) hC dX7_note_29 rfl rfl ?_
        refine x_iadd (pc' := 31) hC dX7_note_30 rfl ?_
        refine x_iald (pc' := 32) hC dX7_note_31 (hM 7 _ rfl) (by omega) (by decide) rfl ?_
        refine x_iast (pc' := 33) hC dX7_note_32 (hM 7 _ rfl) (by omega) (by omega) rfl ?_
        refine x_iinc (pc' := 36) hC dX7_note_33 rfl (by decide) rfl rfl ?_
        refine x_goto (tgt := 11) hC dX7_note_36 (by decide) ?_
        exact ih (k + 1) _ _ (by omega) (by omega) h8 h1.uc (fun j a b => by by_cases hj : j = k; (rw [hj, xU_at2, hy _ (by omega)]); (rw [xU_nj (by omega)]; exact hx j a (by omega))) (fun j a => by rw [xU_nj (by omega)]; exact hy j (by omega)) (by rw [xU_nk (by omega)]; exact h9) (by omega)
  refine x_aload_n (pc' := 1) hC dX7_note_0 rfl rfl ?_
  refine x_getI (j' := 9) (pc' := 4) hC kf_X7_101 dX7_note_1 (hM 0 _ rfl) rfl rfl rfl ?_
  rw [h9]
  refine x_bipush (pc' := 6) hC dX7_note_4 (by decide) rfl ?_
  refine x_icmp_ne (tgt := 49) (pc' := 9) hC dX7_note_6 (by decide) rfl (by omega) (by omega) (fun c6 => ?_) (fun c6 => ?_)
  · refine x_iconst (pc' := 50) hC dX7_note_49 rfl ?_
    refine x_istore_n (pc' := 51) hC dX7_note_50 (by decide) rfl rfl ?_
    first | exact store 33 0 _ μ μ un rfl (by omega) FrK_rf (by omega) hK (List.take_of_length_le (by simp; omega)).symm (fun _ _ => rfl) (fun j a b => absurd b (by omega)) hK.1 (by omega) | exact store 33 0 _ _ _ (un.take 7) rfl (by omega) h1.us (by simp; omega) (Sk.drop hK h8 (fun j a b => by rw [xU_nk (by omega)]; exact hx j a (by omega)) (by rw [xU_at2]; rfl)) (by unfold push; rw [List.take_succ_cons]) (fun _ _ => rfl) (fun j a b => absurd b (by omega)) (by rw [xU_at2]; simp [h8]) (by omega)
  · refine x_iconst (pc' := 10) hC dX7_note_9 rfl ?_
    refine x_istore_n (pc' := 11) hC dX7_note_10 (by decide) rfl rfl ?_
    exact shift 225 0 _ μ rfl (by omega) (by omega) FrK_rf (fun j a b => absurd b (by omega)) (fun _ _ => rfl) hK.1 (by omega)
