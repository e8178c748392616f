/-! the String constant: length and charAt, over the JDK's own code -/
theorem xTxt_all : ∀ i : Nat, i < 69 → iAnd (xTxt (i : Int)) 255 = xTxt (i : Int) ∧ 32 ≤ xTxt (i : Int) ∧ xTxt (i : Int) ≤ 126 := by decide +kernel
theorem xTxt_rg {i : Int} (h : 0 ≤ i ∧ i < 69) : iAnd (xTxt i) 255 = xTxt i ∧ 32 ≤ xTxt i ∧ xTxt i ≤ 126 := by
  have := xTxt_all i.toNat (by omega)
  rw [show ((i.toNat : Nat) : Int) = i by omega] at this
  exact this
set_option maxRecDepth 100000 in
set_option maxHeartbeats 4000000 in
theorem j_chk3 {g : xG} {l : Launch} {S : List xS} {μ : xM} {i n : Int} {o : Option Nat} (hi : 0 ≤ i ∧ i < n) (hn : n < 1000) : xCt g l yJ3_checkIndex_8e157 cJ3_checkIndex_8e157 3 (some .int) 0 0 0 0 [vI i, vI n, va_rf o] S μ S (xI (fun a μ' => a = i ∧ μ' = μ)) := by
  cases o with
  | none =>
    refine x_enter (by decide) (Nat.le_of_ble_eq_true rfl) ?_
    intro zp ze zs zm za zb zh zc hC hz0
    refine x_iload_n (pc' := 1) hC dJ3_checkIndex_8e157_0 rfl rfl ?_
    refine x_if_lt (tgt := 9) (pc' := 4) hC dJ3_checkIndex_8e157_1 (by decide) rfl (by omega) (fun c1 => absurd c1 (by omega)) (fun c1 => ?_)
    refine x_iload_n (pc' := 5) hC dJ3_checkIndex_8e157_4 rfl rfl ?_
    refine x_iload_n (pc' := 6) hC dJ3_checkIndex_8e157_5 rfl rfl ?_
    refine x_icmp_lt (tgt := 16) (pc' := 9) hC dJ3_checkIndex_8e157_6 (by decide) rfl (by omega) (by omega) (fun c6 => ?_) (fun c6 => absurd hi.2 c6)
    refine x_iload_n (pc' := 17) hC dJ3_checkIndex_8e157_16 rfl rfl ?_
    exact x_iret hC dJ3_checkIndex_8e157_17 (xI.mk ⟨rfl, rfl⟩)
  | some t =>
    refine x_enter (by decide) (Nat.le_of_ble_eq_true rfl) ?_
    intro zp ze zs zm za zb zh zc hC hz0
    refine x_iload_n (pc' := 1) hC dJ3_checkIndex_8e157_0 rfl rfl ?_
    refine x_if_lt (tgt := 9) (pc' := 4) hC dJ3_checkIndex_8e157_1 (by decide) rfl (by omega) (fun c1 => absurd c1 (by omega)) (fun c1 => ?_)
    refine x_iload_n (pc' := 5) hC dJ3_checkIndex_8e157_4 rfl rfl ?_
    refine x_iload_n (pc' := 6) hC dJ3_checkIndex_8e157_5 rfl rfl ?_
    refine x_icmp_lt (tgt := 16) (pc' := 9) hC dJ3_checkIndex_8e157_6 (by decide) rfl (by omega) (by omega) (fun c6 => ?_) (fun c6 => absurd hi.2 c6)
    refine x_iload_n (pc' := 17) hC dJ3_checkIndex_8e157_16 rfl rfl ?_
    exact x_iret hC dJ3_checkIndex_8e157_17 (xI.mk ⟨rfl, rfl⟩)
set_option maxRecDepth 100000 in
set_option maxHeartbeats 4000000 in
theorem j_chk0 {g : xG} {l : Launch} {S : List xS} {μ : xM} {i n : Int} (hi : 0 ≤ i ∧ i < n) (hn : n < 1000) : xCt g l yJ0_checkIndex_df160 cJ0_checkIndex_df160 2 none 1 22 0 0 [vI i, vI n] S μ S (xN (fun μ' => μ' = μ)) := by
  refine x_enter (by decide) (Nat.le_of_ble_eq_true rfl) ?_
  intro zp ze zs zm za zb zh zc hC hz0
  refine x_iload_n (pc' := 1) hC dJ0_checkIndex_df160_0 rfl rfl ?_
  refine x_iload_n (pc' := 2) hC dJ0_checkIndex_df160_1 rfl rfl ?_
  refine x_ksi (pc' := 5) hC rfl dJ0_checkIndex_df160_2 rfl (fun o => ?_)
  refine x_callS (pc' := 8) (n := 3) (As := [vI i, vI n, va_rf o]) (rest := []) hC (j_chk3 hi hn) ky_J3_checkIndex_8e157 ks_J3_checkIndex_8e157 kl_J0_1059 dJ0_checkIndex_df160_5 rfl rfl ⟨Nat.le_of_ble_eq_true rfl, Nat.le_of_ble_eq_true rfl⟩ (Nat.le_of_ble_eq_true rfl) ⟨Nat.le_refl _, Nat.le_refl _⟩ (Or.inl rfl) rfl (x_kd ?_)
  refine x_pop (pc' := 9) hC dJ0_checkIndex_df160_8 rfl rfl ?_
  exact x_vret hC dJ0_checkIndex_df160_9 (xN.mk rfl)
set_option maxRecDepth 100000 in
set_option maxHeartbeats 4000000 in
theorem j_lch {g : xG} {l : Launch} {S : List xS} {μ : xM} {i : Int} (hi : 0 ≤ i ∧ i < 69) : xCt g l yJ1_charAt_3b067 cJ1_charAt_3b067 2 (some .char) 2 43 0 0 [.ref (g.2.2.2.2 0), vI i] S μ S (xI (fun a μ' => a = xTxt i ∧ μ' = μ)) := by
  refine x_enter (by decide) (Nat.le_of_ble_eq_true rfl) ?_
  intro zp ze zs zm za zb zh zc hC hz0
  have hx := xTxt_rg hi
  refine x_iload_n (pc' := 1) hC dJ1_charAt_3b067_0 rfl rfl ?_
  refine x_aloadQ (pc' := 2) hC dJ1_charAt_3b067_1 rfl rfl ?_
  refine x_klen (pc' := 3) hC dJ1_charAt_3b067_2 rfl ?_
  refine x_callS (pc' := 6) (n := 2) (As := [vI i, vI 69]) (rest := []) hC (j_chk0 hi (by decide)) ky_J0_checkIndex_df160 ks_J0_checkIndex_df160 kl_J1_9 dJ1_charAt_3b067_3 rfl rfl ⟨Nat.le_of_ble_eq_true rfl, Nat.le_of_ble_eq_true rfl⟩ (Nat.le_of_ble_eq_true rfl) ⟨Nat.le_refl _, Nat.le_refl _⟩ (Or.inl rfl) rfl (x_kdn ?_)
  refine x_aloadQ (pc' := 7) hC dJ1_charAt_3b067_6 rfl rfl ?_
  refine x_iload_n (pc' := 8) hC dJ1_charAt_3b067_7 rfl rfl ?_
  refine x_kbald (pc' := 9) hC hi dJ1_charAt_3b067_8 rfl ?_
  refine x_sipush (pc' := 12) hC dJ1_charAt_3b067_9 (by decide) rfl ?_
  refine x_iand (pc' := 13) hC dJ1_charAt_3b067_12 rfl ?_
  rw [hx.1]
  refine x_i2c (pc' := 14) hC dJ1_charAt_3b067_13 (by omega) rfl ?_
  exact x_nret hC dJ1_charAt_3b067_14 (by show Value.int (vp_nar .char (Int32.ofInt (xTxt i))) = _; rw [i_nar (by omega)]) (xI.mk ⟨rfl, rfl⟩)
set_option maxRecDepth 100000 in
set_option maxHeartbeats 4000000 in
theorem j_lat {g : xG} {l : Launch} {S : List xS} {μ : xM} : xCt g l yJ0_isLatin1_aae02 cJ0_isLatin1_aae02 1 (some .boolean) 0 0 0 0 [.ref (g.2.2.2.1 0)] S μ S (xI (fun a μ' => a = 1 ∧ μ' = μ)) := by
  refine x_enter (by decide) (Nat.le_of_ble_eq_true rfl) ?_
  intro zp ze zs zm za zb zh zc hC hz0
  refine x_kcs (pc' := 3) hC rfl dJ0_isLatin1_aae02_0 rfl ?_
  refine x_if_eq (tgt := 17) (pc' := 6) hC dJ0_isLatin1_aae02_3 (by decide) rfl (by omega) (fun c => absurd c (by decide)) (fun c => ?_)
  refine x_aloadQ (pc' := 7) hC dJ0_isLatin1_aae02_6 rfl rfl ?_
  refine x_kcod (pc' := 10) hC rfl dJ0_isLatin1_aae02_7 rfl ?_
  refine x_if_ne (tgt := 17) (pc' := 13) hC dJ0_isLatin1_aae02_10 (by decide) rfl (by omega) (fun c => absurd rfl c) (fun c => ?_)
  refine x_iconst (pc' := 14) hC dJ0_isLatin1_aae02_13 rfl ?_
  refine x_goto (tgt := 18) hC dJ0_isLatin1_aae02_14 (by decide) ?_
  exact x_zret hC dJ0_isLatin1_aae02_18 (Or.inr rfl) (xI.mk ⟨rfl, rfl⟩)
set_option maxRecDepth 100000 in
set_option maxHeartbeats 4000000 in
theorem j_cod {g : xG} {l : Launch} {S : List xS} {μ : xM} : xCt g l yJ0_coder_7d493 cJ0_coder_7d493 1 (some .byte) 0 0 0 0 [.ref (g.2.2.2.1 0)] S μ S (xI (fun a μ' => a = 0 ∧ μ' = μ)) := by
  refine x_enter (by decide) (Nat.le_of_ble_eq_true rfl) ?_
  intro zp ze zs zm za zb zh zc hC hz0
  refine x_kcs (pc' := 3) hC rfl dJ0_coder_7d493_0 rfl ?_
  refine x_if_eq (tgt := 13) (pc' := 6) hC dJ0_coder_7d493_3 (by decide) rfl (by omega) (fun c => absurd c (by decide)) (fun c => ?_)
  refine x_aloadQ (pc' := 7) hC dJ0_coder_7d493_6 rfl rfl ?_
  refine x_kcod (pc' := 10) hC rfl dJ0_coder_7d493_7 rfl ?_
  refine x_goto (tgt := 14) hC dJ0_coder_7d493_10 (by decide) ?_
  exact x_nret hC dJ0_coder_7d493_14 rfl (xI.mk ⟨rfl, rfl⟩)
set_option maxRecDepth 100000 in
set_option maxHeartbeats 4000000 in
theorem j_len {g : xG} {l : Launch} {S : List xS} {μ : xM} : xCt g l yJ0_length_8abf5 cJ0_length_8abf5 1 (some .int) 1 20 0 0 [.ref (g.2.2.2.1 0)] S μ S (xI (fun a μ' => a = 69 ∧ μ' = μ)) := by
  refine x_enter (by decide) (Nat.le_of_ble_eq_true rfl) ?_
  intro zp ze zs zm za zb zh zc hC hz0
  refine x_aloadQ (pc' := 1) hC dJ0_length_8abf5_0 rfl rfl ?_
  refine x_kval (pc' := 4) hC rfl dJ0_length_8abf5_1 rfl ?_
  refine x_klen (pc' := 5) hC dJ0_length_8abf5_4 rfl ?_
  refine x_aloadQ (pc' := 6) hC dJ0_length_8abf5_5 rfl rfl ?_
  refine x_callK (pc' := 9) (n := 0) (As := []) (rest := [vI 69]) hC j_cod ky_J0_coder_7d493 kv_J0_coder_7d493 rfl kl_J0_335 dJ0_length_8abf5_6 rfl rfl ⟨Nat.le_of_ble_eq_true rfl, Nat.le_of_ble_eq_true rfl⟩ (Nat.le_of_ble_eq_true rfl) ⟨Nat.le_refl _, Nat.le_refl _⟩ (Or.inl rfl) rfl (x_kd ?_)
  refine x_ishr (pc' := 10) hC dJ0_length_8abf5_9 rfl ?_
  exact x_iret hC dJ0_length_8abf5_10 (xI.mk ⟨by decide, rfl⟩)
set_option maxRecDepth 100000 in
set_option maxHeartbeats 4000000 in
theorem j_cha {g : xG} {l : Launch} {S : List xS} {μ : xM} {i : Int} (hi : 0 ≤ i ∧ i < 69) : xCt g l yJ0_charAt_5068e cJ0_charAt_5068e 2 (some .char) 3 64 0 0 [.ref (g.2.2.2.1 0), vI i] S μ S (xI (fun a μ' => a = xTxt i ∧ μ' = μ)) := by
  refine x_enter (by decide) (Nat.le_of_ble_eq_true rfl) ?_
  intro zp ze zs zm za zb zh zc hC hz0
  have hx := xTxt_rg hi
  refine x_aloadQ (pc' := 1) hC dJ0_charAt_5068e_0 rfl rfl ?_
  refine x_callK (pc' := 4) (n := 0) (As := []) (rest := []) hC j_lat ky_J0_isLatin1_aae02 kv_J0_isLatin1_aae02 rfl kl_J0_492 dJ0_charAt_5068e_1 rfl rfl ⟨Nat.le_of_ble_eq_true rfl, Nat.le_of_ble_eq_true rfl⟩ (Nat.le_of_ble_eq_true rfl) ⟨Nat.le_refl _, Nat.le_refl _⟩ (Or.inl rfl) rfl (x_kd ?_)
  refine x_if_eq (tgt := 16) (pc' := 7) hC dJ0_charAt_5068e_4 (by decide) rfl (by omega) (fun c => absurd c (by decide)) (fun c => ?_)
  refine x_aloadQ (pc' := 8) hC dJ0_charAt_5068e_7 rfl rfl ?_
  refine x_kval (pc' := 11) hC rfl dJ0_charAt_5068e_8 rfl ?_
  refine x_iload_n (pc' := 12) hC dJ0_charAt_5068e_11 rfl rfl ?_
  refine x_callS (pc' := 15) (n := 2) (As := [.ref (g.2.2.2.2 0), vI i]) (rest := []) hC (j_lch hi) ky_J1_charAt_3b067 ks_J1_charAt_3b067 kl_J0_495 dJ0_charAt_5068e_12 rfl rfl ⟨Nat.le_of_ble_eq_true rfl, Nat.le_of_ble_eq_true rfl⟩ (Nat.le_of_ble_eq_true rfl) ⟨Nat.le_refl _, Nat.le_refl _⟩ (Or.inl rfl) rfl (x_kd ?_)
  exact x_nret hC dJ0_charAt_5068e_15 (by show Value.int (vp_nar .char (Int32.ofInt (xTxt i))) = _; rw [i_nar (by omega)]) (xI.mk ⟨rfl, rfl⟩)
