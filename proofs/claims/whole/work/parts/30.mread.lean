theorem iAnd1 (a : Int) : iAnd a 1 = 0 ∨ iAnd a 1 = 1 := by
  have h : ∀ x : Int32, (x &&& 1).toInt = 0 ∨ (x &&& 1).toInt = 1 := by
    intro x
    have e : (x &&& 1).toBitVec = BitVec.setWidth 32 (BitVec.ofBool (x.toBitVec.getLsbD 0)) := by
      rw [Int32.toBitVec_and]; exact BitVec.and_one_eq_setWidth_ofBool_getLsbD
    rw [← Int32.toInt_toBitVec, e]
    cases x.toBitVec.getLsbD 0 <;> decide
  exact h _
theorem hsb_bit (t x : Int) : iAnd (iShr t x) 1 = if hsb t x = true then 1 else 0 := by
  unfold hsb
  rcases iAnd1 (iShr t x) with h | h <;> rw [h] <;> simp
theorem hsb_0 : ∀ j : Nat, j < 8 → hsb 0 (j : Int) = false := by decide +kernel
theorem wgt_0 {r : Int → Int} : ∀ N : Nat, N ≤ 8 → wgt r 0 N = 0
  | 0, _ => rfl
  | k + 1, h => by rw [wgt, wgt_0 k (by omega), if_neg (by rw [hsb_0 k (by omega)]; decide)]; rfl
theorem Sm.add {μ : xM} {T : Int → Int} {sl : List (Int × Int)} {a b : Int} (h : Sm μ T sl) (hl : sl.length < 6) (ha : 0 ≤ a ∧ a < T 3) (hb : 0 ≤ b ∧ b < T 0) : Sm (xU (xU (xU μ 90 (2 * (sl.length : Int)) a) 90 (2 * (sl.length : Int) + 1) b) 81 13 ((sl.length : Int) + 1)) T (sl ++ [(a, b)]) := by
  refine ⟨by rw [xU_at2]; simp, by simp; omega, fun i q hq => ?_⟩
  by_cases hi : i < sl.length
  · rw [List.getElem?_append_left hi] at hq
    have := h.2.2 i q hq
    exact ⟨by rw [xU_nk (by omega), xU_nj (by omega), xU_nj (by omega)]; exact this.1, by rw [xU_nk (by omega), xU_nj (by omega), xU_nj (by omega)]; exact this.2.1, this.2.2⟩
  · rw [List.getElem?_append_right (by omega)] at hq
    have hz : i - sl.length < 1 := by
      have := (List.getElem?_eq_some_iff.mp hq).1
      simpa using this
    have e : i = sl.length := by omega
    subst e
    rw [Nat.sub_self] at hq
    cases hq
    exact ⟨by rw [xU_nk (by omega), xU_nj (by omega), xU_at2], by rw [xU_nk (by omega), xU_at2], ha.1, ha.2, hb.1, hb.2⟩
theorem goNmu {μ μ' : xM} {T : Int → Int} (h : TT μ 83 T) (hf : FrI 87 88 μ μ') : TT μ' 83 T := h.fr hf (by omega)
set_option maxRecDepth 100000 in
set_option maxHeartbeats 4000000 in
theorem q_step {g : xG} {l : Launch} {S : List xS} {μ : xM} {T r : Int → Int} {nt : Int} {tx : Int → Int} {un kp : List (Int → Int)} {sl : List (Int × Int)} {x w : Int} (hM : xPreM S) (hA : RM μ T r nt tx un kp sl) (hF : WF T r un kp) (hx : -2147483648 ≤ x ∧ x < 2147483648) (hw : -2147483648 ≤ w ∧ w < 2147483648) : xCt g l yX7_step cX7_step 5 (some .int) 2 46 0 0 [vR g 81, vI x, vI w] S μ S (xI (fun a μ' => a = aStep T r x w ∧ RM μ' T r nt tx un kp sl ∧ FrI 81 92 μ μ')) := by
  refine x_enter (by decide) (Nat.le_of_ble_eq_true rfl) ?_
  intro zp ze zs zm za zb zh zc hC hz0
  have hT := hF.1
  have hR := hF.2.1.1
  have hy := hF.2.1.2
  have t0 := hT.1
  have t1 := hT.2.1
  have t2 := hT.2.2.1
  have t3 := hT.2.2.2.1
  have hQ := hA.2.1
  have hN := hA.2.2.1
  obtain ⟨⟨m0, m1, m2, m3⟩, m4⟩ := hA.2.1
  have loop : ∀ (zn : Nat) (k : Nat) (n9 i : Int) (c5 : 0 ≤ x ∧ x < T 0) (c17 : 0 ≤ w ∧ w ≤ 3) (hn9 : n9 = cnt r x k) (hi : i = k) (hk : (k : Int) ≤ T 3), (T 3).toNat - k < zn → xX g 5 zp l ze { frames := 2, cells := 0, slots := 0, locals := 46 } zs zm za zb zh zc 0 0 (MQ zb (xQ g S (xI (fun a μ' => a = aStep T r x w ∧ RM μ' T r nt tx un kp sl ∧ FrI 81 92 μ μ'))) za zs 0 0 (xA0 g)) S μ 27 [some (vR g 81), some (vI x), some (vI w), some (vI n9), some (vI i)] [] := by
    intro zn
    induction zn with
    | zero => intros; rename_i hz; exact absurd hz (Nat.not_lt_zero _)
    | succ zn ih =>
      intro k n9 i c5 c17 hn9 hi hk hn
      subst hi
      refine x_iload (pc' := 29) hC dX7_step_27 rfl rfl ?_
      refine x_aload_n (pc' := 30) hC dX7_step_29 rfl rfl ?_
      refine x_getR (pc' := 33) (b := 83) hC kf_X7_13 dX7_step_30 (hM 0 _ rfl) rfl rfl ?_
      refine x_iconst (pc' := 34) hC dX7_step_33 rfl ?_
      refine x_iald (pc' := 35) hC dX7_step_34 (hM 2 _ rfl) (by omega) (by decide) rfl ?_
      rw [m3]
      refine x_icmp_ge (tgt := 66) (pc' := 38) hC dX7_step_35 (by decide) rfl (by omega) (by omega) (fun c35 => ?_) (fun c35 => ?_)
      · refine x_iload_n (pc' := 67) hC dX7_step_66 rfl rfl ?_
        refine x_if_ne (tgt := 81) (pc' := 70) hC dX7_step_67 (by decide) rfl (by omega) (fun c67 => ?_) (fun c67 => ?_)
        · refine x_iload_n (pc' := 82) hC dX7_step_81 rfl rfl ?_
          refine x_iconst (pc' := 83) hC dX7_step_82 rfl ?_
          refine x_icmp_ne (tgt := 90) (pc' := 86) hC dX7_step_83 (by decide) rfl (by omega) (by omega) (fun c83 => ?_) (fun c83 => ?_)
          · refine x_aload_n (pc' := 91) hC dX7_step_90 rfl rfl ?_
            refine x_getR (pc' := 94) (b := 83) hC kf_X7_13 dX7_step_91 (hM 0 _ rfl) rfl rfl ?_
            refine x_iload_n (pc' := 95) hC dX7_step_94 rfl rfl ?_
            refine x_iald (pc' := 96) hC dX7_step_95 (hM 2 _ rfl) (by omega) (by decide) rfl ?_
            have w12 : w = 1 ∨ w = 2 := by omega
            have ew : μ 83 w = T w := by rcases w12 with rfl | rfl; exact m1; exact m2
            rw [ew]
            refine x_iload_n (pc' := 97) hC dX7_step_96 rfl rfl ?_
            refine x_ishr (pc' := 98) hC dX7_step_97 rfl ?_
            refine x_iconst (pc' := 99) hC dX7_step_98 rfl ?_
            refine x_iand (pc' := 100) hC dX7_step_99 rfl ?_
            exact x_iret hC dX7_step_100 (xI.mk ⟨by
      have ek : (T 3).toNat = k := by omega
      unfold aStep
      rw [if_pos c5]
      first
      | rw [if_pos c67]
      | (rw [if_neg (by omega), if_neg (by omega), if_neg (by omega), if_pos (by omega), hn9, ek])
      | (rw [hsb_bit]; rcases w12 with rfl | rfl; rw [if_neg (show ¬ (1 : Int) = 0 by decide), if_pos (show (1 : Int) = 1 by rfl)]; rw [if_neg (show ¬ (2 : Int) = 0 by decide), if_neg (show ¬ (2 : Int) = 1 by decide), if_pos (show (2 : Int) = 2 by rfl)]), hA, FrI.rf⟩)
          · refine x_iload_n (pc' := 87) hC dX7_step_86 rfl rfl ?_
            refine x_goto (tgt := 100) hC dX7_step_87 (by decide) ?_
            exact x_iret hC dX7_step_100 (xI.mk ⟨by
      have ek : (T 3).toNat = k := by omega
      unfold aStep
      rw [if_pos c5]
      first
      | rw [if_pos c67]
      | (rw [if_neg (by omega), if_neg (by omega), if_neg (by omega), if_pos (by omega), hn9, ek])
      | (rw [hsb_bit]; rcases w12 with rfl | rfl; rw [if_neg (show ¬ (1 : Int) = 0 by decide), if_pos (show (1 : Int) = 1 by rfl)]; rw [if_neg (show ¬ (2 : Int) = 0 by decide), if_neg (show ¬ (2 : Int) = 1 by decide), if_pos (show (2 : Int) = 2 by rfl)]), hA, FrI.rf⟩)
        · refine x_aload_n (pc' := 71) hC dX7_step_70 rfl rfl ?_
          refine x_getR (pc' := 74) (b := 85) hC kf_X7_19 dX7_step_71 (hM 0 _ rfl) rfl rfl ?_
          refine x_iconst (pc' := 75) hC dX7_step_74 rfl ?_
          refine x_iload_n (pc' := 76) hC dX7_step_75 rfl rfl ?_
          refine x_iadd (pc' := 77) hC dX7_step_76 rfl ?_
          refine x_iald (pc' := 78) hC dX7_step_77 (hM 4 _ rfl) (by omega) (by decide) rfl ?_
          rw [hN (2 + x) (by omega) (by omega)]
          refine x_goto (tgt := 100) hC dX7_step_78 (by decide) ?_
          exact x_iret hC dX7_step_100 (xI.mk ⟨by
      have ek : (T 3).toNat = k := by omega
      unfold aStep
      rw [if_pos c5]
      first
      | rw [if_pos c67]
      | (rw [if_neg (by omega), if_neg (by omega), if_neg (by omega), if_pos (by omega), hn9, ek])
      | (rw [hsb_bit]; rcases w12 with rfl | rfl; rw [if_neg (show ¬ (1 : Int) = 0 by decide), if_pos (show (1 : Int) = 1 by rfl)]; rw [if_neg (show ¬ (2 : Int) = 0 by decide), if_neg (show ¬ (2 : Int) = 1 by decide), if_pos (show (2 : Int) = 2 by rfl)]), hA, FrI.rf⟩)
      · have g2 := hR.2.1 k (by omega) (by omega)
        refine x_iload_n (pc' := 39) hC dX7_step_38 rfl rfl ?_
        refine x_aload_n (pc' := 40) hC dX7_step_39 rfl rfl ?_
        refine x_getR (pc' := 43) (b := 85) hC kf_X7_19 dX7_step_40 (hM 0 _ rfl) rfl rfl ?_
        refine x_bipush (pc' := 45) hC dX7_step_43 (by decide) rfl ?_
        refine x_iload (pc' := 47) hC dX7_step_45 rfl rfl ?_
        refine x_iadd (pc' := 48) hC dX7_step_47 rfl ?_
        refine x_iald (pc' := 49) hC dX7_step_48 (hM 4 _ rfl) (by omega) (by decide) rfl ?_
        rw [hN (18 + (k : Int)) (by omega) (by omega)]
        refine x_iload_n (pc' := 50) hC dX7_step_49 rfl rfl ?_
        refine x_icmp_ne (tgt := 57) (pc' := 53) hC dX7_step_50 (by decide) rfl (by omega) (by omega) (fun c50 => ?_) (fun c50 => ?_)
        · refine x_iconst (pc' := 58) hC dX7_step_57 rfl ?_
          refine x_iadd (pc' := 59) hC dX7_step_58 rfl ?_
          refine x_istore_n (pc' := 60) hC dX7_step_59 (by decide) rfl rfl ?_
          refine x_iinc (pc' := 63) hC dX7_step_60 rfl (by decide) rfl rfl ?_
          refine x_goto (tgt := 27) hC dX7_step_63 (by decide) ?_
          exact ih (k + 1) _ _ c5 c17 (by rw [cnt]; first | rw [if_pos c50, hn9] | rw [if_neg c50, hn9]) (by omega) (by omega) (by omega)
        · refine x_iconst (pc' := 54) hC dX7_step_53 rfl ?_
          refine x_goto (tgt := 58) hC dX7_step_54 (by decide) ?_
          refine x_iadd (pc' := 59) hC dX7_step_58 rfl ?_
          refine x_istore_n (pc' := 60) hC dX7_step_59 (by decide) rfl rfl ?_
          refine x_iinc (pc' := 63) hC dX7_step_60 rfl (by decide) rfl rfl ?_
          refine x_goto (tgt := 27) hC dX7_step_63 (by decide) ?_
          exact ih (k + 1) _ _ c5 c17 (by rw [cnt]; first | rw [if_pos c50, hn9] | rw [if_neg c50, hn9]) (by omega) (by omega) (by omega)
  refine x_aload_n (pc' := 1) hC dX7_step_0 rfl rfl ?_
  refine x_iload_n (pc' := 2) hC dX7_step_1 rfl rfl ?_
  refine x_callV (pc' := 5) (n := 1) hC (m_isStep hM hT hQ (by omega)) ky_X7_isStep kv_X7_isStep kl_X7_139 dX7_step_2 (hM 0 _ rfl) rfl rfl rfl rfl ⟨Nat.le_of_ble_eq_true rfl, Nat.le_of_ble_eq_true rfl⟩ (Nat.le_of_ble_eq_true rfl) ⟨Nat.le_refl _, Nat.le_refl _⟩ (Or.inl rfl) rfl (x_kd ?_)
  refine x_ifb_eq (tgt := 20) (pc' := 8) hC dX7_step_5 (by decide) rfl (fun c5 => ?_) (fun c5 => ?_)
  · refine x_iconst (pc' := 21) hC dX7_step_20 rfl ?_
    exact x_iret hC dX7_step_21 (xI.mk ⟨by unfold aStep; first | rw [if_neg (by omega)] | rw [if_pos c5, if_neg (by omega), if_neg (by omega), if_neg (by omega), if_neg (by omega)], hA, FrI.rf⟩)
  · refine x_iload_n (pc' := 9) hC dX7_step_8 rfl rfl ?_
    refine x_i2l (pc' := 10) hC dX7_step_9 (by omega) rfl ?_
    refine x_lconst (pc' := 11) (a := 0) hC dX7_step_10 (by decide) rfl ?_
    refine x_ldc2 (pc' := 14) (a := 3) hC kc_X7_83 dX7_step_11 (by decide) rfl ?_
    refine x_callS (pc' := 17) (n := 3) hC (m_in (by omega) (by omega) (by omega)) ky_X7_in ks_X7_in kl_X7_58 dX7_step_14 rfl rfl ⟨Nat.le_of_ble_eq_true rfl, Nat.le_of_ble_eq_true rfl⟩ (Nat.le_of_ble_eq_true rfl) ⟨Nat.le_refl _, Nat.le_refl _⟩ (Or.inl rfl) rfl (x_kd ?_)
    refine x_ifb_ne (tgt := 22) (pc' := 20) hC dX7_step_17 (by decide) rfl (fun c17 => ?_) (fun c17 => ?_)
    · refine x_iconst (pc' := 23) hC dX7_step_22 rfl ?_
      refine x_istore_n (pc' := 24) hC dX7_step_23 (by decide) rfl rfl ?_
      refine x_iconst (pc' := 25) hC dX7_step_24 rfl ?_
      refine x_istore (pc' := 27) hC dX7_step_25 (by decide) rfl rfl ?_
      exact loop ((T 3).toNat + 1) 0 _ _ c5 c17 rfl rfl (by omega) (by omega)
    · refine x_iconst (pc' := 21) hC dX7_step_20 rfl ?_
      exact x_iret hC dX7_step_21 (xI.mk ⟨by unfold aStep; first | rw [if_neg (by omega)] | rw [if_pos c5, if_neg (by omega), if_neg (by omega), if_neg (by omega), if_neg (by omega)], hA, FrI.rf⟩)
set_option maxRecDepth 100000 in
set_option maxHeartbeats 4000000 in
theorem q_behind {g : xG} {l : Launch} {S : List xS} {μ : xM} {T r : Int → Int} {nt : Int} {tx : Int → Int} {un kp : List (Int → Int)} {sl : List (Int × Int)} {n m w : Int} (hM : xPreM S) (hA : RM μ T r nt tx un kp sl) (hF : WF T r un kp) (hn : -2147483648 ≤ n ∧ n < 2147483648) (hm : -2147483648 ≤ m ∧ m < 2147483648) (hw : -2147483648 ≤ w ∧ w < 2147483648) : xCt g l yX7_behind cX7_behind 4 (some .int) 6 132 0 0 [vR g 81, vI n, vI m, vI w] S μ S (xI (fun a μ' => a = aBehind T r n m w ∧ RM μ' T r nt tx un kp sl ∧ FrI 81 92 μ μ')) := by
  refine x_enter (by decide) (Nat.le_of_ble_eq_true rfl) ?_
  intro zp ze zs zm za zb zh zc hC hz0
  have hT := hF.1
  have hR := hF.2.1.1
  have hy := hF.2.1.2
  have t0 := hT.1
  have t1 := hT.2.1
  have t2 := hT.2.2.1
  have t3 := hT.2.2.2.1
  have hQ := hA.2.1
  have hN := hA.2.2.1
  obtain ⟨⟨m0, m1, m2, m3⟩, m4⟩ := hA.2.1
  refine x_iload_n (pc' := 1) hC dX7_behind_0 rfl rfl ?_
  refine x_i2l (pc' := 2) hC dX7_behind_1 (by omega) rfl ?_
  refine x_lconst (pc' := 3) (a := 0) hC dX7_behind_2 (by decide) rfl ?_
  refine x_ldc2 (pc' := 6) (a := 40) hC kc_X7_142 dX7_behind_3 (by decide) rfl ?_
  refine x_callS (pc' := 9) (n := 3) hC (m_in (by omega) (by omega) (by omega)) ky_X7_in ks_X7_in kl_X7_58 dX7_behind_6 rfl rfl ⟨Nat.le_of_ble_eq_true rfl, Nat.le_of_ble_eq_true rfl⟩ (Nat.le_of_ble_eq_true rfl) ⟨Nat.le_refl _, Nat.le_refl _⟩ (Or.inl rfl) rfl (x_kd ?_)
  refine x_ifb_eq (tgt := 32) (pc' := 12) hC dX7_behind_9 (by decide) rfl (fun c9 => ?_) (fun c9 => ?_)
  · refine x_iconst (pc' := 33) hC dX7_behind_32 rfl ?_
    exact x_iret hC dX7_behind_33 (xI.mk ⟨by unfold aBehind; rw [if_neg (by omega)], hA, FrI.rf⟩)
  · refine x_aload_n (pc' := 13) hC dX7_behind_12 rfl rfl ?_
    refine x_iload_n (pc' := 14) hC dX7_behind_13 rfl rfl ?_
    refine x_callV (pc' := 17) (n := 1) hC (m_isOne hM hT hQ (by omega)) ky_X7_isOne kv_X7_isOne kl_X7_131 dX7_behind_14 (hM 0 _ rfl) rfl rfl rfl rfl ⟨Nat.le_of_ble_eq_true rfl, Nat.le_of_ble_eq_true rfl⟩ (Nat.le_of_ble_eq_true rfl) ⟨Nat.le_refl _, Nat.le_refl _⟩ (Or.inl rfl) rfl (x_kd ?_)
    refine x_ifb_eq (tgt := 32) (pc' := 20) hC dX7_behind_17 (by decide) rfl (fun c17 => ?_) (fun c17 => ?_)
    · refine x_iconst (pc' := 33) hC dX7_behind_32 rfl ?_
      exact x_iret hC dX7_behind_33 (xI.mk ⟨by unfold aBehind; rw [if_neg (by omega)], hA, FrI.rf⟩)
    · refine x_iload_n (pc' := 21) hC dX7_behind_20 rfl rfl ?_
      refine x_i2l (pc' := 22) hC dX7_behind_21 (by omega) rfl ?_
      refine x_lconst (pc' := 23) (a := 0) hC dX7_behind_22 (by decide) rfl ?_
      refine x_ldc2 (pc' := 26) (a := 2) hC kc_X7_77 dX7_behind_23 (by decide) rfl ?_
      refine x_callS (pc' := 29) (n := 3) hC (m_in (by omega) (by omega) (by omega)) ky_X7_in ks_X7_in kl_X7_58 dX7_behind_26 rfl rfl ⟨Nat.le_of_ble_eq_true rfl, Nat.le_of_ble_eq_true rfl⟩ (Nat.le_of_ble_eq_true rfl) ⟨Nat.le_refl _, Nat.le_refl _⟩ (Or.inl rfl) rfl (x_kd ?_)
      refine x_ifb_ne (tgt := 34) (pc' := 32) hC dX7_behind_29 (by decide) rfl (fun c29 => ?_) (fun c29 => ?_)
      · refine x_aload_n (pc' := 35) hC dX7_behind_34 rfl rfl ?_
        refine x_callV (pc' := 38) (n := 0) hC (m_aside hM hN) ky_X7_aside kv_X7_aside kl_X7_136 dX7_behind_35 (hM 0 _ rfl) rfl rfl rfl rfl ⟨Nat.le_of_ble_eq_true rfl, Nat.le_of_ble_eq_true rfl⟩ (Nat.le_of_ble_eq_true rfl) ⟨Nat.le_refl _, Nat.le_refl _⟩ (Or.inl rfl) rfl (x_kn (fun μ35 h35 => ?_))
        refine x_aload_n (pc' := 39) hC dX7_behind_38 rfl rfl ?_
        refine x_iload_n (pc' := 40) hC dX7_behind_39 rfl rfl ?_
        refine x_callV (pc' := 43) (n := 1) hC (m_goYears (N := n.toNat) hM hT hR ⟨hQ.fr h35.1 (by omega), h35.2⟩ (by omega) (by omega)) ky_X7_goYears kv_X7_goYears kl_X7_147 dX7_behind_40 (hM 0 _ rfl) rfl rfl rfl rfl ⟨Nat.le_of_ble_eq_true rfl, Nat.le_of_ble_eq_true rfl⟩ (Nat.le_of_ble_eq_true rfl) ⟨Nat.le_refl _, Nat.le_refl _⟩ (Or.inl rfl) rfl (x_kn (fun μ40 h40 => ?_))
        refine x_iload_n (pc' := 44) hC dX7_behind_43 rfl rfl ?_
        refine x_if_ne (tgt := 59) (pc' := 47) hC dX7_behind_44 (by decide) rfl (by omega) (fun c44 => ?_) (fun c44 => ?_)
        · refine x_iload_n (pc' := 60) hC dX7_behind_59 rfl rfl ?_
          refine x_iconst (pc' := 61) hC dX7_behind_60 rfl ?_
          refine x_icmp_ne (tgt := 71) (pc' := 64) hC dX7_behind_61 (by decide) rfl (by omega) (by omega) (fun c61 => ?_) (fun c61 => ?_)
          · refine x_aload_n (pc' := 72) hC dX7_behind_71 rfl rfl ?_
            refine x_getR (pc' := 75) (b := 87) hC kf_X7_25 dX7_behind_72 (hM 0 _ rfl) rfl rfl ?_
            refine x_bipush (pc' := 77) hC dX7_behind_75 (by decide) rfl ?_
            refine x_iload_n (pc' := 78) hC dX7_behind_77 rfl rfl ?_
            refine x_iadd (pc' := 79) hC dX7_behind_78 rfl ?_
            refine x_iald (pc' := 80) hC dX7_behind_79 (hM 6 _ rfl) (by omega) (by decide) rfl ?_
            skip
            exact x_iret hC dX7_behind_80 (xI.mk ⟨by unfold aBehind; rw [if_pos ⟨c9, c17, c29⟩]; first | rw [if_pos c44] | rw [if_neg c44, if_pos c61] | (rw [if_neg c44, if_neg c61]; exact h40.2 (25 + m) (by omega) (by omega)), hA.scr (h35.1.tr h40.1) (by omega), (h35.1.tr h40.1).mono (by omega) (by omega)⟩)
          · refine x_aload_n (pc' := 65) hC dX7_behind_64 rfl rfl ?_
            refine x_callV (pc' := 68) (n := 0) hC (m_governor hM hT (WR_goYears hT _ _ hR) ⟨hQ.fr (h35.1.tr h40.1) (by omega), h40.2⟩) ky_X7_governor kv_X7_governor kl_X7_125 dX7_behind_65 (hM 0 _ rfl) rfl rfl rfl rfl ⟨Nat.le_of_ble_eq_true rfl, Nat.le_of_ble_eq_true rfl⟩ (Nat.le_of_ble_eq_true rfl) ⟨Nat.le_refl _, Nat.le_refl _⟩ (Or.inl rfl) rfl (x_kd ?_)
            refine x_goto (tgt := 80) hC dX7_behind_68 (by decide) ?_
            skip
            exact x_iret hC dX7_behind_80 (xI.mk ⟨by unfold aBehind; rw [if_pos ⟨c9, c17, c29⟩]; first | rw [if_pos c44] | rw [if_neg c44, if_pos c61] | (rw [if_neg c44, if_neg c61]; exact h40.2 (25 + m) (by omega) (by omega)), hA.scr (h35.1.tr h40.1) (by omega), (h35.1.tr h40.1).mono (by omega) (by omega)⟩)
        · refine x_aload_n (pc' := 48) hC dX7_behind_47 rfl rfl ?_
          refine x_getR (pc' := 51) (b := 87) hC kf_X7_25 dX7_behind_48 (hM 0 _ rfl) rfl rfl ?_
          refine x_bipush (pc' := 53) hC dX7_behind_51 (by decide) rfl ?_
          refine x_iload_n (pc' := 54) hC dX7_behind_53 rfl rfl ?_
          refine x_iadd (pc' := 55) hC dX7_behind_54 rfl ?_
          refine x_iald (pc' := 56) hC dX7_behind_55 (hM 6 _ rfl) (by omega) (by decide) rfl ?_
          rw [h40.2 (18 + m) (by omega) (by omega)]
          refine x_goto (tgt := 80) hC dX7_behind_56 (by decide) ?_
          skip
          exact x_iret hC dX7_behind_80 (xI.mk ⟨by unfold aBehind; rw [if_pos ⟨c9, c17, c29⟩]; first | rw [if_pos c44] | rw [if_neg c44, if_pos c61] | (rw [if_neg c44, if_neg c61]; exact h40.2 (25 + m) (by omega) (by omega)), hA.scr (h35.1.tr h40.1) (by omega), (h35.1.tr h40.1).mono (by omega) (by omega)⟩)
      · refine x_iconst (pc' := 33) hC dX7_behind_32 rfl ?_
        exact x_iret hC dX7_behind_33 (xI.mk ⟨by unfold aBehind; rw [if_neg (by omega)], hA, FrI.rf⟩)
set_option maxRecDepth 100000 in
set_option maxHeartbeats 4000000 in
theorem q_slide {g : xG} {l : Launch} {S : List xS} {μ : xM} {T r : Int → Int} {nt : Int} {tx : Int → Int} {un kp : List (Int → Int)} {sl : List (Int × Int)} {m : Int} (hM : xPreM S) (hA : RM μ T r nt tx un kp sl) (hF : WF T r un kp) (hm : -2147483648 ≤ m ∧ m < 2147483648) : xCt g l yX7_slide cX7_slide 2 (some .int) 5 110 0 0 [vR g 81, vI m] S μ S (xI (fun a μ' => a = aSlide T r m ∧ RM μ' T r nt tx un kp sl ∧ FrI 81 92 μ μ')) := by
  refine x_enter (by decide) (Nat.le_of_ble_eq_true rfl) ?_
  intro zp ze zs zm za zb zh zc hC hz0
  have hT := hF.1
  have hR := hF.2.1.1
  have hy := hF.2.1.2
  have t0 := hT.1
  have t1 := hT.2.1
  have t2 := hT.2.2.1
  have t3 := hT.2.2.2.1
  have hQ := hA.2.1
  have hN := hA.2.2.1
  obtain ⟨⟨m0, m1, m2, m3⟩, m4⟩ := hA.2.1
  refine x_aload_n (pc' := 1) hC dX7_slide_0 rfl rfl ?_
  refine x_iload_n (pc' := 2) hC dX7_slide_1 rfl rfl ?_
  refine x_callV (pc' := 5) (n := 1) hC (m_isOne hM hT hQ (by omega)) ky_X7_isOne kv_X7_isOne kl_X7_131 dX7_slide_2 (hM 0 _ rfl) rfl rfl rfl rfl ⟨Nat.le_of_ble_eq_true rfl, Nat.le_of_ble_eq_true rfl⟩ (Nat.le_of_ble_eq_true rfl) ⟨Nat.le_refl _, Nat.le_refl _⟩ (Or.inl rfl) rfl (x_kd ?_)
  refine x_ifb_ne (tgt := 10) (pc' := 8) hC dX7_slide_5 (by decide) rfl (fun c5 => ?_) (fun c5 => ?_)
  · refine x_aload_n (pc' := 11) hC dX7_slide_10 rfl rfl ?_
    refine x_callV (pc' := 14) (n := 0) hC (m_aside hM hN) ky_X7_aside kv_X7_aside kl_X7_136 dX7_slide_11 (hM 0 _ rfl) rfl rfl rfl rfl ⟨Nat.le_of_ble_eq_true rfl, Nat.le_of_ble_eq_true rfl⟩ (Nat.le_of_ble_eq_true rfl) ⟨Nat.le_refl _, Nat.le_refl _⟩ (Or.inl rfl) rfl (x_kn (fun μ11 h11 => ?_))
    refine x_aload_n (pc' := 15) hC dX7_slide_14 rfl rfl ?_
    refine x_callV (pc' := 18) (n := 0) hC (m_goYear hM hT hR ⟨hQ.fr h11.1 (by omega), h11.2⟩) ky_X7_goYear kv_X7_goYear kl_X7_128 dX7_slide_15 (hM 0 _ rfl) rfl rfl rfl rfl ⟨Nat.le_of_ble_eq_true rfl, Nat.le_of_ble_eq_true rfl⟩ (Nat.le_of_ble_eq_true rfl) ⟨Nat.le_refl _, Nat.le_refl _⟩ (Or.inl rfl) rfl (x_kn (fun μ15 h15 => ?_))
    refine x_aload_n (pc' := 19) hC dX7_slide_18 rfl rfl ?_
    refine x_getR (pc' := 22) (b := 87) hC kf_X7_25 dX7_slide_19 (hM 0 _ rfl) rfl rfl ?_
    refine x_bipush (pc' := 24) hC dX7_slide_22 (by decide) rfl ?_
    refine x_iload_n (pc' := 25) hC dX7_slide_24 rfl rfl ?_
    refine x_iadd (pc' := 26) hC dX7_slide_25 rfl ?_
    refine x_iald (pc' := 27) hC dX7_slide_26 (hM 6 _ rfl) (by omega) (by decide) rfl ?_
    rw [h15.2 (18 + m) (by omega) (by omega)]
    exact x_iret hC dX7_slide_27 (xI.mk ⟨by unfold aSlide; rw [if_pos c5], hA.scr (h11.1.tr h15.1) (by omega), (h11.1.tr h15.1).mono (by omega) (by omega)⟩)
  · refine x_iconst (pc' := 9) hC dX7_slide_8 rfl ?_
    exact x_iret hC dX7_slide_9 (xI.mk ⟨by unfold aSlide; rw [if_neg (by omega)], hA, FrI.rf⟩)
set_option maxRecDepth 100000 in
set_option maxHeartbeats 4000000 in
theorem q_top {g : xG} {l : Launch} {S : List xS} {μ : xM} {T r : Int → Int} {nt : Int} {tx : Int → Int} {un kp : List (Int → Int)} {sl : List (Int × Int)} {m : Int} (hM : xPreM S) (hA : RM μ T r nt tx un kp sl) (hF : WF T r un kp) (hm : -2147483648 ≤ m ∧ m < 2147483648) : xCt g l yX7_top cX7_top 3 (some .int) 5 110 0 0 [vR g 81, vI m] S μ S (xI (fun a μ' => a = aTop T r m ∧ RM μ' T r nt tx un kp sl ∧ FrI 81 92 μ μ')) := by
  refine x_enter (by decide) (Nat.le_of_ble_eq_true rfl) ?_
  intro zp ze zs zm za zb zh zc hC hz0
  have hT := hF.1
  have hR := hF.2.1.1
  have hy := hF.2.1.2
  have t0 := hT.1
  have t1 := hT.2.1
  have t2 := hT.2.2.1
  have t3 := hT.2.2.2.1
  have hQ := hA.2.1
  have hN := hA.2.2.1
  obtain ⟨⟨m0, m1, m2, m3⟩, m4⟩ := hA.2.1
  have loop : ∀ (zn : Nat) (k : Nat) (y : Int) (μ1 : xM) (r1 : Int → Int) (hm9 : 0 ≤ m ∧ m < T 3) (hy1 : y + k = 41) (hy2 : 0 ≤ y) (h1 : FrI 87 88 μ μ1) (h2 : Rw μ1 87 r1) (h3 : WR T r1) (h4 : topF T m k y r1 = aTop T r m), k < zn → xX g 3 zp l ze { frames := 5, cells := 0, slots := 0, locals := 110 } zs zm za zb zh zc 0 0 (MQ zb (xQ g S (xI (fun a μ' => a = aTop T r m ∧ RM μ' T r nt tx un kp sl ∧ FrI 81 92 μ μ'))) za zs 0 0 (xA0 g)) S μ1 16 [some (vR g 81), some (vI m), some (vI y)] [] := by
    intro zn
    induction zn with
    | zero => intros; rename_i hz; exact absurd hz (Nat.not_lt_zero _)
    | succ zn ih =>
      intro k y μ1 r1 hm9 hy1 hy2 h1 h2 h3 h4 hn
      have q3 := h3.2.1 m hm9.1 hm9.2
      refine x_iload_n (pc' := 17) hC dX7_top_16 rfl rfl ?_
      refine x_bipush (pc' := 19) hC dX7_top_17 (by decide) rfl ?_
      refine x_icmp_gt (tgt := 54) (pc' := 22) hC dX7_top_19 (by decide) rfl (by omega) (by omega) (fun c19 => ?_) (fun c19 => ?_)
      · refine x_bipush (pc' := 56) hC dX7_top_54 (by decide) rfl ?_
        exact x_iret hC dX7_top_56 (xI.mk ⟨by rw [← h4, show k = 0 by omega]; rfl, hA.scr h1 (by omega), h1.mono (by omega) (by omega)⟩)
      · obtain ⟨k1, rfl⟩ : ∃ k1 : Nat, k = k1 + 1 := ⟨k - 1, by omega⟩
        rw [topF] at h4
        refine x_aload_n (pc' := 23) hC dX7_top_22 rfl rfl ?_
        refine x_getR (pc' := 26) (b := 87) hC kf_X7_25 dX7_top_23 (hM 0 _ rfl) rfl rfl ?_
        refine x_bipush (pc' := 28) hC dX7_top_26 (by decide) rfl ?_
        refine x_iload_n (pc' := 29) hC dX7_top_28 rfl rfl ?_
        refine x_iadd (pc' := 30) hC dX7_top_29 rfl ?_
        refine x_iald (pc' := 31) hC dX7_top_30 (hM 6 _ rfl) (by omega) (by decide) rfl ?_
        rw [h2 (18 + m) (by omega) (by omega)]
        refine x_aload_n (pc' := 32) hC dX7_top_31 rfl rfl ?_
        refine x_getR (pc' := 35) (b := 83) hC kf_X7_13 dX7_top_32 (hM 0 _ rfl) rfl rfl ?_
        refine x_iconst (pc' := 36) hC dX7_top_35 rfl ?_
        refine x_iald (pc' := 37) hC dX7_top_36 (hM 2 _ rfl) (by omega) (by decide) rfl ?_
        rw [h1 _ _ (by omega), m0]
        refine x_iconst (pc' := 38) hC dX7_top_37 rfl ?_
        refine x_isub (pc' := 39) hC dX7_top_38 rfl ?_
        refine x_icmp_ne (tgt := 44) (pc' := 42) hC dX7_top_39 (by decide) rfl (by omega) (by omega) (fun c39 => ?_) (fun c39 => ?_)
        · rw [if_neg c39] at h4
          refine x_aload_n (pc' := 45) hC dX7_top_44 rfl rfl ?_
          refine x_callV (pc' := 48) (n := 0) hC (m_goYear hM hT h3 ⟨hQ.fr h1 (by omega), h2⟩) ky_X7_goYear kv_X7_goYear kl_X7_128 dX7_top_45 (hM 0 _ rfl) rfl rfl rfl rfl ⟨Nat.le_of_ble_eq_true rfl, Nat.le_of_ble_eq_true rfl⟩ (Nat.le_of_ble_eq_true rfl) ⟨Nat.le_refl _, Nat.le_refl _⟩ (Or.inl rfl) rfl (x_kn (fun μ45 h45 => ?_))
          refine x_iinc (pc' := 51) hC dX7_top_48 rfl (by decide) rfl rfl ?_
          refine x_goto (tgt := 16) hC dX7_top_51 (by decide) ?_
          exact ih k1 _ _ (goYear T r1) hm9 (by omega) (by omega) (h1.tr h45.1) h45.2 (WR_goYear hT h3) h4 (by omega)
        · rw [if_pos (by omega)] at h4
          refine x_iload_n (pc' := 43) hC dX7_top_42 rfl rfl ?_
          exact x_iret hC dX7_top_43 (xI.mk ⟨h4, hA.scr h1 (by omega), h1.mono (by omega) (by omega)⟩)
  refine x_aload_n (pc' := 1) hC dX7_top_0 rfl rfl ?_
  refine x_iload_n (pc' := 2) hC dX7_top_1 rfl rfl ?_
  refine x_callV (pc' := 5) (n := 1) hC (m_isOne hM hT hQ (by omega)) ky_X7_isOne kv_X7_isOne kl_X7_131 dX7_top_2 (hM 0 _ rfl) rfl rfl rfl rfl ⟨Nat.le_of_ble_eq_true rfl, Nat.le_of_ble_eq_true rfl⟩ (Nat.le_of_ble_eq_true rfl) ⟨Nat.le_refl _, Nat.le_refl _⟩ (Or.inl rfl) rfl (x_kd ?_)
  refine x_ifb_ne (tgt := 10) (pc' := 8) hC dX7_top_5 (by decide) rfl (fun c5 => ?_) (fun c5 => ?_)
  · refine x_aload_n (pc' := 11) hC dX7_top_10 rfl rfl ?_
    refine x_callV (pc' := 14) (n := 0) hC (m_aside hM hN) ky_X7_aside kv_X7_aside kl_X7_136 dX7_top_11 (hM 0 _ rfl) rfl rfl rfl rfl ⟨Nat.le_of_ble_eq_true rfl, Nat.le_of_ble_eq_true rfl⟩ (Nat.le_of_ble_eq_true rfl) ⟨Nat.le_refl _, Nat.le_refl _⟩ (Or.inl rfl) rfl (x_kn (fun μ11 h11 => ?_))
    refine x_iconst (pc' := 15) hC dX7_top_14 rfl ?_
    refine x_istore_n (pc' := 16) hC dX7_top_15 (by decide) rfl rfl ?_
    exact loop 42 41 _ _ r c5 (by omega) (by omega) h11.1 h11.2 hR (by unfold aTop; rw [if_pos c5]) (by omega)
  · refine x_iconst (pc' := 9) hC dX7_top_8 rfl ?_
    exact x_iret hC dX7_top_9 (xI.mk ⟨by unfold aTop; rw [if_neg (by omega)], hA, FrI.rf⟩)
set_option maxRecDepth 100000 in
set_option maxHeartbeats 4000000 in
theorem q_topple {g : xG} {l : Launch} {S : List xS} {μ : xM} {T r : Int → Int} {nt : Int} {tx : Int → Int} {un kp : List (Int → Int)} {sl : List (Int × Int)} {m : Int} (hM : xPreM S) (hA : RM μ T r nt tx un kp sl) (hF : WF T r un kp) (hm : -2147483648 ≤ m ∧ m < 2147483648) : xCt g l yX7_topple cX7_topple 5 (some .int) 4 89 0 0 [vR g 81, vI m] S μ S (xI (fun a μ' => a = aTopple T r m ∧ RM μ' T r nt tx un kp sl ∧ FrI 81 92 μ μ')) := by
  refine x_enter (by decide) (Nat.le_of_ble_eq_true rfl) ?_
  intro zp ze zs zm za zb zh zc hC hz0
  have hT := hF.1
  have hR := hF.2.1.1
  have hy := hF.2.1.2
  have t0 := hT.1
  have t1 := hT.2.1
  have t2 := hT.2.2.1
  have t3 := hT.2.2.2.1
  have hQ := hA.2.1
  have hN := hA.2.2.1
  obtain ⟨⟨m0, m1, m2, m3⟩, m4⟩ := hA.2.1
  have loop : ∀ (zn : Nat) (k : Nat) (v : Int) (μ1 : xM) (hm9 : 0 ≤ m ∧ m < T 3) (hv1 : v + k = 11) (hv2 : 0 ≤ v) (h1 : FrI 87 88 μ μ1) (h4 : toppleF T r m k v = aTopple T r m), k < zn → xX g 5 zp l ze { frames := 4, cells := 0, slots := 0, locals := 89 } zs zm za zb zh zc 0 0 (MQ zb (xQ g S (xI (fun a μ' => a = aTopple T r m ∧ RM μ' T r nt tx un kp sl ∧ FrI 81 92 μ μ'))) za zs 0 0 (xA0 g)) S μ1 22 [some (vR g 81), some (vI m), some (vI (r (18 + m))), some (vI v), none] [] := by
    intro zn
    induction zn with
    | zero => intros; rename_i hz; exact absurd hz (Nat.not_lt_zero _)
    | succ zn ih9 =>
      intro k v μ1 hm9 hv1 hv2 h1 h4 hn
      have q3 := hR.2.1 m hm9.1 hm9.2
      have q4 := hR.1 (r (18 + m)) (by omega) (by omega)
      have hN1 : Rw μ1 85 r := hN.fr h1 (by omega)
      have loop2 : ∀ (zn : Nat) (j : Nat) (i : Int) (μ2 : xM) (hi : i = j) (hj : (j : Int) ≤ m) (c34 : r (2 + r (18 + m)) + v < 10) (h5 : FrI 87 88 μ μ2) (h6 : Rw μ2 87 (goN T (up r (2 + r (18 + m)) (r (2 + r (18 + m)) + v)) j)), m.toNat - j < zn → xX g 5 zp l ze { frames := 4, cells := 0, slots := 0, locals := 89 } zs zm za zb zh zc 0 0 (MQ zb (xQ g S (xI (fun a μ' => a = aTopple T r m ∧ RM μ' T r nt tx un kp sl ∧ FrI 81 92 μ μ'))) za zs 0 0 (xA0 g)) S μ2 56 [some (vR g 81), some (vI m), some (vI (r (18 + m))), some (vI v), some (vI i)] [] := by
        intro zn
        induction zn with
        | zero => intros; rename_i hz; exact absurd hz (Nat.not_lt_zero _)
        | succ zn ih =>
          intro j i μ2 hi hj c34 h5 h6 hn
          subst hi
          have h7 : WR T (goN T (up r (2 + r (18 + m)) (r (2 + r (18 + m)) + v)) j) := WR_goN hT (WR_wax9 hR (by omega) (by omega) (by omega)) j (by omega)
          obtain ⟨k1, rfl⟩ : ∃ k1 : Nat, k = k1 + 1 := ⟨k - 1, by omega⟩
          rw [toppleF, if_pos (by omega)] at h4
          refine x_iload (pc' := 58) hC dX7_topple_56 rfl rfl ?_
          refine x_iload_n (pc' := 59) hC dX7_topple_58 rfl rfl ?_
          refine x_icmp_ge (tgt := 74) (pc' := 62) hC dX7_topple_59 (by decide) rfl (by omega) (by omega) (fun c59 => ?_) (fun c59 => ?_)
          · have ej : m.toNat = j := by omega
            rw [ej] at h4
            have q9 := lack_rg hT h7 hm9
            refine x_aload_n (pc' := 75) hC dX7_topple_74 rfl rfl ?_
            refine x_iload_n (pc' := 76) hC dX7_topple_75 rfl rfl ?_
            refine x_callV (pc' := 79) (n := 1) hC (m_lack hM hT h7 ⟨hQ.fr h5 (by omega), h6⟩ hm9) ky_X7_lack kv_X7_lack kl_X7_114 dX7_topple_76 (hM 0 _ rfl) rfl rfl rfl rfl ⟨Nat.le_of_ble_eq_true rfl, Nat.le_of_ble_eq_true rfl⟩ (Nat.le_of_ble_eq_true rfl) ⟨Nat.le_refl _, Nat.le_refl _⟩ (Or.inl rfl) rfl (x_kd ?_)
            refine x_if_le (tgt := 84) (pc' := 82) hC dX7_topple_79 (by decide) rfl (by omega) (fun c79 => ?_) (fun c79 => ?_)
            · rw [if_neg (by omega)] at h4
              refine x_iinc (pc' := 87) hC dX7_topple_84 rfl (by decide) rfl rfl ?_
              refine x_goto (tgt := 22) hC dX7_topple_87 (by decide) ?_
              refine x_vs (vs' := [some (vR g 81), some (vI m), some (vI (r (18 + m))), some (vI (v + 1)), none]) (by intro i v; match i with | 0 => exact id | 1 => exact id | 2 => exact id | 3 => exact id | 4 => (intro h; cases h) | i + 5 => (intro h; cases h)) ?_
              exact ih9 k1 _ _ hm9 (by omega) (by omega) h5 h4 (by omega)
            · rw [if_pos (by omega)] at h4
              refine x_iload_n (pc' := 83) hC dX7_topple_82 rfl rfl ?_
              exact x_iret hC dX7_topple_83 (xI.mk ⟨h4, hA.scr h5 (by omega), h5.mono (by omega) (by omega)⟩)
          · refine x_aload_n (pc' := 63) hC dX7_topple_62 rfl rfl ?_
            refine x_iload (pc' := 65) hC dX7_topple_63 rfl rfl ?_
            refine x_callV (pc' := 68) (n := 1) hC (m_goOne hM hT h7 ⟨hQ.fr h5 (by omega), h6⟩ ⟨by omega, by omega⟩) ky_X7_goOne kv_X7_goOne kl_X7_121 dX7_topple_65 (hM 0 _ rfl) rfl rfl rfl rfl ⟨Nat.le_of_ble_eq_true rfl, Nat.le_of_ble_eq_true rfl⟩ (Nat.le_of_ble_eq_true rfl) ⟨Nat.le_refl _, Nat.le_refl _⟩ (Or.inl rfl) rfl (x_kn (fun μ65 h65 => ?_))
            refine x_iinc (pc' := 71) hC dX7_topple_68 rfl (by decide) rfl rfl ?_
            refine x_goto (tgt := 56) hC dX7_topple_71 (by decide) ?_
            exact ih (j + 1) _ _ (by omega) (by omega) c34 (h5.tr h65.1) (by rw [goN]; exact h65.2) (by omega)
      refine x_aload_n (pc' := 23) hC dX7_topple_22 rfl rfl ?_
      refine x_getR (pc' := 26) (b := 85) hC kf_X7_19 dX7_topple_23 (hM 0 _ rfl) rfl rfl ?_
      refine x_iconst (pc' := 27) hC dX7_topple_26 rfl ?_
      refine x_iload_n (pc' := 28) hC dX7_topple_27 rfl rfl ?_
      refine x_iadd (pc' := 29) hC dX7_topple_28 rfl ?_
      refine x_iald (pc' := 30) hC dX7_topple_29 (hM 4 _ rfl) (by omega) (by decide) rfl ?_
      rw [hN1 (2 + r (18 + m)) (by omega) (by omega)]
      refine x_iload_n (pc' := 31) hC dX7_topple_30 rfl rfl ?_
      refine x_iadd (pc' := 32) hC dX7_topple_31 rfl ?_
      refine x_bipush (pc' := 34) hC dX7_topple_32 (by decide) rfl ?_
      refine x_icmp_ge (tgt := 90) (pc' := 37) hC dX7_topple_34 (by decide) rfl (by omega) (by omega) (fun c34 => ?_) (fun c34 => ?_)
      · have e9 : toppleF T r m k v = -4 := by cases k with | zero => rfl | succ k => rw [toppleF, if_neg (by omega)]
        refine x_bipush (pc' := 92) hC dX7_topple_90 (by decide) rfl ?_
        exact x_iret hC dX7_topple_92 (xI.mk ⟨by rw [← h4, e9], hA.scr h1 (by omega), h1.mono (by omega) (by omega)⟩)
      · refine x_aload_n (pc' := 38) hC dX7_topple_37 rfl rfl ?_
        refine x_callV (pc' := 41) (n := 0) hC (m_aside hM hN1) ky_X7_aside kv_X7_aside kl_X7_136 dX7_topple_38 (hM 0 _ rfl) rfl rfl rfl rfl ⟨Nat.le_of_ble_eq_true rfl, Nat.le_of_ble_eq_true rfl⟩ (Nat.le_of_ble_eq_true rfl) ⟨Nat.le_refl _, Nat.le_refl _⟩ (Or.inl rfl) rfl (x_kn (fun μ38 h38 => ?_))
        refine x_aload_n (pc' := 42) hC dX7_topple_41 rfl rfl ?_
        refine x_getR (pc' := 45) (b := 87) hC kf_X7_25 dX7_topple_42 (hM 0 _ rfl) rfl rfl ?_
        refine x_iconst (pc' := 46) hC dX7_topple_45 rfl ?_
        refine x_iload_n (pc' := 47) hC dX7_topple_46 rfl rfl ?_
        refine x_iadd (pc' := 48) hC dX7_topple_47 rfl ?_
        refine x_dup2 (pc' := 49) hC dX7_topple_48 rfl rfl rfl ?_
        refine x_iald (pc' := 50) hC dX7_topple_49 (hM 6 _ rfl) (by omega) (by decide) rfl ?_
        rw [h38.2 (2 + r (18 + m)) (by omega) (by omega)]
        refine x_iload_n (pc' := 51) hC dX7_topple_50 rfl rfl ?_
        refine x_iadd (pc' := 52) hC dX7_topple_51 rfl ?_
        refine x_iast (pc' := 53) hC dX7_topple_52 (hM 6 _ rfl) (by omega) (by omega) rfl ?_
        refine x_iconst (pc' := 54) hC dX7_topple_53 rfl ?_
        refine x_istore (pc' := 56) hC dX7_topple_54 (by decide) rfl rfl ?_
        exact loop2 (m.toNat + 1) 0 _ _ rfl (by omega) (by omega) ((h1.tr h38.1).u (by omega)) h38.2.u (by omega)
  refine x_aload_n (pc' := 1) hC dX7_topple_0 rfl rfl ?_
  refine x_iload_n (pc' := 2) hC dX7_topple_1 rfl rfl ?_
  refine x_callV (pc' := 5) (n := 1) hC (m_isOne hM hT hQ (by omega)) ky_X7_isOne kv_X7_isOne kl_X7_131 dX7_topple_2 (hM 0 _ rfl) rfl rfl rfl rfl ⟨Nat.le_of_ble_eq_true rfl, Nat.le_of_ble_eq_true rfl⟩ (Nat.le_of_ble_eq_true rfl) ⟨Nat.le_refl _, Nat.le_refl _⟩ (Or.inl rfl) rfl (x_kd ?_)
  refine x_ifb_ne (tgt := 10) (pc' := 8) hC dX7_topple_5 (by decide) rfl (fun c5 => ?_) (fun c5 => ?_)
  · have q3 := hR.2.1 m c5.1 c5.2
    refine x_aload_n (pc' := 11) hC dX7_topple_10 rfl rfl ?_
    refine x_getR (pc' := 14) (b := 85) hC kf_X7_19 dX7_topple_11 (hM 0 _ rfl) rfl rfl ?_
    refine x_bipush (pc' := 16) hC dX7_topple_14 (by decide) rfl ?_
    refine x_iload_n (pc' := 17) hC dX7_topple_16 rfl rfl ?_
    refine x_iadd (pc' := 18) hC dX7_topple_17 rfl ?_
    refine x_iald (pc' := 19) hC dX7_topple_18 (hM 4 _ rfl) (by omega) (by decide) rfl ?_
    rw [hN (18 + m) (by omega) (by omega)]
    refine x_istore_n (pc' := 20) hC dX7_topple_19 (by decide) rfl rfl ?_
    refine x_iconst (pc' := 21) hC dX7_topple_20 rfl ?_
    refine x_istore_n (pc' := 22) hC dX7_topple_21 (by decide) rfl rfl ?_
    refine x_vs (vs' := [some (vR g 81), some (vI m), some (vI (r (18 + m))), some (vI 0), none]) (by intro i v; match i with | 0 => exact id | 1 => exact id | 2 => exact id | 3 => exact id | 4 => (intro h; cases h) | i + 5 => (intro h; cases h)) ?_
    exact loop 12 11 0 μ c5 (by omega) (by omega) FrI.rf (by unfold aTopple; rw [if_pos c5]) (by omega)
  · refine x_iconst (pc' := 9) hC dX7_topple_8 rfl ?_
    exact x_iret hC dX7_topple_9 (xI.mk ⟨by unfold aTopple; rw [if_neg (by omega)], hA, FrI.rf⟩)
set_option maxRecDepth 100000 in
set_option maxHeartbeats 4000000 in
theorem q_count {g : xG} {l : Launch} {S : List xS} {μ : xM} {T r : Int → Int} {nt : Int} {tx : Int → Int} {un kp : List (Int → Int)} {sl : List (Int × Int)} {w : Int} (hM : xPreM S) (hA : RM μ T r nt tx un kp sl) (hF : WF T r un kp) (hw : -2147483648 ≤ w ∧ w < 2147483648) : xCt g l yX7_count cX7_count 2 (some .int) 1 22 0 0 [vR g 81, vI w] S μ S (xI (fun a μ' => a = aCount T r nt un kp sl w ∧ RM μ' T r nt tx un kp sl ∧ FrI 81 92 μ μ')) := by
  refine x_enter (by decide) (Nat.le_of_ble_eq_true rfl) ?_
  intro zp ze zs zm za zb zh zc hC hz0
  have hT := hF.1
  have hR := hF.2.1.1
  have hy := hF.2.1.2
  have t0 := hT.1
  have t1 := hT.2.1
  have t2 := hT.2.2.1
  have t3 := hT.2.2.2.1
  have hQ := hA.2.1
  have hN := hA.2.2.1
  obtain ⟨⟨m0, m1, m2, m3⟩, m4⟩ := hA.2.1
  refine x_iload_n (pc' := 1) hC dX7_count_0 rfl rfl ?_
  have w1 : w = 0 ∨ w = 1 ∨ w = 2 ∨ w = 3 ∨ w = 4 ∨ w = 5 ∨ w = 6 ∨ w = 7 ∨ w = 8 ∨ (w < 0 ∨ 8 < w) := by omega
  rcases w1 with w1 | w1 | w1 | w1 | w1 | w1 | w1 | w1 | w1 | w1
  · refine x_tabIn (off := 51) (tgt := 52) hC dX7_count_1 (by omega) (by omega) (by rw [w1]; rfl) (by decide) ?_
    refine x_aload_n (pc' := 53) hC dX7_count_52 rfl rfl ?_
    refine x_getR (pc' := 56) (b := 83) hC kf_X7_13 dX7_count_53 (hM 0 _ rfl) rfl rfl ?_
    refine x_iconst (pc' := 57) hC dX7_count_56 rfl ?_
    refine x_iald (pc' := 58) hC dX7_count_57 (hM 2 _ rfl) (by omega) (by decide) rfl ?_
    rw [m3]
    exact x_iret hC dX7_count_58 (xI.mk ⟨by unfold aCount; first | rw [if_neg (by omega), if_neg (by omega), if_neg (by omega), if_neg (by omega), if_neg (by omega), if_neg (by omega), if_neg (by omega), if_neg (by omega), if_pos w1] | rw [if_neg (by omega), if_neg (by omega), if_neg (by omega), if_neg (by omega), if_neg (by omega), if_neg (by omega), if_neg (by omega), if_pos w1] | rw [if_neg (by omega), if_neg (by omega), if_neg (by omega), if_neg (by omega), if_neg (by omega), if_neg (by omega), if_pos w1] | rw [if_neg (by omega), if_neg (by omega), if_neg (by omega), if_neg (by omega), if_neg (by omega), if_pos w1] | rw [if_neg (by omega), if_neg (by omega), if_neg (by omega), if_neg (by omega), if_pos w1] | rw [if_neg (by omega), if_neg (by omega), if_neg (by omega), if_pos w1] | rw [if_neg (by omega), if_neg (by omega), if_pos w1] | rw [if_neg (by omega), if_pos w1] | rw [if_pos w1] | rw [if_neg (by omega), if_neg (by omega), if_neg (by omega), if_neg (by omega), if_neg (by omega), if_neg (by omega), if_neg (by omega), if_neg (by omega), if_neg (by omega)], hA, FrI.rf⟩)
  · refine x_tabIn (off := 58) (tgt := 59) hC dX7_count_1 (by omega) (by omega) (by rw [w1]; rfl) (by decide) ?_
    refine x_aload_n (pc' := 60) hC dX7_count_59 rfl rfl ?_
    refine x_getR (pc' := 63) (b := 83) hC kf_X7_13 dX7_count_60 (hM 0 _ rfl) rfl rfl ?_
    refine x_iconst (pc' := 64) hC dX7_count_63 rfl ?_
    refine x_iald (pc' := 65) hC dX7_count_64 (hM 2 _ rfl) (by omega) (by decide) rfl ?_
    rw [m0]
    exact x_iret hC dX7_count_65 (xI.mk ⟨by unfold aCount; first | rw [if_neg (by omega), if_neg (by omega), if_neg (by omega), if_neg (by omega), if_neg (by omega), if_neg (by omega), if_neg (by omega), if_neg (by omega), if_pos w1] | rw [if_neg (by omega), if_neg (by omega), if_neg (by omega), if_neg (by omega), if_neg (by omega), if_neg (by omega), if_neg (by omega), if_pos w1] | rw [if_neg (by omega), if_neg (by omega), if_neg (by omega), if_neg (by omega), if_neg (by omega), if_neg (by omega), if_pos w1] | rw [if_neg (by omega), if_neg (by omega), if_neg (by omega), if_neg (by omega), if_neg (by omega), if_pos w1] | rw [if_neg (by omega), if_neg (by omega), if_neg (by omega), if_neg (by omega), if_pos w1] | rw [if_neg (by omega), if_neg (by omega), if_neg (by omega), if_pos w1] | rw [if_neg (by omega), if_neg (by omega), if_pos w1] | rw [if_neg (by omega), if_pos w1] | rw [if_pos w1] | rw [if_neg (by omega), if_neg (by omega), if_neg (by omega), if_neg (by omega), if_neg (by omega), if_neg (by omega), if_neg (by omega), if_neg (by omega), if_neg (by omega)], hA, FrI.rf⟩)
  · refine x_tabIn (off := 65) (tgt := 66) hC dX7_count_1 (by omega) (by omega) (by rw [w1]; rfl) (by decide) ?_
    refine x_aload_n (pc' := 67) hC dX7_count_66 rfl rfl ?_
    refine x_getR (pc' := 70) (b := 85) hC kf_X7_19 dX7_count_67 (hM 0 _ rfl) rfl rfl ?_
    refine x_iconst (pc' := 71) hC dX7_count_70 rfl ?_
    refine x_iald (pc' := 72) hC dX7_count_71 (hM 4 _ rfl) (by omega) (by decide) rfl ?_
    rw [hN 0 (by omega) (by omega)]
    exact x_iret hC dX7_count_72 (xI.mk ⟨by unfold aCount; first | rw [if_neg (by omega), if_neg (by omega), if_neg (by omega), if_neg (by omega), if_neg (by omega), if_neg (by omega), if_neg (by omega), if_neg (by omega), if_pos w1] | rw [if_neg (by omega), if_neg (by omega), if_neg (by omega), if_neg (by omega), if_neg (by omega), if_neg (by omega), if_neg (by omega), if_pos w1] | rw [if_neg (by omega), if_neg (by omega), if_neg (by omega), if_neg (by omega), if_neg (by omega), if_neg (by omega), if_pos w1] | rw [if_neg (by omega), if_neg (by omega), if_neg (by omega), if_neg (by omega), if_neg (by omega), if_pos w1] | rw [if_neg (by omega), if_neg (by omega), if_neg (by omega), if_neg (by omega), if_pos w1] | rw [if_neg (by omega), if_neg (by omega), if_neg (by omega), if_pos w1] | rw [if_neg (by omega), if_neg (by omega), if_pos w1] | rw [if_neg (by omega), if_pos w1] | rw [if_pos w1] | rw [if_neg (by omega), if_neg (by omega), if_neg (by omega), if_neg (by omega), if_neg (by omega), if_neg (by omega), if_neg (by omega), if_neg (by omega), if_neg (by omega)], hA, FrI.rf⟩)
  · refine x_tabIn (off := 72) (tgt := 73) hC dX7_count_1 (by omega) (by omega) (by rw [w1]; rfl) (by decide) ?_
    refine x_aload_n (pc' := 74) hC dX7_count_73 rfl rfl ?_
    refine x_getR (pc' := 77) (b := 85) hC kf_X7_19 dX7_count_74 (hM 0 _ rfl) rfl rfl ?_
    refine x_iconst (pc' := 78) hC dX7_count_77 rfl ?_
    refine x_iald (pc' := 79) hC dX7_count_78 (hM 4 _ rfl) (by omega) (by decide) rfl ?_
    rw [hN 1 (by omega) (by omega)]
    exact x_iret hC dX7_count_79 (xI.mk ⟨by unfold aCount; first | rw [if_neg (by omega), if_neg (by omega), if_neg (by omega), if_neg (by omega), if_neg (by omega), if_neg (by omega), if_neg (by omega), if_neg (by omega), if_pos w1] | rw [if_neg (by omega), if_neg (by omega), if_neg (by omega), if_neg (by omega), if_neg (by omega), if_neg (by omega), if_neg (by omega), if_pos w1] | rw [if_neg (by omega), if_neg (by omega), if_neg (by omega), if_neg (by omega), if_neg (by omega), if_neg (by omega), if_pos w1] | rw [if_neg (by omega), if_neg (by omega), if_neg (by omega), if_neg (by omega), if_neg (by omega), if_pos w1] | rw [if_neg (by omega), if_neg (by omega), if_neg (by omega), if_neg (by omega), if_pos w1] | rw [if_neg (by omega), if_neg (by omega), if_neg (by omega), if_pos w1] | rw [if_neg (by omega), if_neg (by omega), if_pos w1] | rw [if_neg (by omega), if_pos w1] | rw [if_pos w1] | rw [if_neg (by omega), if_neg (by omega), if_neg (by omega), if_neg (by omega), if_neg (by omega), if_neg (by omega), if_neg (by omega), if_neg (by omega), if_neg (by omega)], hA, FrI.rf⟩)
  · refine x_tabIn (off := 79) (tgt := 80) hC dX7_count_1 (by omega) (by omega) (by rw [w1]; rfl) (by decide) ?_
    refine x_aload_n (pc' := 81) hC dX7_count_80 rfl rfl ?_
    refine x_callV (pc' := 84) (n := 0) hC (m_waxInAll hM hT hR hQ hN hy.2.2) ky_X7_waxInAll kv_X7_waxInAll kl_X7_189 dX7_count_81 (hM 0 _ rfl) rfl rfl rfl rfl ⟨Nat.le_of_ble_eq_true rfl, Nat.le_of_ble_eq_true rfl⟩ (Nat.le_of_ble_eq_true rfl) ⟨Nat.le_refl _, Nat.le_refl _⟩ (Or.inl rfl) rfl (x_kd ?_)
    exact x_iret hC dX7_count_84 (xI.mk ⟨by unfold aCount; first | rw [if_neg (by omega), if_neg (by omega), if_neg (by omega), if_neg (by omega), if_neg (by omega), if_neg (by omega), if_neg (by omega), if_neg (by omega), if_pos w1] | rw [if_neg (by omega), if_neg (by omega), if_neg (by omega), if_neg (by omega), if_neg (by omega), if_neg (by omega), if_neg (by omega), if_pos w1] | rw [if_neg (by omega), if_neg (by omega), if_neg (by omega), if_neg (by omega), if_neg (by omega), if_neg (by omega), if_pos w1] | rw [if_neg (by omega), if_neg (by omega), if_neg (by omega), if_neg (by omega), if_neg (by omega), if_pos w1] | rw [if_neg (by omega), if_neg (by omega), if_neg (by omega), if_neg (by omega), if_pos w1] | rw [if_neg (by omega), if_neg (by omega), if_neg (by omega), if_pos w1] | rw [if_neg (by omega), if_neg (by omega), if_pos w1] | rw [if_neg (by omega), if_pos w1] | rw [if_pos w1] | rw [if_neg (by omega), if_neg (by omega), if_neg (by omega), if_neg (by omega), if_neg (by omega), if_neg (by omega), if_neg (by omega), if_neg (by omega), if_neg (by omega)], hA, FrI.rf⟩)
  · refine x_tabIn (off := 84) (tgt := 85) hC dX7_count_1 (by omega) (by omega) (by rw [w1]; rfl) (by decide) ?_
    refine x_aload_n (pc' := 86) hC dX7_count_85 rfl rfl ?_
    refine x_getI (j' := 13) (pc' := 89) hC kf_X7_98 dX7_count_86 (hM 0 _ rfl) rfl rfl rfl ?_
    rw [hA.2.2.2.2.2.1]
    exact x_iret hC dX7_count_89 (xI.mk ⟨by unfold aCount; first | rw [if_neg (by omega), if_neg (by omega), if_neg (by omega), if_neg (by omega), if_neg (by omega), if_neg (by omega), if_neg (by omega), if_neg (by omega), if_pos w1] | rw [if_neg (by omega), if_neg (by omega), if_neg (by omega), if_neg (by omega), if_neg (by omega), if_neg (by omega), if_neg (by omega), if_pos w1] | rw [if_neg (by omega), if_neg (by omega), if_neg (by omega), if_neg (by omega), if_neg (by omega), if_neg (by omega), if_pos w1] | rw [if_neg (by omega), if_neg (by omega), if_neg (by omega), if_neg (by omega), if_neg (by omega), if_pos w1] | rw [if_neg (by omega), if_neg (by omega), if_neg (by omega), if_neg (by omega), if_pos w1] | rw [if_neg (by omega), if_neg (by omega), if_neg (by omega), if_pos w1] | rw [if_neg (by omega), if_neg (by omega), if_pos w1] | rw [if_neg (by omega), if_pos w1] | rw [if_pos w1] | rw [if_neg (by omega), if_neg (by omega), if_neg (by omega), if_neg (by omega), if_neg (by omega), if_neg (by omega), if_neg (by omega), if_neg (by omega), if_neg (by omega)], hA, FrI.rf⟩)
  · refine x_tabIn (off := 89) (tgt := 90) hC dX7_count_1 (by omega) (by omega) (by rw [w1]; rfl) (by decide) ?_
    refine x_aload_n (pc' := 91) hC dX7_count_90 rfl rfl ?_
    refine x_getI (j' := 9) (pc' := 94) hC kf_X7_101 dX7_count_91 (hM 0 _ rfl) rfl rfl rfl ?_
    rw [hA.2.2.2.1.1]
    exact x_iret hC dX7_count_94 (xI.mk ⟨by unfold aCount; first | rw [if_neg (by omega), if_neg (by omega), if_neg (by omega), if_neg (by omega), if_neg (by omega), if_neg (by omega), if_neg (by omega), if_neg (by omega), if_pos w1] | rw [if_neg (by omega), if_neg (by omega), if_neg (by omega), if_neg (by omega), if_neg (by omega), if_neg (by omega), if_neg (by omega), if_pos w1] | rw [if_neg (by omega), if_neg (by omega), if_neg (by omega), if_neg (by omega), if_neg (by omega), if_neg (by omega), if_pos w1] | rw [if_neg (by omega), if_neg (by omega), if_neg (by omega), if_neg (by omega), if_neg (by omega), if_pos w1] | rw [if_neg (by omega), if_neg (by omega), if_neg (by omega), if_neg (by omega), if_pos w1] | rw [if_neg (by omega), if_neg (by omega), if_neg (by omega), if_pos w1] | rw [if_neg (by omega), if_neg (by omega), if_pos w1] | rw [if_neg (by omega), if_pos w1] | rw [if_pos w1] | rw [if_neg (by omega), if_neg (by omega), if_neg (by omega), if_neg (by omega), if_neg (by omega), if_neg (by omega), if_neg (by omega), if_neg (by omega), if_neg (by omega)], hA, FrI.rf⟩)
  · refine x_tabIn (off := 94) (tgt := 95) hC dX7_count_1 (by omega) (by omega) (by rw [w1]; rfl) (by decide) ?_
    refine x_aload_n (pc' := 96) hC dX7_count_95 rfl rfl ?_
    refine x_getI (j' := 11) (pc' := 99) hC kf_X7_104 dX7_count_96 (hM 0 _ rfl) rfl rfl rfl ?_
    rw [hA.2.2.2.2.1.1]
    exact x_iret hC dX7_count_99 (xI.mk ⟨by unfold aCount; first | rw [if_neg (by omega), if_neg (by omega), if_neg (by omega), if_neg (by omega), if_neg (by omega), if_neg (by omega), if_neg (by omega), if_neg (by omega), if_pos w1] | rw [if_neg (by omega), if_neg (by omega), if_neg (by omega), if_neg (by omega), if_neg (by omega), if_neg (by omega), if_neg (by omega), if_pos w1] | rw [if_neg (by omega), if_neg (by omega), if_neg (by omega), if_neg (by omega), if_neg (by omega), if_neg (by omega), if_pos w1] | rw [if_neg (by omega), if_neg (by omega), if_neg (by omega), if_neg (by omega), if_neg (by omega), if_pos w1] | rw [if_neg (by omega), if_neg (by omega), if_neg (by omega), if_neg (by omega), if_pos w1] | rw [if_neg (by omega), if_neg (by omega), if_neg (by omega), if_pos w1] | rw [if_neg (by omega), if_neg (by omega), if_pos w1] | rw [if_neg (by omega), if_pos w1] | rw [if_pos w1] | rw [if_neg (by omega), if_neg (by omega), if_neg (by omega), if_neg (by omega), if_neg (by omega), if_neg (by omega), if_neg (by omega), if_neg (by omega), if_neg (by omega)], hA, FrI.rf⟩)
  · refine x_tabIn (off := 99) (tgt := 100) hC dX7_count_1 (by omega) (by omega) (by rw [w1]; rfl) (by decide) ?_
    refine x_aload_n (pc' := 101) hC dX7_count_100 rfl rfl ?_
    refine x_getI (j' := 0) (pc' := 104) hC kf_X7_62 dX7_count_101 (hM 0 _ rfl) rfl rfl rfl ?_
    rw [hA.1.1]
    exact x_iret hC dX7_count_104 (xI.mk ⟨by unfold aCount; first | rw [if_neg (by omega), if_neg (by omega), if_neg (by omega), if_neg (by omega), if_neg (by omega), if_neg (by omega), if_neg (by omega), if_neg (by omega), if_pos w1] | rw [if_neg (by omega), if_neg (by omega), if_neg (by omega), if_neg (by omega), if_neg (by omega), if_neg (by omega), if_neg (by omega), if_pos w1] | rw [if_neg (by omega), if_neg (by omega), if_neg (by omega), if_neg (by omega), if_neg (by omega), if_neg (by omega), if_pos w1] | rw [if_neg (by omega), if_neg (by omega), if_neg (by omega), if_neg (by omega), if_neg (by omega), if_pos w1] | rw [if_neg (by omega), if_neg (by omega), if_neg (by omega), if_neg (by omega), if_pos w1] | rw [if_neg (by omega), if_neg (by omega), if_neg (by omega), if_pos w1] | rw [if_neg (by omega), if_neg (by omega), if_pos w1] | rw [if_neg (by omega), if_pos w1] | rw [if_pos w1] | rw [if_neg (by omega), if_neg (by omega), if_neg (by omega), if_neg (by omega), if_neg (by omega), if_neg (by omega), if_neg (by omega), if_neg (by omega), if_neg (by omega)], hA, FrI.rf⟩)
  · refine x_tabOut (tgt := 105) hC dX7_count_1 (by omega) (by omega) (by decide) ?_
    refine x_iconst (pc' := 106) hC dX7_count_105 rfl ?_
    exact x_iret hC dX7_count_106 (xI.mk ⟨by unfold aCount; first | rw [if_neg (by omega), if_neg (by omega), if_neg (by omega), if_neg (by omega), if_neg (by omega), if_neg (by omega), if_neg (by omega), if_neg (by omega), if_pos w1] | rw [if_neg (by omega), if_neg (by omega), if_neg (by omega), if_neg (by omega), if_neg (by omega), if_neg (by omega), if_neg (by omega), if_pos w1] | rw [if_neg (by omega), if_neg (by omega), if_neg (by omega), if_neg (by omega), if_neg (by omega), if_neg (by omega), if_pos w1] | rw [if_neg (by omega), if_neg (by omega), if_neg (by omega), if_neg (by omega), if_neg (by omega), if_pos w1] | rw [if_neg (by omega), if_neg (by omega), if_neg (by omega), if_neg (by omega), if_pos w1] | rw [if_neg (by omega), if_neg (by omega), if_neg (by omega), if_pos w1] | rw [if_neg (by omega), if_neg (by omega), if_pos w1] | rw [if_neg (by omega), if_pos w1] | rw [if_pos w1] | rw [if_neg (by omega), if_neg (by omega), if_neg (by omega), if_neg (by omega), if_neg (by omega), if_neg (by omega), if_neg (by omega), if_neg (by omega), if_neg (by omega)], hA, FrI.rf⟩)
set_option maxRecDepth 100000 in
set_option maxHeartbeats 4000000 in
theorem q_cabinet {g : xG} {l : Launch} {S : List xS} {μ : xM} {T r : Int → Int} {nt : Int} {tx : Int → Int} {un kp : List (Int → Int)} {sl : List (Int × Int)} {w : Int} (hM : xPreM S) (hA : RM μ T r nt tx un kp sl) (hF : WF T r un kp) (hw : -2147483648 ≤ w ∧ w < 2147483648) : xCt g l yX7_cabinet cX7_cabinet 5 (some .int) 2 44 0 0 [vR g 81, vI w] S μ S (xI (fun a μ' => a = aCab T r w ∧ RM μ' T r nt tx un kp sl ∧ FrI 81 92 μ μ')) := by
  refine x_enter (by decide) (Nat.le_of_ble_eq_true rfl) ?_
  intro zp ze zs zm za zb zh zc hC hz0
  have hT := hF.1
  have hR := hF.2.1.1
  have hy := hF.2.1.2
  have t0 := hT.1
  have t1 := hT.2.1
  have t2 := hT.2.2.1
  have t3 := hT.2.2.2.1
  have hQ := hA.2.1
  have hN := hA.2.2.1
  obtain ⟨⟨m0, m1, m2, m3⟩, m4⟩ := hA.2.1
  have z9 := allSet_rg hT
  have z8 : iShl 1 (T 3) - 1 = allSet T := rfl
  have q0 := cabF_rg (T := T) (r := r) (k := (allSet T).toNat) z9 (by omega)
  have q00 : 0 ≤ cab T r ∧ cab T r ≤ 127 := q0
  have loop : ∀ (zn : Nat) (k : Nat) (i be : Int) (c7 : 0 ≤ w ∧ w ≤ 1) (hi : i = k) (hk0 : 1 ≤ k) (hk : (k : Int) ≤ allSet T) (hbe : be = cabF T r (allSet T) k), (allSet T).toNat - k < zn → xX g 5 zp l ze { frames := 2, cells := 0, slots := 0, locals := 44 } zs zm za zb zh zc 0 0 (MQ zb (xQ g S (xI (fun a μ' => a = aCab T r w ∧ RM μ' T r nt tx un kp sl ∧ FrI 81 92 μ μ'))) za zs 0 0 (xA0 g)) S μ 28 [some (vR g 81), some (vI w), some (vI (allSet T)), some (vI be), some (vI i)] [] := by
    intro zn
    induction zn with
    | zero => intros; rename_i hz; exact absurd hz (Nat.not_lt_zero _)
    | succ zn ih =>
      intro k i be c7 hi hk0 hk hbe hn
      subst hi
      have q1 := cabF_rg (T := T) (r := r) (k := k) z9 hk
      have q2 := bcF_pop (a := be) (by omega)
      have q3 := wgt_rg (z := (k : Int)) hT hR (T 3).toNat (by omega)
      have q4 := wgt_rg (z := allSet T) hT hR (T 3).toNat (by omega)
      have q5 := bcF_pop (a := (k : Int)) (by omega)
      refine x_iload (pc' := 30) hC dX7_cabinet_28 rfl rfl ?_
      refine x_iload_n (pc' := 31) hC dX7_cabinet_30 rfl rfl ?_
      refine x_icmp_ge (tgt := 75) (pc' := 34) hC dX7_cabinet_31 (by decide) rfl (by omega) (by omega) (fun c31 => ?_) (fun c31 => ?_)
      · have ek : be = cab T r := by rw [hbe]; unfold cab; rw [show (allSet T).toNat = k by omega]
        refine x_iload_n (pc' := 76) hC dX7_cabinet_75 rfl rfl ?_
        refine x_if_ne (tgt := 86) (pc' := 79) hC dX7_cabinet_76 (by decide) rfl (by omega) (fun c76 => ?_) (fun c76 => ?_)
        · refine x_iload_n (pc' := 87) hC dX7_cabinet_86 rfl rfl ?_
          exact x_iret hC dX7_cabinet_87 (xI.mk ⟨by unfold aCab; rw [if_pos c7]; first | rw [if_pos c76, ek] | rw [if_neg c76, ek], hA, FrI.rf⟩)
        · refine x_iload_n (pc' := 80) hC dX7_cabinet_79 rfl rfl ?_
          refine x_callS (pc' := 83) (n := 1) hC (m_ones (by omega)) ky_X7_ones ks_X7_ones kl_X7_163 dX7_cabinet_80 rfl rfl ⟨Nat.le_of_ble_eq_true rfl, Nat.le_of_ble_eq_true rfl⟩ (Nat.le_of_ble_eq_true rfl) ⟨Nat.le_refl _, Nat.le_refl _⟩ (Or.inl rfl) rfl (x_kd ?_)
          refine x_goto (tgt := 87) hC dX7_cabinet_83 (by decide) ?_
          exact x_iret hC dX7_cabinet_87 (xI.mk ⟨by unfold aCab; rw [if_pos c7]; first | rw [if_pos c76, ek] | rw [if_neg c76, ek], hA, FrI.rf⟩)
      · refine x_iload (pc' := 36) hC dX7_cabinet_34 rfl rfl ?_
        refine x_callS (pc' := 39) (n := 1) hC (m_ones (by omega)) ky_X7_ones ks_X7_ones kl_X7_163 dX7_cabinet_36 rfl rfl ⟨Nat.le_of_ble_eq_true rfl, Nat.le_of_ble_eq_true rfl⟩ (Nat.le_of_ble_eq_true rfl) ⟨Nat.le_refl _, Nat.le_refl _⟩ (Or.inl rfl) rfl (x_kd ?_)
        refine x_iload_n (pc' := 40) hC dX7_cabinet_39 rfl rfl ?_
        refine x_callS (pc' := 43) (n := 1) hC (m_ones (by omega)) ky_X7_ones ks_X7_ones kl_X7_163 dX7_cabinet_40 rfl rfl ⟨Nat.le_of_ble_eq_true rfl, Nat.le_of_ble_eq_true rfl⟩ (Nat.le_of_ble_eq_true rfl) ⟨Nat.le_refl _, Nat.le_refl _⟩ (Or.inl rfl) rfl (x_kd ?_)
        refine x_icmp_ge (tgt := 67) (pc' := 46) hC dX7_cabinet_43 (by decide) rfl (by omega) (by omega) (fun c43 => ?_) (fun c43 => ?_)
        · refine x_iload_n (pc' := 68) hC dX7_cabinet_67 rfl rfl ?_
          refine x_istore_n (pc' := 69) hC dX7_cabinet_68 (by decide) rfl rfl ?_
          refine x_iinc (pc' := 72) hC dX7_cabinet_69 rfl (by decide) rfl rfl ?_
          refine x_goto (tgt := 28) hC dX7_cabinet_72 (by decide) ?_
          exact ih (k + 1) _ _ c7 (by omega) (by omega) (by omega) (by rw [cabF]; subst hbe; first | rw [if_pos ⟨by omega, by omega⟩] | rw [if_neg (fun z => by omega)]) (by omega)
        · refine x_iconst (pc' := 47) hC dX7_cabinet_46 rfl ?_
          refine x_aload_n (pc' := 48) hC dX7_cabinet_47 rfl rfl ?_
          refine x_iload (pc' := 50) hC dX7_cabinet_48 rfl rfl ?_
          refine x_callV (pc' := 53) (n := 1) hC (m_weight hM hT hR hQ hN) ky_X7_weight kv_X7_weight kl_X7_166 dX7_cabinet_50 (hM 0 _ rfl) rfl rfl rfl rfl ⟨Nat.le_of_ble_eq_true rfl, Nat.le_of_ble_eq_true rfl⟩ (Nat.le_of_ble_eq_true rfl) ⟨Nat.le_refl _, Nat.le_refl _⟩ (Or.inl rfl) rfl (x_kd ?_)
          refine x_imul (pc' := 54) hC dX7_cabinet_53 rfl ?_
          refine x_aload_n (pc' := 55) hC dX7_cabinet_54 rfl rfl ?_
          refine x_iload_n (pc' := 56) hC dX7_cabinet_55 rfl rfl ?_
          refine x_callV (pc' := 59) (n := 1) hC (m_weight hM hT hR hQ hN) ky_X7_weight kv_X7_weight kl_X7_166 dX7_cabinet_56 (hM 0 _ rfl) rfl rfl rfl rfl ⟨Nat.le_of_ble_eq_true rfl, Nat.le_of_ble_eq_true rfl⟩ (Nat.le_of_ble_eq_true rfl) ⟨Nat.le_refl _, Nat.le_refl _⟩ (Or.inl rfl) rfl (x_kd ?_)
          refine x_icmp_le (tgt := 67) (pc' := 62) hC dX7_cabinet_59 (by decide) rfl (by omega) (by omega) (fun c59 => ?_) (fun c59 => ?_)
          · refine x_iload_n (pc' := 68) hC dX7_cabinet_67 rfl rfl ?_
            refine x_istore_n (pc' := 69) hC dX7_cabinet_68 (by decide) rfl rfl ?_
            refine x_iinc (pc' := 72) hC dX7_cabinet_69 rfl (by decide) rfl rfl ?_
            refine x_goto (tgt := 28) hC dX7_cabinet_72 (by decide) ?_
            exact ih (k + 1) _ _ c7 (by omega) (by omega) (by omega) (by rw [cabF]; subst hbe; first | rw [if_pos ⟨by omega, by omega⟩] | rw [if_neg (fun z => by omega)]) (by omega)
          · refine x_iload (pc' := 64) hC dX7_cabinet_62 rfl rfl ?_
            refine x_goto (tgt := 68) hC dX7_cabinet_64 (by decide) ?_
            refine x_istore_n (pc' := 69) hC dX7_cabinet_68 (by decide) rfl rfl ?_
            refine x_iinc (pc' := 72) hC dX7_cabinet_69 rfl (by decide) rfl rfl ?_
            refine x_goto (tgt := 28) hC dX7_cabinet_72 (by decide) ?_
            exact ih (k + 1) _ _ c7 (by omega) (by omega) (by omega) (by rw [cabF]; subst hbe; first | rw [if_pos ⟨by omega, by omega⟩] | rw [if_neg (fun z => by omega)]) (by omega)
  refine x_iload_n (pc' := 1) hC dX7_cabinet_0 rfl rfl ?_
  refine x_i2l (pc' := 2) hC dX7_cabinet_1 (by omega) rfl ?_
  refine x_lconst (pc' := 3) (a := 0) hC dX7_cabinet_2 (by decide) rfl ?_
  refine x_lconst (pc' := 4) (a := 1) hC dX7_cabinet_3 (by decide) rfl ?_
  refine x_callS (pc' := 7) (n := 3) hC (m_in (by omega) (by omega) (by omega)) ky_X7_in ks_X7_in kl_X7_58 dX7_cabinet_4 rfl rfl ⟨Nat.le_of_ble_eq_true rfl, Nat.le_of_ble_eq_true rfl⟩ (Nat.le_of_ble_eq_true rfl) ⟨Nat.le_refl _, Nat.le_refl _⟩ (Or.inl rfl) rfl (x_kd ?_)
  refine x_ifb_ne (tgt := 12) (pc' := 10) hC dX7_cabinet_7 (by decide) rfl (fun c7 => ?_) (fun c7 => ?_)
  · refine x_iconst (pc' := 13) hC dX7_cabinet_12 rfl ?_
    refine x_aload_n (pc' := 14) hC dX7_cabinet_13 rfl rfl ?_
    refine x_getR (pc' := 17) (b := 83) hC kf_X7_13 dX7_cabinet_14 (hM 0 _ rfl) rfl rfl ?_
    refine x_iconst (pc' := 18) hC dX7_cabinet_17 rfl ?_
    refine x_iald (pc' := 19) hC dX7_cabinet_18 (hM 2 _ rfl) (by omega) (by decide) rfl ?_
    rw [m3]
    refine x_ishl (pc' := 20) hC dX7_cabinet_19 rfl ?_
    refine x_iconst (pc' := 21) hC dX7_cabinet_20 rfl ?_
    refine x_isub (pc' := 22) hC dX7_cabinet_21 rfl ?_
    rw [z8]
    refine x_istore_n (pc' := 23) hC dX7_cabinet_22 (by decide) rfl rfl ?_
    refine x_iload_n (pc' := 24) hC dX7_cabinet_23 rfl rfl ?_
    refine x_istore_n (pc' := 25) hC dX7_cabinet_24 (by decide) rfl rfl ?_
    refine x_iconst (pc' := 26) hC dX7_cabinet_25 rfl ?_
    refine x_istore (pc' := 28) hC dX7_cabinet_26 (by decide) rfl rfl ?_
    exact loop ((allSet T).toNat + 1) 1 _ _ c7 rfl (by omega) (by omega) (by have q4 := wgt_rg (z := allSet T) hT hR (T 3).toNat (by omega); rw [cabF, if_neg (fun z => by have e := wgt_0 (r := r) (T 3).toNat (by omega); have z1 := z.1; rw [show (((0 : Nat) : Int)) = 0 by rfl, e] at z1; omega)]; rfl) (by omega)
  · refine x_iconst (pc' := 11) hC dX7_cabinet_10 rfl ?_
    exact x_iret hC dX7_cabinet_11 (xI.mk ⟨by unfold aCab; rw [if_neg (by omega)], hA, FrI.rf⟩)
set_option maxRecDepth 100000 in
set_option maxHeartbeats 4000000 in
theorem q_seen {g : xG} {l : Launch} {S : List xS} {μ : xM} {T r : Int → Int} {nt : Int} {tx : Int → Int} {un kp : List (Int → Int)} {sl : List (Int × Int)} {m x : Int} (hM : xPreM S) (hA : RM μ T r nt tx un kp sl) (hF : WF T r un kp) (hm : -2147483648 ≤ m ∧ m < 2147483648) (hx : -2147483648 ≤ x ∧ x < 2147483648) : xCt g l yX7_seen cX7_seen 3 (some .int) 2 46 0 0 [vR g 81, vI m, vI x] S μ S (xI (fun a μ' => a = aSeen T sl m x ∧ (okSeen T sl m x → RM μ' T r nt tx un kp (sl ++ [(m, x)])) ∧ (¬ okSeen T sl m x → RM μ' T r nt tx un kp sl) ∧ FrI 81 92 μ μ')) := by
  refine x_enter (by decide) (Nat.le_of_ble_eq_true rfl) ?_
  intro zp ze zs zm za zb zh zc hC hz0
  have hT := hF.1
  have hR := hF.2.1.1
  have hy := hF.2.1.2
  have t0 := hT.1
  have t1 := hT.2.1
  have t2 := hT.2.2.1
  have t3 := hT.2.2.2.1
  have hQ := hA.2.1
  have hN := hA.2.2.1
  obtain ⟨⟨m0, m1, m2, m3⟩, m4⟩ := hA.2.1
  have e1 := hA.2.2.2.2.2.1
  have e2 := hA.2.2.2.2.2.2.1
  refine x_aload_n (pc' := 1) hC dX7_seen_0 rfl rfl ?_
  refine x_iload_n (pc' := 2) hC dX7_seen_1 rfl rfl ?_
  refine x_callV (pc' := 5) (n := 1) hC (m_isOne hM hT hQ (by omega)) ky_X7_isOne kv_X7_isOne kl_X7_131 dX7_seen_2 (hM 0 _ rfl) rfl rfl rfl rfl ⟨Nat.le_of_ble_eq_true rfl, Nat.le_of_ble_eq_true rfl⟩ (Nat.le_of_ble_eq_true rfl) ⟨Nat.le_refl _, Nat.le_refl _⟩ (Or.inl rfl) rfl (x_kd ?_)
  refine x_ifb_eq (tgt := 16) (pc' := 8) hC dX7_seen_5 (by decide) rfl (fun c5 => ?_) (fun c5 => ?_)
  · refine x_iconst (pc' := 17) hC dX7_seen_16 rfl ?_
    exact x_iret hC dX7_seen_17 (xI.mk ⟨by unfold aSeen; rw [if_neg (by omega)], fun z => absurd z.1 (by omega), fun _ => hA, FrI.rf⟩)
  · refine x_aload_n (pc' := 9) hC dX7_seen_8 rfl rfl ?_
    refine x_iload_n (pc' := 10) hC dX7_seen_9 rfl rfl ?_
    refine x_callV (pc' := 13) (n := 1) hC (m_isStep hM hT hQ (by omega)) ky_X7_isStep kv_X7_isStep kl_X7_139 dX7_seen_10 (hM 0 _ rfl) rfl rfl rfl rfl ⟨Nat.le_of_ble_eq_true rfl, Nat.le_of_ble_eq_true rfl⟩ (Nat.le_of_ble_eq_true rfl) ⟨Nat.le_refl _, Nat.le_refl _⟩ (Or.inl rfl) rfl (x_kd ?_)
    refine x_ifb_ne (tgt := 18) (pc' := 16) hC dX7_seen_13 (by decide) rfl (fun c13 => ?_) (fun c13 => ?_)
    · refine x_aload_n (pc' := 19) hC dX7_seen_18 rfl rfl ?_
      refine x_getI (j' := 13) (pc' := 22) hC kf_X7_98 dX7_seen_19 (hM 0 _ rfl) rfl rfl rfl ?_
      rw [e1]
      refine x_bipush (pc' := 24) hC dX7_seen_22 (by decide) rfl ?_
      refine x_icmp_ne (tgt := 30) (pc' := 27) hC dX7_seen_24 (by decide) rfl (by omega) (by omega) (fun c24 => ?_) (fun c24 => ?_)
      · refine x_aload_n (pc' := 31) hC dX7_seen_30 rfl rfl ?_
        refine x_getR (pc' := 34) (b := 90) hC kf_X7_34 dX7_seen_31 (hM 0 _ rfl) rfl rfl ?_
        refine x_iconst (pc' := 35) hC dX7_seen_34 rfl ?_
        refine x_aload_n (pc' := 36) hC dX7_seen_35 rfl rfl ?_
        refine x_getI (j' := 13) (pc' := 39) hC kf_X7_98 dX7_seen_36 (hM 0 _ rfl) rfl rfl rfl ?_
        rw [e1]
        refine x_imul (pc' := 40) hC dX7_seen_39 rfl ?_
        refine x_iload_n (pc' := 41) hC dX7_seen_40 rfl rfl ?_
        refine x_iast (pc' := 42) hC dX7_seen_41 (hM 9 _ rfl) (by omega) (by omega) rfl ?_
        refine x_aload_n (pc' := 43) hC dX7_seen_42 rfl rfl ?_
        refine x_getR (pc' := 46) (b := 90) hC kf_X7_34 dX7_seen_43 (hM 0 _ rfl) rfl rfl ?_
        refine x_iconst (pc' := 47) hC dX7_seen_46 rfl ?_
        refine x_aload_n (pc' := 48) hC dX7_seen_47 rfl rfl ?_
        refine x_getI (j' := 13) (pc' := 51) hC kf_X7_98 dX7_seen_48 (hM 0 _ rfl) rfl rfl rfl ?_
        rw [xU_nk (by omega), e1]
        refine x_imul (pc' := 52) hC dX7_seen_51 rfl ?_
        refine x_iconst (pc' := 53) hC dX7_seen_52 rfl ?_
        refine x_iadd (pc' := 54) hC dX7_seen_53 rfl ?_
        refine x_iload_n (pc' := 55) hC dX7_seen_54 rfl rfl ?_
        refine x_iast (pc' := 56) hC dX7_seen_55 (hM 9 _ rfl) (by omega) (by omega) rfl ?_
        refine x_aload_n (pc' := 57) hC dX7_seen_56 rfl rfl ?_
        refine x_dup (pc' := 58) hC dX7_seen_57 rfl rfl ?_
        refine x_getI (j' := 13) (pc' := 61) hC kf_X7_98 dX7_seen_58 (hM 0 _ rfl) rfl rfl rfl ?_
        rw [xU_nk (by omega), xU_nk (by omega), e1]
        refine x_iconst (pc' := 62) hC dX7_seen_61 rfl ?_
        refine x_iadd (pc' := 63) hC dX7_seen_62 rfl ?_
        refine x_putI (j' := 13) (pc' := 66) hC kf_X7_98 dX7_seen_63 (hM 0 _ rfl) rfl rfl rfl rfl rfl ?_
        refine x_aload_n (pc' := 67) hC dX7_seen_66 rfl rfl ?_
        refine x_getI (j' := 13) (pc' := 70) hC kf_X7_98 dX7_seen_67 (hM 0 _ rfl) rfl rfl rfl ?_
        rw [xU_at2]
        exact x_iret hC dX7_seen_70 (xI.mk (by
      have hl : sl.length < 6 := by omega
      have f : FrK 90 13 μ (xU (xU (xU μ 90 (2 * (sl.length : Int)) m) 90 (2 * (sl.length : Int) + 1) x) 81 13 ((sl.length : Int) + 1)) := FrK_rf.uc.uc.us
      exact ⟨by unfold aSeen; rw [if_pos ⟨c5, c13⟩, if_pos hl], fun _ => ⟨hA.1.K f (by omega), hA.2.1.K f (by omega), hA.2.2.1.K f (by omega), hA.2.2.2.1.K f (by omega), hA.2.2.2.2.1.K f (by omega), hA.2.2.2.2.2.add hl c5 c13⟩, fun z => absurd ⟨⟨c5, c13⟩, hl⟩ z, f.I (by omega)⟩))
      · refine x_bipush (pc' := 29) hC dX7_seen_27 (by decide) rfl ?_
        exact x_iret hC dX7_seen_29 (xI.mk ⟨by unfold aSeen; rw [if_pos ⟨c5, c13⟩, if_neg (by omega)], fun z => absurd z.2 (by omega), fun _ => hA, FrI.rf⟩)
    · refine x_iconst (pc' := 17) hC dX7_seen_16 rfl ?_
      exact x_iret hC dX7_seen_17 (xI.mk ⟨by unfold aSeen; rw [if_neg (by omega)], fun z => absurd z.1 (by omega), fun _ => hA, FrI.rf⟩)
