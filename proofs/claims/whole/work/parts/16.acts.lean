set_option maxRecDepth 100000 in
set_option maxHeartbeats 4000000 in
theorem c_within {g : xG} {l : Launch} {S : List xS} {μ : xM} {a b c : Int} (ha : -2147483648 ≤ a ∧ a < 2147483648) (hb : -2147483648 ≤ b ∧ b < 2147483648) (hc : -2147483648 ≤ c ∧ c < 2147483648) : xCt g l yX6_within cX6_within 3 (some .boolean) 0 0 0 0 [vI a, vI b, vI c] S μ S (xI (fun x μ' => x = (if b ≤ a ∧ a ≤ c then 1 else 0) ∧ μ' = μ)) := by
  refine x_enter (by decide) (Nat.le_of_ble_eq_true rfl) ?_
  intro zp ze zs zm za zb zh zc hC hz0
  refine x_iload_n (pc' := 1) hC dX6_within_0 rfl rfl ?_
  refine x_iload_n (pc' := 2) hC dX6_within_1 rfl rfl ?_
  refine x_icmp_lt (tgt := 14) (pc' := 5) hC dX6_within_2 (by decide) rfl (by omega) (by omega) (fun c2 => ?_) (fun c2 => ?_)
  · refine x_iconst (pc' := 15) hC dX6_within_14 rfl ?_
    exact x_zret hC dX6_within_15 (by first | exact Or.inl rfl | exact Or.inr rfl | omega) (xI.mk ⟨by first | rw [if_pos (by omega)] | rw [if_neg (by omega)], rfl⟩)
  · refine x_iload_n (pc' := 6) hC dX6_within_5 rfl rfl ?_
    refine x_iload_n (pc' := 7) hC dX6_within_6 rfl rfl ?_
    refine x_icmp_gt (tgt := 14) (pc' := 10) hC dX6_within_7 (by decide) rfl (by omega) (by omega) (fun c7 => ?_) (fun c7 => ?_)
    · refine x_iconst (pc' := 15) hC dX6_within_14 rfl ?_
      exact x_zret hC dX6_within_15 (by first | exact Or.inl rfl | exact Or.inr rfl | omega) (xI.mk ⟨by first | rw [if_pos (by omega)] | rw [if_neg (by omega)], rfl⟩)
    · refine x_iconst (pc' := 11) hC dX6_within_10 rfl ?_
      refine x_goto (tgt := 15) hC dX6_within_11 (by decide) ?_
      exact x_zret hC dX6_within_15 (by first | exact Or.inl rfl | exact Or.inr rfl | omega) (xI.mk ⟨by first | rw [if_pos (by omega)] | rw [if_neg (by omega)], rfl⟩)
set_option maxRecDepth 100000 in
set_option maxHeartbeats 4000000 in
theorem k_write {g : xG} {l : Launch} {S : List xS} {μ : xM} {T r : Int → Int} {nt : Int} {tx : Int → Int} {un kp : List (Int → Int)} {sl : List (Int × Int)} {c : Int} (hP : xPre S) (hA : RC μ T r nt tx un kp sl) (hF : WF T r un kp) (hc : -2147483648 ≤ c ∧ c < 2147483648) : xCt g l yX6_write cX6_write 2 (some .int) 1 22 0 0 [vR g 0, vI c] S μ S (xI (fun a μ' => a = aWrite nt c ∧ RC μ' T r (if okWrite nt c = true then nt + 1 else nt) (if okWrite nt c = true then up tx nt c else tx) un kp sl ∧ FrI 0 81 μ μ')) := by
  refine x_enter (by decide) (Nat.le_of_ble_eq_true rfl) ?_
  intro zp ze zs zm za zb zh zc hC hz0
  have hT := hF.1
  have hR := hF.2.1.1
  have hy := hF.2.1.2
  have t0 := hT.1
  have t1 := hT.2.1
  have t2 := hT.2.2.1
  have t3 := hT.2.2.2.1
  have hN := hA.2.1
  have hm := hN.mi
  have hs := hN.sp
  refine x_iload_n (pc' := 1) hC dX6_write_0 rfl rfl ?_
  refine x_bipush (pc' := 3) hC dX6_write_1 (by decide) rfl ?_
  refine x_bipush (pc' := 5) hC dX6_write_3 (by decide) rfl ?_
  refine x_callS (pc' := 8) (n := 3) hC (c_within (by omega) (by omega) (by omega)) ky_X6_within ks_X6_within kl_X6_84 dX6_write_5 rfl rfl ⟨Nat.le_of_ble_eq_true rfl, Nat.le_of_ble_eq_true rfl⟩ (Nat.le_of_ble_eq_true rfl) ⟨Nat.le_refl _, Nat.le_refl _⟩ (Or.inl rfl) rfl (x_kd ?_)
  refine x_ifb_ne (tgt := 13) (pc' := 11) hC dX6_write_8 (by decide) rfl (fun c8 => ?_) (fun c8 => ?_)
  · refine x_aload_n (pc' := 14) hC dX6_write_13 rfl rfl ?_
    refine x_getR (pc' := 17) (b := 1) hC kf_X6_10 dX6_write_14 (hP 0 _ rfl) rfl rfl ?_
    refine x_iload_n (pc' := 18) hC dX6_write_17 rfl rfl ?_
    refine x_i2c (pc' := 19) hC dX6_write_18 (by omega) rfl ?_
    refine x_callV (pc' := 22) (n := 1) hC (c_textAdd hP hA.1 (by omega)) ky_X5_add kv_X5_add kl_X6_73 dX6_write_19 (hP 1 _ rfl) rfl rfl rfl rfl ⟨Nat.le_of_ble_eq_true rfl, Nat.le_of_ble_eq_true rfl⟩ (Nat.le_of_ble_eq_true rfl) ⟨Nat.le_refl _, Nat.le_refl _⟩ (Or.inl rfl) rfl (x_kv (fun μ19 h19 => ?_))
    refine x_ifb_eq (tgt := 35) (pc' := 25) hC dX6_write_22 (by decide) rfl (fun c22 => ?_) (fun c22 => ?_)
    · refine x_bipush (pc' := 37) hC dX6_write_35 (by decide) rfl ?_
      exact x_iret hC dX6_write_37 (xI.mk (by first
      | (refine ⟨by unfold aWrite; rw [if_pos (by omega), if_pos (by omega)], ?_, h19.1.mono (by omega) (by omega)⟩
         rw [if_pos (by simp [okWrite]; omega), if_pos (by simp [okWrite]; omega)]
         exact ⟨h19.2.1 (by omega), hA.2.1.frI h19.1 (by omega) (by omega), hA.2.2.1.frI (Or.inr rfl) h19.1 (by omega), hA.2.2.2.1.frI (Or.inl rfl) h19.1 (by omega), hA.2.2.2.2.frI h19.1 (by omega)⟩)
      | (refine ⟨by unfold aWrite; rw [if_pos (by omega), if_neg (by omega)], ?_, h19.1.mono (by omega) (by omega)⟩
         rw [if_neg (by simp [okWrite]; omega), if_neg (by simp [okWrite]; omega), h19.2.2 (by omega)]
         exact hA)))
    · refine x_aload_n (pc' := 26) hC dX6_write_25 rfl rfl ?_
      refine x_getR (pc' := 29) (b := 1) hC kf_X6_10 dX6_write_26 (hP 0 _ rfl) rfl rfl ?_
      refine x_getI (j' := 1) (pc' := 32) hC kf_X6_81 dX6_write_29 (hP 1 _ rfl) rfl rfl rfl ?_
      rw [(h19.2.1 c22).1]
      refine x_goto (tgt := 37) hC dX6_write_32 (by decide) ?_
      exact x_iret hC dX6_write_37 (xI.mk (by first
      | (refine ⟨by unfold aWrite; rw [if_pos (by omega), if_pos (by omega)], ?_, h19.1.mono (by omega) (by omega)⟩
         rw [if_pos (by simp [okWrite]; omega), if_pos (by simp [okWrite]; omega)]
         exact ⟨h19.2.1 (by omega), hA.2.1.frI h19.1 (by omega) (by omega), hA.2.2.1.frI (Or.inr rfl) h19.1 (by omega), hA.2.2.2.1.frI (Or.inl rfl) h19.1 (by omega), hA.2.2.2.2.frI h19.1 (by omega)⟩)
      | (refine ⟨by unfold aWrite; rw [if_pos (by omega), if_neg (by omega)], ?_, h19.1.mono (by omega) (by omega)⟩
         rw [if_neg (by simp [okWrite]; omega), if_neg (by simp [okWrite]; omega), h19.2.2 (by omega)]
         exact hA)))
  · refine x_iconst (pc' := 12) hC dX6_write_11 rfl ?_
    exact x_iret hC dX6_write_12 (xI.mk ⟨by unfold aWrite; rw [if_neg c8], by rw [if_neg (by simp [okWrite]; omega), if_neg (by simp [okWrite]; omega)]; exact hA, FrI.rf⟩)
set_option maxRecDepth 100000 in
set_option maxHeartbeats 4000000 in
theorem k_wipe {g : xG} {l : Launch} {S : List xS} {μ : xM} {T r : Int → Int} {nt : Int} {tx : Int → Int} {un kp : List (Int → Int)} {sl : List (Int × Int)} (hP : xPre S) (hA : RC μ T r nt tx un kp sl) (hF : WF T r un kp) : xCt g l yX6_wipe cX6_wipe 2 (some .int) 0 0 0 0 [vR g 0] S μ S (xI (fun a μ' => a = nt ∧ RC μ' T r 0 tx un kp sl ∧ FrI 0 81 μ μ')) := by
  refine x_enter (by decide) (Nat.le_of_ble_eq_true rfl) ?_
  intro zp ze zs zm za zb zh zc hC hz0
  have hT := hF.1
  have hR := hF.2.1.1
  have hy := hF.2.1.2
  have t0 := hT.1
  have t1 := hT.2.1
  have t2 := hT.2.2.1
  have t3 := hT.2.2.2.1
  have hN := hA.2.1
  have hm := hN.mi
  have hs := hN.sp
  refine x_aload_n (pc' := 1) hC dX6_wipe_0 rfl rfl ?_
  refine x_getR (pc' := 4) (b := 1) hC kf_X6_10 dX6_wipe_1 (hP 0 _ rfl) rfl rfl ?_
  refine x_getI (j' := 1) (pc' := 7) hC kf_X6_81 dX6_wipe_4 (hP 1 _ rfl) rfl rfl rfl ?_
  rw [hA.1.1]
  refine x_istore_n (pc' := 8) hC dX6_wipe_7 (by decide) rfl rfl ?_
  refine x_aload_n (pc' := 9) hC dX6_wipe_8 rfl rfl ?_
  refine x_getR (pc' := 12) (b := 1) hC kf_X6_10 dX6_wipe_9 (hP 0 _ rfl) rfl rfl ?_
  refine x_iconst (pc' := 13) hC dX6_wipe_12 rfl ?_
  refine x_putI (j' := 1) (pc' := 16) hC kf_X6_81 dX6_wipe_13 (hP 1 _ rfl) rfl rfl rfl rfl rfl ?_
  refine x_iload_n (pc' := 17) hC dX6_wipe_16 rfl rfl ?_
  exact x_iret hC dX6_wipe_17 (xI.mk ⟨rfl, ⟨⟨xU_at2, by omega, by omega, fun j j0 j1 => absurd j1 (by omega)⟩, hA.2.1.frI (lo := 1) (hi := 2) (FrI.rf.u (by omega)) (by omega) (by omega), hA.2.2.1.frI (lo := 1) (hi := 2) (Or.inr rfl) (FrI.rf.u (by omega)) (by omega), hA.2.2.2.1.frI (lo := 1) (hi := 2) (Or.inl rfl) (FrI.rf.u (by omega)) (by omega), hA.2.2.2.2.frI (lo := 1) (hi := 2) (FrI.rf.u (by omega)) (by omega)⟩, FrI.rf.u (by omega)⟩)
set_option maxRecDepth 100000 in
set_option maxHeartbeats 4000000 in
theorem k_minister {g : xG} {l : Launch} {S : List xS} {μ : xM} {T r : Int → Int} {nt : Int} {tx : Int → Int} {un kp : List (Int → Int)} {sl : List (Int × Int)} {m w : Int} (hP : xPre S) (hA : RC μ T r nt tx un kp sl) (hF : WF T r un kp) (hm : -2147483648 ≤ m ∧ m < 2147483648) (hw : -2147483648 ≤ w ∧ w < 2147483648) : xCt g l yX6_minister cX6_minister 3 (some .int) 2 44 0 0 [vR g 0, vI m, vI w] S μ S (xI (fun a μ' => a = aMin T r m w ∧ RC μ' T r nt tx un kp sl ∧ FrI 0 81 μ μ')) := by
  refine x_enter (by decide) (Nat.le_of_ble_eq_true rfl) ?_
  intro zp ze zs zm za zb zh zc hC hz0
  have hT := hF.1
  have hR := hF.2.1.1
  have hy := hF.2.1.2
  have t0 := hT.1
  have t1 := hT.2.1
  have t2 := hT.2.2.1
  have t3 := hT.2.2.2.1
  have hN := hA.2.1
  have hm := hN.mi
  have hs := hN.sp
  refine x_aload_n (pc' := 1) hC dX6_minister_0 rfl rfl ?_
  refine x_getR (pc' := 4) (b := 12) hC kf_X6_26 dX6_minister_1 (hP 0 _ rfl) rfl rfl ?_
  refine x_iload_n (pc' := 5) hC dX6_minister_4 rfl rfl ?_
  refine x_callV (pc' := 8) (n := 1) hC (c_hasMinister (T := T) (sPl hP) hN.1 hT (by omega)) ky_X0_hasMinister kv_X0_hasMinister kl_X6_95 dX6_minister_5 (hP 12 _ rfl) rfl rfl rfl rfl ⟨Nat.le_of_ble_eq_true rfl, Nat.le_of_ble_eq_true rfl⟩ (Nat.le_of_ble_eq_true rfl) ⟨Nat.le_refl _, Nat.le_refl _⟩ (Or.inl rfl) rfl (x_kd ?_)
  refine x_ifb_ne (tgt := 13) (pc' := 11) hC dX6_minister_8 (by decide) rfl (fun c8 => ?_) (fun c8 => ?_)
  · have q3 := lack_rg hT hR c8
    refine x_iload_n (pc' := 14) hC dX6_minister_13 rfl rfl ?_
    have w14 : w = 0 ∨ w = 1 ∨ w = 2 ∨ w = 3 ∨ w = 4 ∨ (w < 0 ∨ 4 < w) := by omega
    rcases w14 with w14 | w14 | w14 | w14 | w14 | w14
    · refine x_tabIn (off := 34) (tgt := 48) hC dX6_minister_14 (by omega) (by omega) (by rw [w14]; rfl) (by decide) ?_
      refine x_aload_n (pc' := 49) hC dX6_minister_48 rfl rfl ?_
      refine x_getR (pc' := 52) (b := 12) hC kf_X6_26 dX6_minister_49 (hP 0 _ rfl) rfl rfl ?_
      refine x_getR (pc' := 55) (b := 13) hC kf_X6_99 dX6_minister_52 (hP 12 _ rfl) rfl rfl ?_
      refine x_iload_n (pc' := 56) hC dX6_minister_55 rfl rfl ?_
      refine x_iald (pc' := 57) hC dX6_minister_56 (hP 13 _ rfl) (by omega) (by decide) rfl ?_
      rw [hN.kd c8.1 c8.2]
      exact x_iret hC dX6_minister_57 (xI.mk ⟨by unfold aMin; first | rw [if_neg c8] | (rw [if_pos c8]; first | rw [if_neg (by omega), if_neg (by omega), if_neg (by omega), if_neg (by omega), if_neg (by omega)] | (rw [if_neg (by omega), if_neg (by omega), if_neg (by omega), if_neg (by omega), if_pos w14]; first | rw [if_pos (by omega)] | rw [if_neg (by omega)]) | rw [if_neg (by omega), if_neg (by omega), if_neg (by omega), if_pos w14] | rw [if_neg (by omega), if_neg (by omega), if_pos w14] | rw [if_neg (by omega), if_pos w14] | rw [if_pos w14]), hA, FrI.rf⟩)
    · refine x_tabIn (off := 44) (tgt := 58) hC dX6_minister_14 (by omega) (by omega) (by rw [w14]; rfl) (by decide) ?_
      refine x_aload_n (pc' := 59) hC dX6_minister_58 rfl rfl ?_
      refine x_getR (pc' := 62) (b := 14) hC kf_X6_35 dX6_minister_59 (hP 0 _ rfl) rfl rfl ?_
      refine x_getR (pc' := 65) (b := 16) hC kf_X6_103 dX6_minister_62 (hP 14 _ rfl) rfl rfl ?_
      refine x_iload_n (pc' := 66) hC dX6_minister_65 rfl rfl ?_
      refine x_iald (pc' := 67) hC dX6_minister_66 (hP 16 _ rfl) (by omega) (by decide) rfl ?_
      rw [hN.pc c8.1 (by omega)]
      exact x_iret hC dX6_minister_67 (xI.mk ⟨by unfold aMin; first | rw [if_neg c8] | (rw [if_pos c8]; first | rw [if_neg (by omega), if_neg (by omega), if_neg (by omega), if_neg (by omega), if_neg (by omega)] | (rw [if_neg (by omega), if_neg (by omega), if_neg (by omega), if_neg (by omega), if_pos w14]; first | rw [if_pos (by omega)] | rw [if_neg (by omega)]) | rw [if_neg (by omega), if_neg (by omega), if_neg (by omega), if_pos w14] | rw [if_neg (by omega), if_neg (by omega), if_pos w14] | rw [if_neg (by omega), if_pos w14] | rw [if_pos w14]), hA, FrI.rf⟩)
    · refine x_tabIn (off := 54) (tgt := 68) hC dX6_minister_14 (by omega) (by omega) (by rw [w14]; rfl) (by decide) ?_
      refine x_aload_n (pc' := 69) hC dX6_minister_68 rfl rfl ?_
      refine x_getR (pc' := 72) (b := 14) hC kf_X6_35 dX6_minister_69 (hP 0 _ rfl) rfl rfl ?_
      refine x_getR (pc' := 75) (b := 17) hC kf_X6_106 dX6_minister_72 (hP 14 _ rfl) rfl rfl ?_
      refine x_iload_n (pc' := 76) hC dX6_minister_75 rfl rfl ?_
      refine x_iald (pc' := 77) hC dX6_minister_76 (hP 17 _ rfl) (by omega) (by decide) rfl ?_
      rw [hN.gp c8.1 c8.2]
      exact x_iret hC dX6_minister_77 (xI.mk ⟨by unfold aMin; first | rw [if_neg c8] | (rw [if_pos c8]; first | rw [if_neg (by omega), if_neg (by omega), if_neg (by omega), if_neg (by omega), if_neg (by omega)] | (rw [if_neg (by omega), if_neg (by omega), if_neg (by omega), if_neg (by omega), if_pos w14]; first | rw [if_pos (by omega)] | rw [if_neg (by omega)]) | rw [if_neg (by omega), if_neg (by omega), if_neg (by omega), if_pos w14] | rw [if_neg (by omega), if_neg (by omega), if_pos w14] | rw [if_neg (by omega), if_pos w14] | rw [if_pos w14]), hA, FrI.rf⟩)
    · refine x_tabIn (off := 64) (tgt := 78) hC dX6_minister_14 (by omega) (by omega) (by rw [w14]; rfl) (by decide) ?_
      refine x_aload_n (pc' := 79) hC dX6_minister_78 rfl rfl ?_
      refine x_getR (pc' := 82) (b := 14) hC kf_X6_35 dX6_minister_79 (hP 0 _ rfl) rfl rfl ?_
      refine x_getR (pc' := 85) (b := 18) hC kf_X6_109 dX6_minister_82 (hP 14 _ rfl) rfl rfl ?_
      refine x_iload_n (pc' := 86) hC dX6_minister_85 rfl rfl ?_
      refine x_iald (pc' := 87) hC dX6_minister_86 (hP 18 _ rfl) (by omega) (by decide) rfl ?_
      rw [hN.rg c8.1 (by omega)]
      exact x_iret hC dX6_minister_87 (xI.mk ⟨by unfold aMin; first | rw [if_neg c8] | (rw [if_pos c8]; first | rw [if_neg (by omega), if_neg (by omega), if_neg (by omega), if_neg (by omega), if_neg (by omega)] | (rw [if_neg (by omega), if_neg (by omega), if_neg (by omega), if_neg (by omega), if_pos w14]; first | rw [if_pos (by omega)] | rw [if_neg (by omega)]) | rw [if_neg (by omega), if_neg (by omega), if_neg (by omega), if_pos w14] | rw [if_neg (by omega), if_neg (by omega), if_pos w14] | rw [if_neg (by omega), if_pos w14] | rw [if_pos w14]), hA, FrI.rf⟩)
    · refine x_tabIn (off := 74) (tgt := 88) hC dX6_minister_14 (by omega) (by omega) (by rw [w14]; rfl) (by decide) ?_
      refine x_aload_n (pc' := 89) hC dX6_minister_88 rfl rfl ?_
      refine x_getR (pc' := 92) (b := 14) hC kf_X6_35 dX6_minister_89 (hP 0 _ rfl) rfl rfl ?_
      refine x_iload_n (pc' := 93) hC dX6_minister_92 rfl rfl ?_
      refine x_callV (pc' := 96) (n := 1) hC (c_speedOf (sNow hP) hN hT hR c8) ky_X4_speedOf kv_X4_speedOf kl_X6_112 dX6_minister_93 (hP 14 _ rfl) rfl rfl rfl rfl ⟨Nat.le_of_ble_eq_true rfl, Nat.le_of_ble_eq_true rfl⟩ (Nat.le_of_ble_eq_true rfl) ⟨Nat.le_refl _, Nat.le_refl _⟩ (Or.inl rfl) rfl (x_kd ?_)
      refine x_if_le (tgt := 103) (pc' := 99) hC dX6_minister_96 (by decide) rfl (by omega) (fun c96 => ?_) (fun c96 => ?_)
      · refine x_iconst (pc' := 104) hC dX6_minister_103 rfl ?_
        exact x_iret hC dX6_minister_104 (xI.mk ⟨by unfold aMin; first | rw [if_neg c8] | (rw [if_pos c8]; first | rw [if_neg (by omega), if_neg (by omega), if_neg (by omega), if_neg (by omega), if_neg (by omega)] | (rw [if_neg (by omega), if_neg (by omega), if_neg (by omega), if_neg (by omega), if_pos w14]; first | rw [if_pos (by omega)] | rw [if_neg (by omega)]) | rw [if_neg (by omega), if_neg (by omega), if_neg (by omega), if_pos w14] | rw [if_neg (by omega), if_neg (by omega), if_pos w14] | rw [if_neg (by omega), if_pos w14] | rw [if_pos w14]), hA, FrI.rf⟩)
      · refine x_iconst (pc' := 100) hC dX6_minister_99 rfl ?_
        refine x_goto (tgt := 104) hC dX6_minister_100 (by decide) ?_
        exact x_iret hC dX6_minister_104 (xI.mk ⟨by unfold aMin; first | rw [if_neg c8] | (rw [if_pos c8]; first | rw [if_neg (by omega), if_neg (by omega), if_neg (by omega), if_neg (by omega), if_neg (by omega)] | (rw [if_neg (by omega), if_neg (by omega), if_neg (by omega), if_neg (by omega), if_pos w14]; first | rw [if_pos (by omega)] | rw [if_neg (by omega)]) | rw [if_neg (by omega), if_neg (by omega), if_neg (by omega), if_pos w14] | rw [if_neg (by omega), if_neg (by omega), if_pos w14] | rw [if_neg (by omega), if_pos w14] | rw [if_pos w14]), hA, FrI.rf⟩)
    · refine x_tabOut (tgt := 105) hC dX6_minister_14 (by omega) (by omega) (by decide) ?_
      refine x_iconst (pc' := 106) hC dX6_minister_105 rfl ?_
      exact x_iret hC dX6_minister_106 (xI.mk ⟨by unfold aMin; first | rw [if_neg c8] | (rw [if_pos c8]; first | rw [if_neg (by omega), if_neg (by omega), if_neg (by omega), if_neg (by omega), if_neg (by omega)] | (rw [if_neg (by omega), if_neg (by omega), if_neg (by omega), if_neg (by omega), if_pos w14]; first | rw [if_pos (by omega)] | rw [if_neg (by omega)]) | rw [if_neg (by omega), if_neg (by omega), if_neg (by omega), if_pos w14] | rw [if_neg (by omega), if_neg (by omega), if_pos w14] | rw [if_neg (by omega), if_pos w14] | rw [if_pos w14]), hA, FrI.rf⟩)
  · refine x_iconst (pc' := 12) hC dX6_minister_11 rfl ?_
    exact x_iret hC dX6_minister_12 (xI.mk ⟨by unfold aMin; first | rw [if_neg c8] | (rw [if_pos c8]; first | rw [if_neg (by omega), if_neg (by omega), if_neg (by omega), if_neg (by omega), if_neg (by omega)] | (rw [if_neg (by omega), if_neg (by omega), if_neg (by omega), if_neg (by omega), if_pos w14]; first | rw [if_pos (by omega)] | rw [if_neg (by omega)]) | rw [if_neg (by omega), if_neg (by omega), if_neg (by omega), if_pos w14] | rw [if_neg (by omega), if_neg (by omega), if_pos w14] | rw [if_neg (by omega), if_pos w14] | rw [if_pos w14]), hA, FrI.rf⟩)
set_option maxRecDepth 100000 in
set_option maxHeartbeats 4000000 in
theorem k_step {g : xG} {l : Launch} {S : List xS} {μ : xM} {T r : Int → Int} {nt : Int} {tx : Int → Int} {un kp : List (Int → Int)} {sl : List (Int × Int)} {x w : Int} (hP : xPre S) (hA : RC μ T r nt tx un kp sl) (hF : WF T r un kp) (hx : -2147483648 ≤ x ∧ x < 2147483648) (hw : -2147483648 ≤ w ∧ w < 2147483648) : xCt g l yX6_step cX6_step 3 (some .int) 1 23 0 0 [vR g 0, vI x, vI w] S μ S (xI (fun a μ' => a = aStep T r x w ∧ RC μ' T r nt tx un kp sl ∧ FrI 0 81 μ μ')) := by
  refine x_enter (by decide) (Nat.le_of_ble_eq_true rfl) ?_
  intro zp ze zs zm za zb zh zc hC hz0
  have hT := hF.1
  have hR := hF.2.1.1
  have hy := hF.2.1.2
  have t0 := hT.1
  have t1 := hT.2.1
  have t2 := hT.2.2.1
  have t3 := hT.2.2.2.1
  have hN := hA.2.1
  have hm := hN.mi
  have hs := hN.sp
  refine x_aload_n (pc' := 1) hC dX6_step_0 rfl rfl ?_
  refine x_getR (pc' := 4) (b := 12) hC kf_X6_26 dX6_step_1 (hP 0 _ rfl) rfl rfl ?_
  refine x_iload_n (pc' := 5) hC dX6_step_4 rfl rfl ?_
  refine x_callV (pc' := 8) (n := 1) hC (c_hasStep (T := T) (sPl hP) hN.1 ⟨hT.1, hT.2.1⟩ (by omega)) ky_X0_hasStep kv_X0_hasStep kl_X6_116 dX6_step_5 (hP 12 _ rfl) rfl rfl rfl rfl ⟨Nat.le_of_ble_eq_true rfl, Nat.le_of_ble_eq_true rfl⟩ (Nat.le_of_ble_eq_true rfl) ⟨Nat.le_refl _, Nat.le_refl _⟩ (Or.inl rfl) rfl (x_kd ?_)
  refine x_ifb_ne (tgt := 13) (pc' := 11) hC dX6_step_8 (by decide) rfl (fun c8 => ?_) (fun c8 => ?_)
  · refine x_iload_n (pc' := 14) hC dX6_step_13 rfl rfl ?_
    have w14 : w = 0 ∨ w = 1 ∨ w = 2 ∨ w = 3 ∨ (w < 0 ∨ 3 < w) := by omega
    rcases w14 with w14 | w14 | w14 | w14 | w14
    · refine x_tabIn (off := 30) (tgt := 44) hC dX6_step_14 (by omega) (by omega) (by rw [w14]; rfl) (by decide) ?_
      refine x_aload_n (pc' := 45) hC dX6_step_44 rfl rfl ?_
      refine x_getR (pc' := 48) (b := 14) hC kf_X6_35 dX6_step_45 (hP 0 _ rfl) rfl rfl ?_
      refine x_getR (pc' := 51) (b := 15) hC kf_X6_119 dX6_step_48 (hP 14 _ rfl) rfl rfl ?_
      refine x_iload_n (pc' := 52) hC dX6_step_51 rfl rfl ?_
      refine x_iald (pc' := 53) hC dX6_step_52 (hP 15 _ rfl) (by omega) (by decide) rfl ?_
      rw [hN.wx c8.1 (by omega)]
      exact x_iret hC dX6_step_53 (xI.mk ⟨by unfold aStep; first | rw [if_neg c8] | (rw [if_pos c8]; first | rw [if_neg (by omega), if_neg (by omega), if_neg (by omega), if_neg (by omega)] | rw [if_neg (by omega), if_neg (by omega), if_neg (by omega), if_pos w14] | (rw [if_neg (by omega), if_neg (by omega), if_pos w14]; first | rw [if_pos c79] | rw [if_neg c79]) | (rw [if_neg (by omega), if_pos w14]; first | rw [if_pos c62] | rw [if_neg c62]) | rw [if_pos w14]), hA, FrI.rf⟩)
    · refine x_tabIn (off := 40) (tgt := 54) hC dX6_step_14 (by omega) (by omega) (by rw [w14]; rfl) (by decide) ?_
      refine x_aload_n (pc' := 55) hC dX6_step_54 rfl rfl ?_
      refine x_getR (pc' := 58) (b := 12) hC kf_X6_26 dX6_step_55 (hP 0 _ rfl) rfl rfl ?_
      refine x_iload_n (pc' := 59) hC dX6_step_58 rfl rfl ?_
      refine x_callV (pc' := 62) (n := 1) hC (c_hasKnob (T := T) (sPl hP) hN.1) ky_X0_hasKnob kv_X0_hasKnob kl_X6_122 dX6_step_59 (hP 12 _ rfl) rfl rfl rfl rfl ⟨Nat.le_of_ble_eq_true rfl, Nat.le_of_ble_eq_true rfl⟩ (Nat.le_of_ble_eq_true rfl) ⟨Nat.le_refl _, Nat.le_refl _⟩ (Or.inl rfl) rfl (x_kd ?_)
      refine x_ifb_eq (tgt := 69) (pc' := 65) hC dX6_step_62 (by decide) rfl (fun c62 => ?_) (fun c62 => ?_)
      · refine x_iconst (pc' := 70) hC dX6_step_69 rfl ?_
        exact x_iret hC dX6_step_70 (xI.mk ⟨by unfold aStep; first | rw [if_neg c8] | (rw [if_pos c8]; first | rw [if_neg (by omega), if_neg (by omega), if_neg (by omega), if_neg (by omega)] | rw [if_neg (by omega), if_neg (by omega), if_neg (by omega), if_pos w14] | (rw [if_neg (by omega), if_neg (by omega), if_pos w14]; first | rw [if_pos c79] | rw [if_neg c79]) | (rw [if_neg (by omega), if_pos w14]; first | rw [if_pos c62] | rw [if_neg c62]) | rw [if_pos w14]), hA, FrI.rf⟩)
      · refine x_iconst (pc' := 66) hC dX6_step_65 rfl ?_
        refine x_goto (tgt := 70) hC dX6_step_66 (by decide) ?_
        exact x_iret hC dX6_step_70 (xI.mk ⟨by unfold aStep; first | rw [if_neg c8] | (rw [if_pos c8]; first | rw [if_neg (by omega), if_neg (by omega), if_neg (by omega), if_neg (by omega)] | rw [if_neg (by omega), if_neg (by omega), if_neg (by omega), if_pos w14] | (rw [if_neg (by omega), if_neg (by omega), if_pos w14]; first | rw [if_pos c79] | rw [if_neg c79]) | (rw [if_neg (by omega), if_pos w14]; first | rw [if_pos c62] | rw [if_neg c62]) | rw [if_pos w14]), hA, FrI.rf⟩)
    · refine x_tabIn (off := 57) (tgt := 71) hC dX6_step_14 (by omega) (by omega) (by rw [w14]; rfl) (by decide) ?_
      refine x_aload_n (pc' := 72) hC dX6_step_71 rfl rfl ?_
      refine x_getR (pc' := 75) (b := 12) hC kf_X6_26 dX6_step_72 (hP 0 _ rfl) rfl rfl ?_
      refine x_iload_n (pc' := 76) hC dX6_step_75 rfl rfl ?_
      refine x_callV (pc' := 79) (n := 1) hC (c_hasTurn (T := T) (sPl hP) hN.1) ky_X0_hasTurn kv_X0_hasTurn kl_X6_125 dX6_step_76 (hP 12 _ rfl) rfl rfl rfl rfl ⟨Nat.le_of_ble_eq_true rfl, Nat.le_of_ble_eq_true rfl⟩ (Nat.le_of_ble_eq_true rfl) ⟨Nat.le_refl _, Nat.le_refl _⟩ (Or.inl rfl) rfl (x_kd ?_)
      refine x_ifb_eq (tgt := 86) (pc' := 82) hC dX6_step_79 (by decide) rfl (fun c79 => ?_) (fun c79 => ?_)
      · refine x_iconst (pc' := 87) hC dX6_step_86 rfl ?_
        exact x_iret hC dX6_step_87 (xI.mk ⟨by unfold aStep; first | rw [if_neg c8] | (rw [if_pos c8]; first | rw [if_neg (by omega), if_neg (by omega), if_neg (by omega), if_neg (by omega)] | rw [if_neg (by omega), if_neg (by omega), if_neg (by omega), if_pos w14] | (rw [if_neg (by omega), if_neg (by omega), if_pos w14]; first | rw [if_pos c79] | rw [if_neg c79]) | (rw [if_neg (by omega), if_pos w14]; first | rw [if_pos c62] | rw [if_neg c62]) | rw [if_pos w14]), hA, FrI.rf⟩)
      · refine x_iconst (pc' := 83) hC dX6_step_82 rfl ?_
        refine x_goto (tgt := 87) hC dX6_step_83 (by decide) ?_
        exact x_iret hC dX6_step_87 (xI.mk ⟨by unfold aStep; first | rw [if_neg c8] | (rw [if_pos c8]; first | rw [if_neg (by omega), if_neg (by omega), if_neg (by omega), if_neg (by omega)] | rw [if_neg (by omega), if_neg (by omega), if_neg (by omega), if_pos w14] | (rw [if_neg (by omega), if_neg (by omega), if_pos w14]; first | rw [if_pos c79] | rw [if_neg c79]) | (rw [if_neg (by omega), if_pos w14]; first | rw [if_pos c62] | rw [if_neg c62]) | rw [if_pos w14]), hA, FrI.rf⟩)
    · refine x_tabIn (off := 74) (tgt := 88) hC dX6_step_14 (by omega) (by omega) (by rw [w14]; rfl) (by decide) ?_
      refine x_aload_n (pc' := 89) hC dX6_step_88 rfl rfl ?_
      refine x_getR (pc' := 92) (b := 14) hC kf_X6_35 dX6_step_89 (hP 0 _ rfl) rfl rfl ?_
      refine x_iload_n (pc' := 93) hC dX6_step_92 rfl rfl ?_
      refine x_callV (pc' := 96) (n := 1) hC (c_howManyOn (sNow hP) hN hT hR (by omega)) ky_X4_howManyOn kv_X4_howManyOn kl_X6_128 dX6_step_93 (hP 14 _ rfl) rfl rfl rfl rfl ⟨Nat.le_of_ble_eq_true rfl, Nat.le_of_ble_eq_true rfl⟩ (Nat.le_of_ble_eq_true rfl) ⟨Nat.le_refl _, Nat.le_refl _⟩ (Or.inl rfl) rfl (x_kd ?_)
      exact x_iret hC dX6_step_96 (xI.mk ⟨by unfold aStep; first | rw [if_neg c8] | (rw [if_pos c8]; first | rw [if_neg (by omega), if_neg (by omega), if_neg (by omega), if_neg (by omega)] | rw [if_neg (by omega), if_neg (by omega), if_neg (by omega), if_pos w14] | (rw [if_neg (by omega), if_neg (by omega), if_pos w14]; first | rw [if_pos c79] | rw [if_neg c79]) | (rw [if_neg (by omega), if_pos w14]; first | rw [if_pos c62] | rw [if_neg c62]) | rw [if_pos w14]), hA, FrI.rf⟩)
    · refine x_tabOut (tgt := 97) hC dX6_step_14 (by omega) (by omega) (by decide) ?_
      refine x_iconst (pc' := 98) hC dX6_step_97 rfl ?_
      exact x_iret hC dX6_step_98 (xI.mk ⟨by unfold aStep; first | rw [if_neg c8] | (rw [if_pos c8]; first | rw [if_neg (by omega), if_neg (by omega), if_neg (by omega), if_neg (by omega)] | rw [if_neg (by omega), if_neg (by omega), if_neg (by omega), if_pos w14] | (rw [if_neg (by omega), if_neg (by omega), if_pos w14]; first | rw [if_pos c79] | rw [if_neg c79]) | (rw [if_neg (by omega), if_pos w14]; first | rw [if_pos c62] | rw [if_neg c62]) | rw [if_pos w14]), hA, FrI.rf⟩)
  · refine x_iconst (pc' := 12) hC dX6_step_11 rfl ?_
    exact x_iret hC dX6_step_12 (xI.mk ⟨by unfold aStep; first | rw [if_neg c8] | (rw [if_pos c8]; first | rw [if_neg (by omega), if_neg (by omega), if_neg (by omega), if_neg (by omega)] | rw [if_neg (by omega), if_neg (by omega), if_neg (by omega), if_pos w14] | (rw [if_neg (by omega), if_neg (by omega), if_pos w14]; first | rw [if_pos c79] | rw [if_neg c79]) | (rw [if_neg (by omega), if_pos w14]; first | rw [if_pos c62] | rw [if_neg c62]) | rw [if_pos w14]), hA, FrI.rf⟩)
set_option maxRecDepth 100000 in
set_option maxHeartbeats 4000000 in
theorem k_pass {g : xG} {l : Launch} {S : List xS} {μ : xM} {T r : Int → Int} {nt : Int} {tx : Int → Int} {un kp : List (Int → Int)} {sl : List (Int × Int)} {n : Int} (hP : xPre S) (hA : RC μ T r nt tx un kp sl) (hF : WF T r un kp) (hn : -2147483648 ≤ n ∧ n < 2147483648) : xCt g l yX6_pass cX6_pass 2 (some .int) 5 113 0 0 [vR g 0, vI n] S μ S (xI (fun a μ' => a = aPass T r n ∧ (okPass r n → RC μ' T (goYears T n.toNat r) nt tx (push r un) kp sl) ∧ (¬ okPass r n → RC μ' T r nt tx un kp sl) ∧ FrI 0 81 μ μ')) := by
  refine x_enter (by decide) (Nat.le_of_ble_eq_true rfl) ?_
  intro zp ze zs zm za zb zh zc hC hz0
  have hT := hF.1
  have hR := hF.2.1.1
  have hy := hF.2.1.2
  have t0 := hT.1
  have t1 := hT.2.1
  have t2 := hT.2.2.1
  have t3 := hT.2.2.2.1
  have hN := hA.2.1
  have hm := hN.mi
  have hs := hN.sp
  refine x_iload_n (pc' := 1) hC dX6_pass_0 rfl rfl ?_
  refine x_iconst (pc' := 2) hC dX6_pass_1 rfl ?_
  refine x_bipush (pc' := 4) hC dX6_pass_2 (by decide) rfl ?_
  refine x_callS (pc' := 7) (n := 3) hC (c_within (by omega) (by omega) (by omega)) ky_X6_within ks_X6_within kl_X6_84 dX6_pass_4 rfl rfl ⟨Nat.le_of_ble_eq_true rfl, Nat.le_of_ble_eq_true rfl⟩ (Nat.le_of_ble_eq_true rfl) ⟨Nat.le_refl _, Nat.le_refl _⟩ (Or.inl rfl) rfl (x_kd ?_)
  refine x_ifb_ne (tgt := 12) (pc' := 10) hC dX6_pass_7 (by decide) rfl (fun c7 => ?_) (fun c7 => ?_)
  · refine x_aload_n (pc' := 13) hC dX6_pass_12 rfl rfl ?_
    refine x_getR (pc' := 16) (b := 14) hC kf_X6_35 dX6_pass_13 (hP 0 _ rfl) rfl rfl ?_
    refine x_getI (j' := 6) (pc' := 19) hC kf_X6_131 dX6_pass_16 (hP 14 _ rfl) rfl rfl rfl ?_
    rw [hN.yr]
    refine x_iload_n (pc' := 20) hC dX6_pass_19 rfl rfl ?_
    refine x_iadd (pc' := 21) hC dX6_pass_20 rfl ?_
    refine x_sipush (pc' := 24) hC dX6_pass_21 (by decide) rfl ?_
    refine x_icmp_le (tgt := 30) (pc' := 27) hC dX6_pass_24 (by decide) rfl (by omega) (by omega) (fun c24 => ?_) (fun c24 => ?_)
    · refine x_aload_n (pc' := 31) hC dX6_pass_30 rfl rfl ?_
      refine x_getR (pc' := 34) (b := 24) hC kf_X6_47 dX6_pass_31 (hP 0 _ rfl) rfl rfl ?_
      refine x_aload_n (pc' := 35) hC dX6_pass_34 rfl rfl ?_
      refine x_getR (pc' := 38) (b := 14) hC kf_X6_35 dX6_pass_35 (hP 0 _ rfl) rfl rfl ?_
      refine x_callV (pc' := 41) (n := 1) hC (c_put (sUnd hP) (sNow hP) (by omega) hT hA.2.2.1 hN.2.2 hN.2.1) ky_X2_put kv_X2_put kl_X6_134 dX6_pass_38 (hP 24 _ rfl) rfl rfl rfl rfl ⟨Nat.le_of_ble_eq_true rfl, Nat.le_of_ble_eq_true rfl⟩ (Nat.le_of_ble_eq_true rfl) ⟨Nat.le_refl _, Nat.le_refl _⟩ (Or.inl rfl) rfl (x_kn (fun μ38 h38 => ?_))
      refine x_aload_n (pc' := 42) hC dX6_pass_41 rfl rfl ?_
      refine x_getR (pc' := 45) (b := 14) hC kf_X6_35 dX6_pass_42 (hP 0 _ rfl) rfl rfl ?_
      refine x_iload_n (pc' := 46) hC dX6_pass_45 rfl rfl ?_
      refine x_callV (pc' := 49) (n := 1) hC (c_goOn (N := n.toNat) (sNow hP) (hN.frI h38.1 (by omega) (by omega)) hT hR (by omega) (by omega)) ky_X4_goOn kv_X4_goOn kl_X6_138 dX6_pass_46 (hP 14 _ rfl) rfl rfl rfl rfl ⟨Nat.le_of_ble_eq_true rfl, Nat.le_of_ble_eq_true rfl⟩ (Nat.le_of_ble_eq_true rfl) ⟨Nat.le_refl _, Nat.le_refl _⟩ (Or.inl rfl) rfl (x_kn (fun μ46 h46 => ?_))
      refine x_aload_n (pc' := 50) hC dX6_pass_49 rfl rfl ?_
      refine x_getR (pc' := 53) (b := 14) hC kf_X6_35 dX6_pass_50 (hP 0 _ rfl) rfl rfl ?_
      refine x_getI (j' := 6) (pc' := 56) hC kf_X6_131 dX6_pass_53 (hP 14 _ rfl) rfl rfl rfl ?_
      rw [h46.2.1]
      exact x_iret hC dX6_pass_56 (xI.mk (by
      have z := hA.act h38.1 h38.2 h46.1.I h46.2 ((hN.2.1.frI h38.1 (by omega)).fr h46.1)
      exact ⟨by unfold aPass; rw [if_pos c7, if_neg (by omega)], fun _ => z.1, fun y => absurd ⟨c7, by omega⟩ y, z.2⟩))
    · refine x_bipush (pc' := 29) hC dX6_pass_27 (by decide) rfl ?_
      exact x_iret hC dX6_pass_29 (xI.mk ⟨by unfold aPass; rw [if_pos c7, if_pos (by omega)], fun z => absurd (by omega) z.2, fun _ => hA, FrI.rf⟩)
  · refine x_iconst (pc' := 11) hC dX6_pass_10 rfl ?_
    exact x_iret hC dX6_pass_11 (xI.mk ⟨by unfold aPass; rw [if_neg c7], fun z => absurd z.1 c7, fun _ => hA, FrI.rf⟩)
set_option maxRecDepth 100000 in
set_option maxHeartbeats 4000000 in
theorem k_wax {g : xG} {l : Launch} {S : List xS} {μ : xM} {T r : Int → Int} {nt : Int} {tx : Int → Int} {un kp : List (Int → Int)} {sl : List (Int × Int)} {x : Int} (hP : xPre S) (hA : RC μ T r nt tx un kp sl) (hF : WF T r un kp) (hx : -2147483648 ≤ x ∧ x < 2147483648) : xCt g l yX6_wax cX6_wax 2 (some .int) 3 82 0 0 [vR g 0, vI x] S μ S (xI (fun a μ' => a = aWax T r x ∧ (okWax T r x → RC μ' T (rWax r x) nt tx (push r un) kp sl) ∧ (¬ okWax T r x → RC μ' T r nt tx un kp sl) ∧ FrI 0 81 μ μ')) := by
  refine x_enter (by decide) (Nat.le_of_ble_eq_true rfl) ?_
  intro zp ze zs zm za zb zh zc hC hz0
  have hT := hF.1
  have hR := hF.2.1.1
  have hy := hF.2.1.2
  have t0 := hT.1
  have t1 := hT.2.1
  have t2 := hT.2.2.1
  have t3 := hT.2.2.2.1
  have hN := hA.2.1
  have hm := hN.mi
  have hs := hN.sp
  have hR2 := hR.2.2
  refine x_aload_n (pc' := 1) hC dX6_wax_0 rfl rfl ?_
  refine x_getR (pc' := 4) (b := 12) hC kf_X6_26 dX6_wax_1 (hP 0 _ rfl) rfl rfl ?_
  refine x_iload_n (pc' := 5) hC dX6_wax_4 rfl rfl ?_
  refine x_callV (pc' := 8) (n := 1) hC (c_hasStep (T := T) (sPl hP) hN.1 ⟨hT.1, hT.2.1⟩ (by omega)) ky_X0_hasStep kv_X0_hasStep kl_X6_116 dX6_wax_5 (hP 12 _ rfl) rfl rfl rfl rfl ⟨Nat.le_of_ble_eq_true rfl, Nat.le_of_ble_eq_true rfl⟩ (Nat.le_of_ble_eq_true rfl) ⟨Nat.le_refl _, Nat.le_refl _⟩ (Or.inl rfl) rfl (x_kd ?_)
  refine x_ifb_ne (tgt := 13) (pc' := 11) hC dX6_wax_8 (by decide) rfl (fun c8 => ?_) (fun c8 => ?_)
  · have q3 := hR.1 x (by omega) (by omega)
    refine x_aload_n (pc' := 14) hC dX6_wax_13 rfl rfl ?_
    refine x_getR (pc' := 17) (b := 14) hC kf_X6_35 dX6_wax_14 (hP 0 _ rfl) rfl rfl ?_
    refine x_getR (pc' := 20) (b := 15) hC kf_X6_119 dX6_wax_17 (hP 14 _ rfl) rfl rfl ?_
    refine x_iload_n (pc' := 21) hC dX6_wax_20 rfl rfl ?_
    refine x_iald (pc' := 22) hC dX6_wax_21 (hP 15 _ rfl) (by omega) (by decide) rfl ?_
    rw [hN.wx c8.1 (by omega)]
    refine x_bipush (pc' := 24) hC dX6_wax_22 (by decide) rfl ?_
    refine x_icmp_ge (tgt := 38) (pc' := 27) hC dX6_wax_24 (by decide) rfl (by omega) (by omega) (fun c24 => ?_) (fun c24 => ?_)
    · refine x_bipush (pc' := 40) hC dX6_wax_38 (by decide) rfl ?_
      exact x_iret hC dX6_wax_40 (xI.mk ⟨by unfold aWax; rw [if_pos c8, if_pos (by omega)], fun z => absurd (by omega) z.2, fun _ => hA, FrI.rf⟩)
    · refine x_aload_n (pc' := 28) hC dX6_wax_27 rfl rfl ?_
      refine x_getR (pc' := 31) (b := 14) hC kf_X6_35 dX6_wax_28 (hP 0 _ rfl) rfl rfl ?_
      refine x_getI (j' := 5) (pc' := 34) hC kf_X6_142 dX6_wax_31 (hP 14 _ rfl) rfl rfl rfl ?_
      rw [hN.fu]
      refine x_iconst (pc' := 35) hC dX6_wax_34 rfl ?_
      refine x_icmp_ge (tgt := 41) (pc' := 38) hC dX6_wax_35 (by decide) rfl (by omega) (by omega) (fun c35 => ?_) (fun c35 => ?_)
      · refine x_aload_n (pc' := 42) hC dX6_wax_41 rfl rfl ?_
        refine x_getR (pc' := 45) (b := 24) hC kf_X6_47 dX6_wax_42 (hP 0 _ rfl) rfl rfl ?_
        refine x_aload_n (pc' := 46) hC dX6_wax_45 rfl rfl ?_
        refine x_getR (pc' := 49) (b := 14) hC kf_X6_35 dX6_wax_46 (hP 0 _ rfl) rfl rfl ?_
        refine x_callV (pc' := 52) (n := 1) hC (c_put (sUnd hP) (sNow hP) (by omega) hT hA.2.2.1 hN.2.2 hN.2.1) ky_X2_put kv_X2_put kl_X6_134 dX6_wax_49 (hP 24 _ rfl) rfl rfl rfl rfl ⟨Nat.le_of_ble_eq_true rfl, Nat.le_of_ble_eq_true rfl⟩ (Nat.le_of_ble_eq_true rfl) ⟨Nat.le_refl _, Nat.le_refl _⟩ (Or.inl rfl) rfl (x_kn (fun μ49 h49 => ?_))
        refine x_aload_n (pc' := 53) hC dX6_wax_52 rfl rfl ?_
        refine x_getR (pc' := 56) (b := 14) hC kf_X6_35 dX6_wax_53 (hP 0 _ rfl) rfl rfl ?_
        refine x_dup (pc' := 57) hC dX6_wax_56 rfl rfl ?_
        refine x_getI (j' := 5) (pc' := 60) hC kf_X6_142 dX6_wax_57 (hP 14 _ rfl) rfl rfl rfl ?_
        rw [h49.1 _ _ (by omega), hN.fu]
        refine x_iconst (pc' := 61) hC dX6_wax_60 rfl ?_
        refine x_isub (pc' := 62) hC dX6_wax_61 rfl ?_
        refine x_putI (j' := 5) (pc' := 65) hC kf_X6_142 dX6_wax_62 (hP 14 _ rfl) rfl rfl rfl rfl rfl ?_
        refine x_aload_n (pc' := 66) hC dX6_wax_65 rfl rfl ?_
        refine x_getR (pc' := 69) (b := 14) hC kf_X6_35 dX6_wax_66 (hP 0 _ rfl) rfl rfl ?_
        refine x_iload_n (pc' := 70) hC dX6_wax_69 rfl rfl ?_
        refine x_iconst (pc' := 71) hC dX6_wax_70 rfl ?_
        refine x_callV (pc' := 74) (n := 2) hC (c_addWax (T := T) (r := (up r 1 (r 1 - 1))) (sNow hP) ⟨(hN.1.frI h49.1 (by omega)).frI (FrI.rf.u (k := 14) (lo := 14) (hi := 19) (by omega)) (by omega), fun m m0 m1 => by rw [xU_nk (by omega)]; exact (hN.2.1.frI h49.1 (by omega)) m m0 m1, (hN.2.2.frI h49.1 (by omega)).funds⟩ hT (WR_funds hR (by omega)) c8 (by omega)) ky_X4_addWax kv_X4_addWax kl_X6_145 dX6_wax_71 (hP 14 _ rfl) rfl rfl rfl rfl ⟨Nat.le_of_ble_eq_true rfl, Nat.le_of_ble_eq_true rfl⟩ (Nat.le_of_ble_eq_true rfl) ⟨Nat.le_refl _, Nat.le_refl _⟩ (Or.inl rfl) rfl (x_kn (fun μ71 h71 => ?_))
        refine x_aload_n (pc' := 75) hC dX6_wax_74 rfl rfl ?_
        refine x_getR (pc' := 78) (b := 14) hC kf_X6_35 dX6_wax_75 (hP 0 _ rfl) rfl rfl ?_
        refine x_getR (pc' := 81) (b := 15) hC kf_X6_119 dX6_wax_78 (hP 14 _ rfl) rfl rfl ?_
        refine x_iload_n (pc' := 82) hC dX6_wax_81 rfl rfl ?_
        refine x_iald (pc' := 83) hC dX6_wax_82 (hP 15 _ rfl) (by omega) (by decide) rfl ?_
        rw [h71.2.2.2.1 x (by omega) (by omega)]
        exact x_iret hC dX6_wax_83 (xI.mk (by
      have z := hA.act h49.1 h49.2 ((FrI.rf.u (k := 14) (lo := 14) (hi := 19) (by omega)).tr h71.1.I) h71.2 (Gr.fr (fun m m0 m1 => by rw [xU_nk (by omega)]; exact (hN.2.1.frI h49.1 (by omega)) m m0 m1) h71.1)
      exact ⟨by unfold aWax; rw [if_pos c8, if_neg (by omega)]; rfl, fun _ => z.1, fun y => absurd ⟨c8, by omega⟩ y, z.2⟩))
      · refine x_bipush (pc' := 40) hC dX6_wax_38 (by decide) rfl ?_
        exact x_iret hC dX6_wax_40 (xI.mk ⟨by unfold aWax; rw [if_pos c8, if_pos (by omega)], fun z => absurd (by omega) z.2, fun _ => hA, FrI.rf⟩)
  · refine x_iconst (pc' := 12) hC dX6_wax_11 rfl ?_
    exact x_iret hC dX6_wax_12 (xI.mk ⟨by unfold aWax; rw [if_neg c8], fun z => absurd z.1 c8, fun _ => hA, FrI.rf⟩)
set_option maxRecDepth 100000 in
set_option maxHeartbeats 4000000 in
theorem k_sand {g : xG} {l : Launch} {S : List xS} {μ : xM} {T r : Int → Int} {nt : Int} {tx : Int → Int} {un kp : List (Int → Int)} {sl : List (Int × Int)} {x : Int} (hP : xPre S) (hA : RC μ T r nt tx un kp sl) (hF : WF T r un kp) (hx : -2147483648 ≤ x ∧ x < 2147483648) : xCt g l yX6_sand cX6_sand 2 (some .int) 3 82 0 0 [vR g 0, vI x] S μ S (xI (fun a μ' => a = aSand T r x ∧ (okSand T r x → RC μ' T (rSand r x) nt tx (push r un) kp sl) ∧ (¬ okSand T r x → RC μ' T r nt tx un kp sl) ∧ FrI 0 81 μ μ')) := by
  refine x_enter (by decide) (Nat.le_of_ble_eq_true rfl) ?_
  intro zp ze zs zm za zb zh zc hC hz0
  have hT := hF.1
  have hR := hF.2.1.1
  have hy := hF.2.1.2
  have t0 := hT.1
  have t1 := hT.2.1
  have t2 := hT.2.2.1
  have t3 := hT.2.2.2.1
  have hN := hA.2.1
  have hm := hN.mi
  have hs := hN.sp
  have hR2 := hR.2.2
  refine x_aload_n (pc' := 1) hC dX6_sand_0 rfl rfl ?_
  refine x_getR (pc' := 4) (b := 12) hC kf_X6_26 dX6_sand_1 (hP 0 _ rfl) rfl rfl ?_
  refine x_iload_n (pc' := 5) hC dX6_sand_4 rfl rfl ?_
  refine x_callV (pc' := 8) (n := 1) hC (c_hasStep (T := T) (sPl hP) hN.1 ⟨hT.1, hT.2.1⟩ (by omega)) ky_X0_hasStep kv_X0_hasStep kl_X6_116 dX6_sand_5 (hP 12 _ rfl) rfl rfl rfl rfl ⟨Nat.le_of_ble_eq_true rfl, Nat.le_of_ble_eq_true rfl⟩ (Nat.le_of_ble_eq_true rfl) ⟨Nat.le_refl _, Nat.le_refl _⟩ (Or.inl rfl) rfl (x_kd ?_)
  refine x_ifb_ne (tgt := 13) (pc' := 11) hC dX6_sand_8 (by decide) rfl (fun c8 => ?_) (fun c8 => ?_)
  · have q3 := hR.1 x (by omega) (by omega)
    refine x_aload_n (pc' := 14) hC dX6_sand_13 rfl rfl ?_
    refine x_getR (pc' := 17) (b := 14) hC kf_X6_35 dX6_sand_14 (hP 0 _ rfl) rfl rfl ?_
    refine x_getR (pc' := 20) (b := 15) hC kf_X6_119 dX6_sand_17 (hP 14 _ rfl) rfl rfl ?_
    refine x_iload_n (pc' := 21) hC dX6_sand_20 rfl rfl ?_
    refine x_iald (pc' := 22) hC dX6_sand_21 (hP 15 _ rfl) (by omega) (by decide) rfl ?_
    rw [hN.wx c8.1 (by omega)]
    refine x_if_eq (tgt := 36) (pc' := 25) hC dX6_sand_22 (by decide) rfl (by omega) (fun c22 => ?_) (fun c22 => ?_)
    · refine x_bipush (pc' := 38) hC dX6_sand_36 (by decide) rfl ?_
      exact x_iret hC dX6_sand_38 (xI.mk ⟨by unfold aSand; rw [if_pos c8, if_pos (by omega)], fun z => absurd (by omega) z.2, fun _ => hA, FrI.rf⟩)
    · refine x_aload_n (pc' := 26) hC dX6_sand_25 rfl rfl ?_
      refine x_getR (pc' := 29) (b := 14) hC kf_X6_35 dX6_sand_26 (hP 0 _ rfl) rfl rfl ?_
      refine x_getI (j' := 5) (pc' := 32) hC kf_X6_142 dX6_sand_29 (hP 14 _ rfl) rfl rfl rfl ?_
      rw [hN.fu]
      refine x_iconst (pc' := 33) hC dX6_sand_32 rfl ?_
      refine x_icmp_ge (tgt := 39) (pc' := 36) hC dX6_sand_33 (by decide) rfl (by omega) (by omega) (fun c33 => ?_) (fun c33 => ?_)
      · refine x_aload_n (pc' := 40) hC dX6_sand_39 rfl rfl ?_
        refine x_getR (pc' := 43) (b := 24) hC kf_X6_47 dX6_sand_40 (hP 0 _ rfl) rfl rfl ?_
        refine x_aload_n (pc' := 44) hC dX6_sand_43 rfl rfl ?_
        refine x_getR (pc' := 47) (b := 14) hC kf_X6_35 dX6_sand_44 (hP 0 _ rfl) rfl rfl ?_
        refine x_callV (pc' := 50) (n := 1) hC (c_put (sUnd hP) (sNow hP) (by omega) hT hA.2.2.1 hN.2.2 hN.2.1) ky_X2_put kv_X2_put kl_X6_134 dX6_sand_47 (hP 24 _ rfl) rfl rfl rfl rfl ⟨Nat.le_of_ble_eq_true rfl, Nat.le_of_ble_eq_true rfl⟩ (Nat.le_of_ble_eq_true rfl) ⟨Nat.le_refl _, Nat.le_refl _⟩ (Or.inl rfl) rfl (x_kn (fun μ47 h47 => ?_))
        refine x_aload_n (pc' := 51) hC dX6_sand_50 rfl rfl ?_
        refine x_getR (pc' := 54) (b := 14) hC kf_X6_35 dX6_sand_51 (hP 0 _ rfl) rfl rfl ?_
        refine x_dup (pc' := 55) hC dX6_sand_54 rfl rfl ?_
        refine x_getI (j' := 5) (pc' := 58) hC kf_X6_142 dX6_sand_55 (hP 14 _ rfl) rfl rfl rfl ?_
        rw [h47.1 _ _ (by omega), hN.fu]
        refine x_iconst (pc' := 59) hC dX6_sand_58 rfl ?_
        refine x_isub (pc' := 60) hC dX6_sand_59 rfl ?_
        refine x_putI (j' := 5) (pc' := 63) hC kf_X6_142 dX6_sand_60 (hP 14 _ rfl) rfl rfl rfl rfl rfl ?_
        refine x_aload_n (pc' := 64) hC dX6_sand_63 rfl rfl ?_
        refine x_getR (pc' := 67) (b := 14) hC kf_X6_35 dX6_sand_64 (hP 0 _ rfl) rfl rfl ?_
        refine x_iload_n (pc' := 68) hC dX6_sand_67 rfl rfl ?_
        refine x_bipush (pc' := 70) hC dX6_sand_68 (by decide) rfl ?_
        refine x_callV (pc' := 73) (n := 2) hC (c_addWax (T := T) (r := (up r 1 (r 1 - 2))) (sNow hP) ⟨(hN.1.frI h47.1 (by omega)).frI (FrI.rf.u (k := 14) (lo := 14) (hi := 19) (by omega)) (by omega), fun m m0 m1 => by rw [xU_nk (by omega)]; exact (hN.2.1.frI h47.1 (by omega)) m m0 m1, (hN.2.2.frI h47.1 (by omega)).funds⟩ hT (WR_funds hR (by omega)) c8 (by omega)) ky_X4_addWax kv_X4_addWax kl_X6_145 dX6_sand_70 (hP 14 _ rfl) rfl rfl rfl rfl ⟨Nat.le_of_ble_eq_true rfl, Nat.le_of_ble_eq_true rfl⟩ (Nat.le_of_ble_eq_true rfl) ⟨Nat.le_refl _, Nat.le_refl _⟩ (Or.inl rfl) rfl (x_kn (fun μ70 h70 => ?_))
        refine x_aload_n (pc' := 74) hC dX6_sand_73 rfl rfl ?_
        refine x_getR (pc' := 77) (b := 14) hC kf_X6_35 dX6_sand_74 (hP 0 _ rfl) rfl rfl ?_
        refine x_getR (pc' := 80) (b := 15) hC kf_X6_119 dX6_sand_77 (hP 14 _ rfl) rfl rfl ?_
        refine x_iload_n (pc' := 81) hC dX6_sand_80 rfl rfl ?_
        refine x_iald (pc' := 82) hC dX6_sand_81 (hP 15 _ rfl) (by omega) (by decide) rfl ?_
        rw [h70.2.2.2.1 x (by omega) (by omega)]
        exact x_iret hC dX6_sand_82 (xI.mk (by
      have z := hA.act h47.1 h47.2 ((FrI.rf.u (k := 14) (lo := 14) (hi := 19) (by omega)).tr h70.1.I) h70.2 (Gr.fr (fun m m0 m1 => by rw [xU_nk (by omega)]; exact (hN.2.1.frI h47.1 (by omega)) m m0 m1) h70.1)
      exact ⟨by unfold aSand; rw [if_pos c8, if_neg (by omega)]; rfl, fun _ => z.1, fun y => absurd ⟨c8, by omega⟩ y, z.2⟩))
      · refine x_bipush (pc' := 38) hC dX6_sand_36 (by decide) rfl ?_
        exact x_iret hC dX6_sand_38 (xI.mk ⟨by unfold aSand; rw [if_pos c8, if_pos (by omega)], fun z => absurd (by omega) z.2, fun _ => hA, FrI.rf⟩)
  · refine x_iconst (pc' := 12) hC dX6_sand_11 rfl ?_
    exact x_iret hC dX6_sand_12 (xI.mk ⟨by unfold aSand; rw [if_neg c8], fun z => absurd z.1 c8, fun _ => hA, FrI.rf⟩)
set_option maxRecDepth 100000 in
set_option maxHeartbeats 4000000 in
theorem k_help {g : xG} {l : Launch} {S : List xS} {μ : xM} {T r : Int → Int} {nt : Int} {tx : Int → Int} {un kp : List (Int → Int)} {sl : List (Int × Int)} {m : Int} (hP : xPre S) (hA : RC μ T r nt tx un kp sl) (hF : WF T r un kp) (hm : -2147483648 ≤ m ∧ m < 2147483648) : xCt g l yX6_help cX6_help 3 (some .int) 3 82 0 0 [vR g 0, vI m] S μ S (xI (fun a μ' => a = aHelp T r m ∧ (okHelp T r m → RC μ' T (rHelp r m) nt tx (push r un) kp sl) ∧ (¬ okHelp T r m → RC μ' T r nt tx un kp sl) ∧ FrI 0 81 μ μ')) := by
  refine x_enter (by decide) (Nat.le_of_ble_eq_true rfl) ?_
  intro zp ze zs zm za zb zh zc hC hz0
  have hT := hF.1
  have hR := hF.2.1.1
  have hy := hF.2.1.2
  have t0 := hT.1
  have t1 := hT.2.1
  have t2 := hT.2.2.1
  have t3 := hT.2.2.2.1
  have hN := hA.2.1
  have hm := hN.mi
  have hs := hN.sp
  refine x_aload_n (pc' := 1) hC dX6_help_0 rfl rfl ?_
  refine x_getR (pc' := 4) (b := 12) hC kf_X6_26 dX6_help_1 (hP 0 _ rfl) rfl rfl ?_
  refine x_iload_n (pc' := 5) hC dX6_help_4 rfl rfl ?_
  refine x_callV (pc' := 8) (n := 1) hC (c_hasMinister (T := T) (sPl hP) hN.1 hT (by omega)) ky_X0_hasMinister kv_X0_hasMinister kl_X6_95 dX6_help_5 (hP 12 _ rfl) rfl rfl rfl rfl ⟨Nat.le_of_ble_eq_true rfl, Nat.le_of_ble_eq_true rfl⟩ (Nat.le_of_ble_eq_true rfl) ⟨Nat.le_refl _, Nat.le_refl _⟩ (Or.inl rfl) rfl (x_kd ?_)
  refine x_ifb_ne (tgt := 13) (pc' := 11) hC dX6_help_8 (by decide) rfl (fun c8 => ?_) (fun c8 => ?_)
  · have q3 := hR.2.1 m c8.1 c8.2
    refine x_aload_n (pc' := 14) hC dX6_help_13 rfl rfl ?_
    refine x_getR (pc' := 17) (b := 14) hC kf_X6_35 dX6_help_14 (hP 0 _ rfl) rfl rfl ?_
    refine x_getR (pc' := 20) (b := 16) hC kf_X6_103 dX6_help_17 (hP 14 _ rfl) rfl rfl ?_
    refine x_iload_n (pc' := 21) hC dX6_help_20 rfl rfl ?_
    refine x_iald (pc' := 22) hC dX6_help_21 (hP 16 _ rfl) (by omega) (by decide) rfl ?_
    rw [hN.pc c8.1 (by omega)]
    refine x_istore_n (pc' := 23) hC dX6_help_22 (by decide) rfl rfl ?_
    refine x_iload_n (pc' := 24) hC dX6_help_23 rfl rfl ?_
    refine x_if_ne (tgt := 30) (pc' := 27) hC dX6_help_24 (by decide) rfl (by omega) (fun c24 => ?_) (fun c24 => ?_)
    · refine x_aload_n (pc' := 31) hC dX6_help_30 rfl rfl ?_
      refine x_getR (pc' := 34) (b := 24) hC kf_X6_47 dX6_help_31 (hP 0 _ rfl) rfl rfl ?_
      refine x_aload_n (pc' := 35) hC dX6_help_34 rfl rfl ?_
      refine x_getR (pc' := 38) (b := 14) hC kf_X6_35 dX6_help_35 (hP 0 _ rfl) rfl rfl ?_
      refine x_callV (pc' := 41) (n := 1) hC (c_put (sUnd hP) (sNow hP) (by omega) hT hA.2.2.1 hN.2.2 hN.2.1) ky_X2_put kv_X2_put kl_X6_134 dX6_help_38 (hP 24 _ rfl) rfl rfl rfl rfl ⟨Nat.le_of_ble_eq_true rfl, Nat.le_of_ble_eq_true rfl⟩ (Nat.le_of_ble_eq_true rfl) ⟨Nat.le_refl _, Nat.le_refl _⟩ (Or.inl rfl) rfl (x_kn (fun μ38 h38 => ?_))
      refine x_aload_n (pc' := 42) hC dX6_help_41 rfl rfl ?_
      refine x_getR (pc' := 45) (b := 14) hC kf_X6_35 dX6_help_42 (hP 0 _ rfl) rfl rfl ?_
      refine x_getR (pc' := 48) (b := 16) hC kf_X6_103 dX6_help_45 (hP 14 _ rfl) rfl rfl ?_
      refine x_iload_n (pc' := 49) hC dX6_help_48 rfl rfl ?_
      refine x_iconst (pc' := 50) hC dX6_help_49 rfl ?_
      refine x_iast (pc' := 51) hC dX6_help_50 (hP 16 _ rfl) (by omega) (by omega) rfl ?_
      refine x_iload_n (pc' := 52) hC dX6_help_51 rfl rfl ?_
      exact x_iret hC dX6_help_52 (xI.mk (by
      have z := hA.act h38.1 h38.2 (μ2 := xU μ38 16 m 0) (FrI.rf.u (by omega)) ((hN.2.2.frI h38.1 (by omega)).place c8.1 (by omega)) (fun k k0 k1 => by rw [xU_nk (by omega)]; exact (hN.2.1.frI h38.1 (by omega)) k k0 k1)
      exact ⟨by unfold aHelp; rw [if_pos c8, if_neg c24], fun _ => z.1, fun y => absurd ⟨c8, c24⟩ y, z.2⟩))
    · refine x_bipush (pc' := 29) hC dX6_help_27 (by decide) rfl ?_
      exact x_iret hC dX6_help_29 (xI.mk ⟨by unfold aHelp; rw [if_pos c8, if_pos (by omega)], fun z => absurd (by omega) z.2, fun _ => hA, FrI.rf⟩)
  · refine x_iconst (pc' := 12) hC dX6_help_11 rfl ?_
    exact x_iret hC dX6_help_12 (xI.mk ⟨by unfold aHelp; rw [if_neg c8], fun z => absurd z.1 c8, fun _ => hA, FrI.rf⟩)
set_option maxRecDepth 100000 in
set_option maxHeartbeats 4000000 in
theorem k_undo0 {g : xG} {l : Launch} {S : List xS} {μ : xM} {T r : Int → Int} {nt : Int} {tx : Int → Int} {un kp : List (Int → Int)} {sl : List (Int × Int)} (hP : xPre S) (hA : RC μ T r nt tx un kp sl) (hF : WF T r un kp) (hu : un = []) : xCt g l yX6_undo cX6_undo 1 (some .int) 3 82 0 0 [vR g 0] S μ S (xI (fun a μ' => a = -2 ∧ RC μ' T r nt tx un kp sl ∧ FrI 0 81 μ μ')) := by
  refine x_enter (by decide) (Nat.le_of_ble_eq_true rfl) ?_
  intro zp ze zs zm za zb zh zc hC hz0
  have hT := hF.1
  have hR := hF.2.1.1
  have hy := hF.2.1.2
  have t0 := hT.1
  have t1 := hT.2.1
  have t2 := hT.2.2.1
  have t3 := hT.2.2.2.1
  have hN := hA.2.1
  have hm := hN.mi
  have hs := hN.sp
  refine x_aload_n (pc' := 1) hC dX6_undo_0 rfl rfl ?_
  refine x_getR (pc' := 4) (b := 24) hC kf_X6_47 dX6_undo_1 (hP 0 _ rfl) rfl rfl ?_
  refine x_aload_n (pc' := 5) hC dX6_undo_4 rfl rfl ?_
  refine x_getR (pc' := 8) (b := 14) hC kf_X6_35 dX6_undo_5 (hP 0 _ rfl) rfl rfl ?_
  refine x_callV (pc' := 11) (n := 1) hC (c_take0 (r := r) (b2 := 14) (pl2 := 12) (sUnd hP) hu hA.2.2.1) ky_X2_takeLatest kv_X2_takeLatest kl_X6_149 dX6_undo_8 (hP 24 _ rfl) rfl rfl rfl rfl ⟨Nat.le_of_ble_eq_true rfl, Nat.le_of_ble_eq_true rfl⟩ (Nat.le_of_ble_eq_true rfl) ⟨Nat.le_refl _, Nat.le_refl _⟩ (Or.inl rfl) rfl (x_kd ?_)
  refine x_if_eq (tgt := 24) (pc' := 14) hC dX6_undo_11 (by decide) rfl (by omega) (fun c11 => ?_) (fun c11 => ?_)
  · refine x_bipush (pc' := 26) hC dX6_undo_24 (by decide) rfl ?_
    exact x_iret hC dX6_undo_26 (xI.mk ⟨rfl, hA, FrI.rf⟩)
  · exact absurd c11 (by decide)
set_option maxRecDepth 100000 in
set_option maxHeartbeats 4000000 in
theorem k_undo1 {g : xG} {l : Launch} {S : List xS} {μ : xM} {T r : Int → Int} {nt : Int} {tx : Int → Int} {un kp : List (Int → Int)} {sl : List (Int × Int)} {u : Int → Int} {un1 : List (Int → Int)} (hP : xPre S) (hA : RC μ T r nt tx un kp sl) (hF : WF T r un kp) (hu : un = u :: un1) : xCt g l yX6_undo cX6_undo 1 (some .int) 3 82 0 0 [vR g 0] S μ S (xI (fun a μ' => a = un1.length ∧ RC μ' T u nt tx un1 kp sl ∧ FrI 0 81 μ μ')) := by
  refine x_enter (by decide) (Nat.le_of_ble_eq_true rfl) ?_
  intro zp ze zs zm za zb zh zc hC hz0
  have hT := hF.1
  have hR := hF.2.1.1
  have hy := hF.2.1.2
  have t0 := hT.1
  have t1 := hT.2.1
  have t2 := hT.2.2.1
  have t3 := hT.2.2.2.1
  have hN := hA.2.1
  have hm := hN.mi
  have hs := hN.sp
  refine x_aload_n (pc' := 1) hC dX6_undo_0 rfl rfl ?_
  refine x_getR (pc' := 4) (b := 24) hC kf_X6_47 dX6_undo_1 (hP 0 _ rfl) rfl rfl ?_
  refine x_aload_n (pc' := 5) hC dX6_undo_4 rfl rfl ?_
  refine x_getR (pc' := 8) (b := 14) hC kf_X6_35 dX6_undo_5 (hP 0 _ rfl) rfl rfl ?_
  refine x_callV (pc' := 11) (n := 1) hC (c_take1 (r := r) (sUnd hP) hu (sNow hP) (by omega) hT hA.2.2.1) ky_X2_takeLatest kv_X2_takeLatest kl_X6_149 dX6_undo_8 (hP 24 _ rfl) rfl rfl rfl rfl ⟨Nat.le_of_ble_eq_true rfl, Nat.le_of_ble_eq_true rfl⟩ (Nat.le_of_ble_eq_true rfl) ⟨Nat.le_refl _, Nat.le_refl _⟩ (Or.inl rfl) rfl (x_kv (fun μ8 h8 => ?_))
  refine x_if_eq (tgt := 24) (pc' := 14) hC dX6_undo_11 (by decide) rfl (by omega) (fun c11 => ?_) (fun c11 => ?_)
  · exact absurd c11 (by decide)
  · refine x_aload_n (pc' := 15) hC dX6_undo_14 rfl rfl ?_
    refine x_getR (pc' := 18) (b := 24) hC kf_X6_47 dX6_undo_15 (hP 0 _ rfl) rfl rfl ?_
    refine x_getI (j' := 1) (pc' := 21) hC kf_X6_153 dX6_undo_18 (hP 24 _ rfl) rfl rfl rfl ?_
    rw [h8.2.2.2.1]
    refine x_goto (tgt := 26) hC dX6_undo_21 (by decide) ?_
    exact x_iret hC dX6_undo_26 (xI.mk (by
      have z := hA.take (Or.inl rfl) h8.1 h8.2.1 h8.2.2.1 h8.2.2.2 (hA.2.2.2.1.off (Or.inl rfl) h8.1 (by omega) (by omega))
      exact ⟨rfl, z.1, z.2⟩))
set_option maxRecDepth 100000 in
set_option maxHeartbeats 4000000 in
theorem k_governs {g : xG} {l : Launch} {S : List xS} {μ : xM} {T r : Int → Int} {nt : Int} {tx : Int → Int} {un kp : List (Int → Int)} {sl : List (Int × Int)} (hP : xPre S) (hA : RC μ T r nt tx un kp sl) (hF : WF T r un kp) : xCt g l yX6_governs cX6_governs 1 (some .int) 1 22 0 0 [vR g 0] S μ S (xI (fun a μ' => a = gov T r ∧ RC μ' T r nt tx un kp sl ∧ FrI 0 81 μ μ')) := by
  refine x_enter (by decide) (Nat.le_of_ble_eq_true rfl) ?_
  intro zp ze zs zm za zb zh zc hC hz0
  have hT := hF.1
  have hR := hF.2.1.1
  have hy := hF.2.1.2
  have t0 := hT.1
  have t1 := hT.2.1
  have t2 := hT.2.2.1
  have t3 := hT.2.2.2.1
  have hN := hA.2.1
  have hm := hN.mi
  have hs := hN.sp
  refine x_aload_n (pc' := 1) hC dX6_governs_0 rfl rfl ?_
  refine x_getR (pc' := 4) (b := 14) hC kf_X6_35 dX6_governs_1 (hP 0 _ rfl) rfl rfl ?_
  refine x_callV (pc' := 7) (n := 0) hC (c_governor (sNow hP) hN hT hR) ky_X4_governor kv_X4_governor kl_X6_156 dX6_governs_4 (hP 14 _ rfl) rfl rfl rfl rfl ⟨Nat.le_of_ble_eq_true rfl, Nat.le_of_ble_eq_true rfl⟩ (Nat.le_of_ble_eq_true rfl) ⟨Nat.le_refl _, Nat.le_refl _⟩ (Or.inl rfl) rfl (x_kd ?_)
  exact x_iret hC dX6_governs_7 (xI.mk ⟨rfl, hA, FrI.rf⟩)
