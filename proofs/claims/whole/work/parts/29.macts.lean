set_option maxRecDepth 100000 in
set_option maxHeartbeats 4000000 in
theorem q_write {g : xG} {l : Launch} {S : List xS} {μ : xM} {T r : Int → Int} {nt : Int} {tx : Int → Int} {un kp : List (Int → Int)} {sl : List (Int × Int)} {c : Int} (hM : xPreM S) (hA : RM μ T r nt tx un kp sl) (hF : WF T r un kp) (hc : -2147483648 ≤ c ∧ c < 2147483648) : xCt g l yX7_write cX7_write 2 (some .int) 1 25 0 0 [vR g 81, vI c] S μ S (xI (fun a μ' => a = aWrite nt c ∧ RM μ' T r (if okWrite nt c = true then nt + 1 else nt) (if okWrite nt c = true then up tx nt c else tx) un kp sl ∧ FrI 81 92 μ μ')) := by
  refine x_enter (by decide) (Nat.le_of_ble_eq_true rfl) ?_
  intro zp ze zs zm za zb zh zc hC hz0
  have hT := hF.1
  have hR := hF.2.1.1
  have hy := hF.2.1.2
  have t0 := hT.1
  have t1 := hT.2.1
  have t2 := hT.2.2.1
  have t3 := hT.2.2.2.1
  have hQ := hA.2.1
  have hN := hA.2.2.1
  obtain ⟨⟨m0, m1, m2, m3⟩, m4⟩ := hA.2.1
  obtain ⟨e1, e2, e3, e4⟩ := hA.1
  refine x_iload_n (pc' := 1) hC dX7_write_0 rfl rfl ?_
  refine x_i2l (pc' := 2) hC dX7_write_1 (by omega) rfl ?_
  refine x_ldc2 (pc' := 5) (a := 32) hC kc_X7_54 dX7_write_2 (by decide) rfl ?_
  refine x_ldc2 (pc' := 8) (a := 126) hC kc_X7_56 dX7_write_5 (by decide) rfl ?_
  refine x_callS (pc' := 11) (n := 3) hC (m_in (by omega) (by omega) (by omega)) ky_X7_in ks_X7_in kl_X7_58 dX7_write_8 rfl rfl ⟨Nat.le_of_ble_eq_true rfl, Nat.le_of_ble_eq_true rfl⟩ (Nat.le_of_ble_eq_true rfl) ⟨Nat.le_refl _, Nat.le_refl _⟩ (Or.inl rfl) rfl (x_kd ?_)
  refine x_ifb_ne (tgt := 16) (pc' := 14) hC dX7_write_11 (by decide) rfl (fun c11 => ?_) (fun c11 => ?_)
  · refine x_aload_n (pc' := 17) hC dX7_write_16 rfl rfl ?_
    refine x_getI (j' := 0) (pc' := 20) hC kf_X7_62 dX7_write_17 (hM 0 _ rfl) rfl rfl rfl ?_
    rw [e1]
    refine x_sipush (pc' := 23) hC dX7_write_20 (by decide) rfl ?_
    refine x_icmp_ne (tgt := 29) (pc' := 26) hC dX7_write_23 (by decide) rfl (by omega) (by omega) (fun c23 => ?_) (fun c23 => ?_)
    · refine x_aload_n (pc' := 30) hC dX7_write_29 rfl rfl ?_
      refine x_getR (pc' := 33) (b := 82) hC kf_X7_7 dX7_write_30 (hM 0 _ rfl) rfl rfl ?_
      refine x_aload_n (pc' := 34) hC dX7_write_33 rfl rfl ?_
      refine x_getI (j' := 0) (pc' := 37) hC kf_X7_62 dX7_write_34 (hM 0 _ rfl) rfl rfl rfl ?_
      rw [e1]
      refine x_iload_n (pc' := 38) hC dX7_write_37 rfl rfl ?_
      refine x_iast (pc' := 39) hC dX7_write_38 (hM 1 _ rfl) (by omega) (by omega) rfl ?_
      refine x_aload_n (pc' := 40) hC dX7_write_39 rfl rfl ?_
      refine x_dup (pc' := 41) hC dX7_write_40 rfl rfl ?_
      refine x_getI (j' := 0) (pc' := 44) hC kf_X7_62 dX7_write_41 (hM 0 _ rfl) rfl rfl rfl ?_
      rw [xU_nk (by omega), e1]
      refine x_iconst (pc' := 45) hC dX7_write_44 rfl ?_
      refine x_iadd (pc' := 46) hC dX7_write_45 rfl ?_
      refine x_putI (j' := 0) (pc' := 49) hC kf_X7_62 dX7_write_46 (hM 0 _ rfl) rfl rfl rfl rfl rfl ?_
      refine x_aload_n (pc' := 50) hC dX7_write_49 rfl rfl ?_
      refine x_getI (j' := 0) (pc' := 53) hC kf_X7_62 dX7_write_50 (hM 0 _ rfl) rfl rfl rfl ?_
      rw [xU_at2]
      exact x_iret hC dX7_write_53 (xI.mk (by
      have f : FrK 82 0 μ (xU (xU μ 82 nt c) 81 0 (nt + 1)) := FrK_rf.uc.us
      refine ⟨by unfold aWrite; rw [if_pos (by omega), if_pos (by omega)], ?_, f.I (by omega)⟩
      rw [if_pos (by simp [okWrite]; omega), if_pos (by simp [okWrite]; omega)]
      refine ⟨⟨xU_at2, by omega, by omega, fun j j0 j1 => ?_⟩, hA.2.1.K f (by omega), hA.2.2.1.K f (by omega), hA.2.2.2.1.K f (by omega), hA.2.2.2.2.1.K f (by omega), hA.2.2.2.2.2.K f (by omega)⟩
      by_cases hj : j = nt
      · subst hj; rw [xU_nk (by omega), xU_at2, up_at]; omega
      · rw [xU_nk (by omega), xU_nj hj, up_ne hj]; exact e4 j j0 (by omega)))
    · refine x_bipush (pc' := 28) hC dX7_write_26 (by decide) rfl ?_
      exact x_iret hC dX7_write_28 (xI.mk ⟨by unfold aWrite; rw [if_pos (by omega), if_neg (by omega)], by rw [if_neg (by simp [okWrite]; omega), if_neg (by simp [okWrite]; omega)]; exact hA, FrI.rf⟩)
  · refine x_iconst (pc' := 15) hC dX7_write_14 rfl ?_
    exact x_iret hC dX7_write_15 (xI.mk ⟨by unfold aWrite; rw [if_neg (by omega)], by rw [if_neg (by simp [okWrite]; omega), if_neg (by simp [okWrite]; omega)]; exact hA, FrI.rf⟩)
set_option maxRecDepth 100000 in
set_option maxHeartbeats 4000000 in
theorem q_wipe {g : xG} {l : Launch} {S : List xS} {μ : xM} {T r : Int → Int} {nt : Int} {tx : Int → Int} {un kp : List (Int → Int)} {sl : List (Int × Int)} (hM : xPreM S) (hA : RM μ T r nt tx un kp sl) (hF : WF T r un kp) : xCt g l yX7_wipe cX7_wipe 2 (some .int) 0 0 0 0 [vR g 81] S μ S (xI (fun a μ' => a = nt ∧ RM μ' T r 0 tx un kp sl ∧ FrI 81 92 μ μ')) := by
  refine x_enter (by decide) (Nat.le_of_ble_eq_true rfl) ?_
  intro zp ze zs zm za zb zh zc hC hz0
  have hT := hF.1
  have hR := hF.2.1.1
  have hy := hF.2.1.2
  have t0 := hT.1
  have t1 := hT.2.1
  have t2 := hT.2.2.1
  have t3 := hT.2.2.2.1
  have hQ := hA.2.1
  have hN := hA.2.2.1
  obtain ⟨⟨m0, m1, m2, m3⟩, m4⟩ := hA.2.1
  refine x_aload_n (pc' := 1) hC dX7_wipe_0 rfl rfl ?_
  refine x_getI (j' := 0) (pc' := 4) hC kf_X7_62 dX7_wipe_1 (hM 0 _ rfl) rfl rfl rfl ?_
  rw [hA.1.1]
  refine x_istore_n (pc' := 5) hC dX7_wipe_4 (by decide) rfl rfl ?_
  refine x_aload_n (pc' := 6) hC dX7_wipe_5 rfl rfl ?_
  refine x_iconst (pc' := 7) hC dX7_wipe_6 rfl ?_
  refine x_putI (j' := 0) (pc' := 10) hC kf_X7_62 dX7_wipe_7 (hM 0 _ rfl) rfl rfl rfl rfl rfl ?_
  refine x_iload_n (pc' := 11) hC dX7_wipe_10 rfl rfl ?_
  exact x_iret hC dX7_wipe_11 (xI.mk (by
      have f : FrK 82 0 μ (xU μ 81 0 0) := FrK_rf.us
      exact ⟨rfl, ⟨⟨xU_at2, by omega, by omega, fun j j0 j1 => absurd j1 (by omega)⟩, hA.2.1.K f (by omega), hA.2.2.1.K f (by omega), hA.2.2.2.1.K f (by omega), hA.2.2.2.2.1.K f (by omega), hA.2.2.2.2.2.K f (by omega)⟩, f.I (by omega)⟩))
set_option maxRecDepth 100000 in
set_option maxHeartbeats 4000000 in
theorem q_forget {g : xG} {l : Launch} {S : List xS} {μ : xM} {T r : Int → Int} {nt : Int} {tx : Int → Int} {un kp : List (Int → Int)} {sl : List (Int × Int)} (hM : xPreM S) (hA : RM μ T r nt tx un kp sl) (hF : WF T r un kp) : xCt g l yX7_forget cX7_forget 2 (some .int) 0 0 0 0 [vR g 81] S μ S (xI (fun a μ' => a = sl.length ∧ RM μ' T r nt tx un kp [] ∧ FrI 81 92 μ μ')) := by
  refine x_enter (by decide) (Nat.le_of_ble_eq_true rfl) ?_
  intro zp ze zs zm za zb zh zc hC hz0
  have hT := hF.1
  have hR := hF.2.1.1
  have hy := hF.2.1.2
  have t0 := hT.1
  have t1 := hT.2.1
  have t2 := hT.2.2.1
  have t3 := hT.2.2.2.1
  have hQ := hA.2.1
  have hN := hA.2.2.1
  obtain ⟨⟨m0, m1, m2, m3⟩, m4⟩ := hA.2.1
  refine x_aload_n (pc' := 1) hC dX7_forget_0 rfl rfl ?_
  refine x_getI (j' := 13) (pc' := 4) hC kf_X7_98 dX7_forget_1 (hM 0 _ rfl) rfl rfl rfl ?_
  rw [hA.2.2.2.2.2.1]
  refine x_istore_n (pc' := 5) hC dX7_forget_4 (by decide) rfl rfl ?_
  refine x_aload_n (pc' := 6) hC dX7_forget_5 rfl rfl ?_
  refine x_iconst (pc' := 7) hC dX7_forget_6 rfl ?_
  refine x_putI (j' := 13) (pc' := 10) hC kf_X7_98 dX7_forget_7 (hM 0 _ rfl) rfl rfl rfl rfl rfl ?_
  refine x_iload_n (pc' := 11) hC dX7_forget_10 rfl rfl ?_
  exact x_iret hC dX7_forget_11 (xI.mk (by
      have f : FrK 90 13 μ (xU μ 81 13 0) := FrK_rf.us
      exact ⟨rfl, ⟨hA.1.K f (by omega), hA.2.1.K f (by omega), hA.2.2.1.K f (by omega), hA.2.2.2.1.K f (by omega), hA.2.2.2.2.1.K f (by omega), ⟨by rw [xU_at2]; rfl, by simp, fun i q hq => by simp at hq⟩⟩, f.I (by omega)⟩))
set_option maxRecDepth 100000 in
set_option maxHeartbeats 4000000 in
theorem q_minister {g : xG} {l : Launch} {S : List xS} {μ : xM} {T r : Int → Int} {nt : Int} {tx : Int → Int} {un kp : List (Int → Int)} {sl : List (Int × Int)} {m w : Int} (hM : xPreM S) (hA : RM μ T r nt tx un kp sl) (hF : WF T r un kp) (hm : -2147483648 ≤ m ∧ m < 2147483648) (hw : -2147483648 ≤ w ∧ w < 2147483648) : xCt g l yX7_minister cX7_minister 3 (some .int) 2 46 0 0 [vR g 81, vI m, vI w] S μ S (xI (fun a μ' => a = aMin T r m w ∧ RM μ' T r nt tx un kp sl ∧ FrI 81 92 μ μ')) := by
  refine x_enter (by decide) (Nat.le_of_ble_eq_true rfl) ?_
  intro zp ze zs zm za zb zh zc hC hz0
  have hT := hF.1
  have hR := hF.2.1.1
  have hy := hF.2.1.2
  have t0 := hT.1
  have t1 := hT.2.1
  have t2 := hT.2.2.1
  have t3 := hT.2.2.2.1
  have hQ := hA.2.1
  have hN := hA.2.2.1
  obtain ⟨⟨m0, m1, m2, m3⟩, m4⟩ := hA.2.1
  refine x_aload_n (pc' := 1) hC dX7_minister_0 rfl rfl ?_
  refine x_iload_n (pc' := 2) hC dX7_minister_1 rfl rfl ?_
  refine x_callV (pc' := 5) (n := 1) hC (m_isOne hM hT hQ (by omega)) ky_X7_isOne kv_X7_isOne kl_X7_131 dX7_minister_2 (hM 0 _ rfl) rfl rfl rfl rfl ⟨Nat.le_of_ble_eq_true rfl, Nat.le_of_ble_eq_true rfl⟩ (Nat.le_of_ble_eq_true rfl) ⟨Nat.le_refl _, Nat.le_refl _⟩ (Or.inl rfl) rfl (x_kd ?_)
  refine x_ifb_eq (tgt := 20) (pc' := 8) hC dX7_minister_5 (by decide) rfl (fun c5 => ?_) (fun c5 => ?_)
  · refine x_iconst (pc' := 21) hC dX7_minister_20 rfl ?_
    exact x_iret hC dX7_minister_21 (xI.mk ⟨by unfold aMin; first | rw [if_neg c5] | (rw [if_pos c5]; rw [if_neg (by omega), if_neg (by omega), if_neg (by omega), if_neg (by omega), if_neg (by omega)]), hA, FrI.rf⟩)
  · refine x_iload_n (pc' := 9) hC dX7_minister_8 rfl rfl ?_
    refine x_i2l (pc' := 10) hC dX7_minister_9 (by omega) rfl ?_
    refine x_lconst (pc' := 11) (a := 0) hC dX7_minister_10 (by decide) rfl ?_
    refine x_ldc2 (pc' := 14) (a := 4) hC kc_X7_134 dX7_minister_11 (by decide) rfl ?_
    refine x_callS (pc' := 17) (n := 3) hC (m_in (by omega) (by omega) (by omega)) ky_X7_in ks_X7_in kl_X7_58 dX7_minister_14 rfl rfl ⟨Nat.le_of_ble_eq_true rfl, Nat.le_of_ble_eq_true rfl⟩ (Nat.le_of_ble_eq_true rfl) ⟨Nat.le_refl _, Nat.le_refl _⟩ (Or.inl rfl) rfl (x_kd ?_)
    refine x_ifb_ne (tgt := 22) (pc' := 20) hC dX7_minister_17 (by decide) rfl (fun c17 => ?_) (fun c17 => ?_)
    · have q3 := lack_rg hT hR c5
      have hm1 : T (4 + m) = T (4 + m) ∧ True := ⟨rfl, trivial⟩
      refine x_aload_n (pc' := 23) hC dX7_minister_22 rfl rfl ?_
      refine x_callV (pc' := 26) (n := 0) hC (m_aside hM hN) ky_X7_aside kv_X7_aside kl_X7_136 dX7_minister_23 (hM 0 _ rfl) rfl rfl rfl rfl ⟨Nat.le_of_ble_eq_true rfl, Nat.le_of_ble_eq_true rfl⟩ (Nat.le_of_ble_eq_true rfl) ⟨Nat.le_refl _, Nat.le_refl _⟩ (Or.inl rfl) rfl (x_kn (fun μ23 h23 => ?_))
      refine x_iload_n (pc' := 27) hC dX7_minister_26 rfl rfl ?_
      have w27 : w = 0 ∨ w = 1 ∨ w = 2 ∨ w = 3 ∨ (w < 0 ∨ 3 < w) := by omega
      rcases w27 with w27 | w27 | w27 | w27 | w27
      · refine x_tabIn (off := 29) (tgt := 56) hC dX7_minister_27 (by omega) (by omega) (by rw [w27]; rfl) (by decide) ?_
        refine x_aload_n (pc' := 57) hC dX7_minister_56 rfl rfl ?_
        refine x_getR (pc' := 60) (b := 83) hC kf_X7_13 dX7_minister_57 (hM 0 _ rfl) rfl rfl ?_
        refine x_iconst (pc' := 61) hC dX7_minister_60 rfl ?_
        refine x_iload_n (pc' := 62) hC dX7_minister_61 rfl rfl ?_
        refine x_iadd (pc' := 63) hC dX7_minister_62 rfl ?_
        refine x_iald (pc' := 64) hC dX7_minister_63 (hM 2 _ rfl) (by omega) (by decide) rfl ?_
        rw [h23.1 _ _ (by omega), (m4 m c5.1 c5.2).1]
        exact x_iret hC dX7_minister_64 (xI.mk ⟨by unfold aMin; rw [if_pos c5]; first | (rw [if_neg (by omega), if_neg (by omega), if_neg (by omega), if_neg (by omega), if_pos (by omega)]; first | rw [if_pos (by omega)] | rw [if_neg (by omega)]) | rw [if_neg (by omega), if_neg (by omega), if_neg (by omega), if_pos w27] | rw [if_neg (by omega), if_neg (by omega), if_pos w27] | rw [if_neg (by omega), if_pos w27] | rw [if_pos w27], hA.scr h23.1 (by omega), h23.1.mono (by omega) (by omega)⟩)
      · refine x_tabIn (off := 38) (tgt := 65) hC dX7_minister_27 (by omega) (by omega) (by rw [w27]; rfl) (by decide) ?_
        refine x_aload_n (pc' := 66) hC dX7_minister_65 rfl rfl ?_
        refine x_getR (pc' := 69) (b := 85) hC kf_X7_19 dX7_minister_66 (hM 0 _ rfl) rfl rfl ?_
        refine x_bipush (pc' := 71) hC dX7_minister_69 (by decide) rfl ?_
        refine x_iload_n (pc' := 72) hC dX7_minister_71 rfl rfl ?_
        refine x_iadd (pc' := 73) hC dX7_minister_72 rfl ?_
        refine x_iald (pc' := 74) hC dX7_minister_73 (hM 4 _ rfl) (by omega) (by decide) rfl ?_
        rw [h23.1 _ _ (by omega), hN (18 + m) (by omega) (by omega)]
        exact x_iret hC dX7_minister_74 (xI.mk ⟨by unfold aMin; rw [if_pos c5]; first | (rw [if_neg (by omega), if_neg (by omega), if_neg (by omega), if_neg (by omega), if_pos (by omega)]; first | rw [if_pos (by omega)] | rw [if_neg (by omega)]) | rw [if_neg (by omega), if_neg (by omega), if_neg (by omega), if_pos w27] | rw [if_neg (by omega), if_neg (by omega), if_pos w27] | rw [if_neg (by omega), if_pos w27] | rw [if_pos w27], hA.scr h23.1 (by omega), h23.1.mono (by omega) (by omega)⟩)
      · refine x_tabIn (off := 48) (tgt := 75) hC dX7_minister_27 (by omega) (by omega) (by rw [w27]; rfl) (by decide) ?_
        refine x_aload_n (pc' := 76) hC dX7_minister_75 rfl rfl ?_
        refine x_getR (pc' := 79) (b := 83) hC kf_X7_13 dX7_minister_76 (hM 0 _ rfl) rfl rfl ?_
        refine x_bipush (pc' := 81) hC dX7_minister_79 (by decide) rfl ?_
        refine x_iload_n (pc' := 82) hC dX7_minister_81 rfl rfl ?_
        refine x_iadd (pc' := 83) hC dX7_minister_82 rfl ?_
        refine x_iald (pc' := 84) hC dX7_minister_83 (hM 2 _ rfl) (by omega) (by decide) rfl ?_
        rw [h23.1 _ _ (by omega), (m4 m c5.1 c5.2).2]
        exact x_iret hC dX7_minister_84 (xI.mk ⟨by unfold aMin; rw [if_pos c5]; first | (rw [if_neg (by omega), if_neg (by omega), if_neg (by omega), if_neg (by omega), if_pos (by omega)]; first | rw [if_pos (by omega)] | rw [if_neg (by omega)]) | rw [if_neg (by omega), if_neg (by omega), if_neg (by omega), if_pos w27] | rw [if_neg (by omega), if_neg (by omega), if_pos w27] | rw [if_neg (by omega), if_pos w27] | rw [if_pos w27], hA.scr h23.1 (by omega), h23.1.mono (by omega) (by omega)⟩)
      · refine x_tabIn (off := 58) (tgt := 85) hC dX7_minister_27 (by omega) (by omega) (by rw [w27]; rfl) (by decide) ?_
        refine x_aload_n (pc' := 86) hC dX7_minister_85 rfl rfl ?_
        refine x_getR (pc' := 89) (b := 85) hC kf_X7_19 dX7_minister_86 (hM 0 _ rfl) rfl rfl ?_
        refine x_bipush (pc' := 91) hC dX7_minister_89 (by decide) rfl ?_
        refine x_iload_n (pc' := 92) hC dX7_minister_91 rfl rfl ?_
        refine x_iadd (pc' := 93) hC dX7_minister_92 rfl ?_
        refine x_iald (pc' := 94) hC dX7_minister_93 (hM 4 _ rfl) (by omega) (by decide) rfl ?_
        rw [h23.1 _ _ (by omega), hN (25 + m) (by omega) (by omega)]
        exact x_iret hC dX7_minister_94 (xI.mk ⟨by unfold aMin; rw [if_pos c5]; first | (rw [if_neg (by omega), if_neg (by omega), if_neg (by omega), if_neg (by omega), if_pos (by omega)]; first | rw [if_pos (by omega)] | rw [if_neg (by omega)]) | rw [if_neg (by omega), if_neg (by omega), if_neg (by omega), if_pos w27] | rw [if_neg (by omega), if_neg (by omega), if_pos w27] | rw [if_neg (by omega), if_pos w27] | rw [if_pos w27], hA.scr h23.1 (by omega), h23.1.mono (by omega) (by omega)⟩)
      · refine x_tabOut (tgt := 95) hC dX7_minister_27 (by omega) (by omega) (by decide) ?_
        refine x_aload_n (pc' := 96) hC dX7_minister_95 rfl rfl ?_
        refine x_iload_n (pc' := 97) hC dX7_minister_96 rfl rfl ?_
        refine x_callV (pc' := 100) (n := 1) hC (m_lack hM hT hR (hA.sd h23.1 h23.2) c5) ky_X7_lack kv_X7_lack kl_X7_114 dX7_minister_97 (hM 0 _ rfl) rfl rfl rfl rfl ⟨Nat.le_of_ble_eq_true rfl, Nat.le_of_ble_eq_true rfl⟩ (Nat.le_of_ble_eq_true rfl) ⟨Nat.le_refl _, Nat.le_refl _⟩ (Or.inl rfl) rfl (x_kd ?_)
        refine x_if_le (tgt := 107) (pc' := 103) hC dX7_minister_100 (by decide) rfl (by omega) (fun c100 => ?_) (fun c100 => ?_)
        · refine x_iconst (pc' := 108) hC dX7_minister_107 rfl ?_
          exact x_iret hC dX7_minister_108 (xI.mk ⟨by unfold aMin; rw [if_pos c5]; first | (rw [if_neg (by omega), if_neg (by omega), if_neg (by omega), if_neg (by omega), if_pos (by omega)]; first | rw [if_pos (by omega)] | rw [if_neg (by omega)]) | rw [if_neg (by omega), if_neg (by omega), if_neg (by omega), if_pos w27] | rw [if_neg (by omega), if_neg (by omega), if_pos w27] | rw [if_neg (by omega), if_pos w27] | rw [if_pos w27], hA.scr h23.1 (by omega), h23.1.mono (by omega) (by omega)⟩)
        · refine x_iconst (pc' := 104) hC dX7_minister_103 rfl ?_
          refine x_goto (tgt := 108) hC dX7_minister_104 (by decide) ?_
          exact x_iret hC dX7_minister_108 (xI.mk ⟨by unfold aMin; rw [if_pos c5]; first | (rw [if_neg (by omega), if_neg (by omega), if_neg (by omega), if_neg (by omega), if_pos (by omega)]; first | rw [if_pos (by omega)] | rw [if_neg (by omega)]) | rw [if_neg (by omega), if_neg (by omega), if_neg (by omega), if_pos w27] | rw [if_neg (by omega), if_neg (by omega), if_pos w27] | rw [if_neg (by omega), if_pos w27] | rw [if_pos w27], hA.scr h23.1 (by omega), h23.1.mono (by omega) (by omega)⟩)
    · refine x_iconst (pc' := 21) hC dX7_minister_20 rfl ?_
      exact x_iret hC dX7_minister_21 (xI.mk ⟨by unfold aMin; first | rw [if_neg c5] | (rw [if_pos c5]; rw [if_neg (by omega), if_neg (by omega), if_neg (by omega), if_neg (by omega), if_neg (by omega)]), hA, FrI.rf⟩)
set_option maxRecDepth 100000 in
set_option maxHeartbeats 4000000 in
theorem q_pass {g : xG} {l : Launch} {S : List xS} {μ : xM} {T r : Int → Int} {nt : Int} {tx : Int → Int} {un kp : List (Int → Int)} {sl : List (Int × Int)} {n : Int} (hM : xPreM S) (hA : RM μ T r nt tx un kp sl) (hF : WF T r un kp) (hn : -2147483648 ≤ n ∧ n < 2147483648) : xCt g l yX7_pass cX7_pass 2 (some .int) 6 132 0 0 [vR g 81, vI n] S μ S (xI (fun a μ' => a = aPass T r n ∧ (okPass r n → RM μ' T (goYears T n.toNat r) nt tx (push r un) kp sl) ∧ (¬ okPass r n → RM μ' T r nt tx un kp sl) ∧ FrI 81 92 μ μ')) := by
  refine x_enter (by decide) (Nat.le_of_ble_eq_true rfl) ?_
  intro zp ze zs zm za zb zh zc hC hz0
  have hT := hF.1
  have hR := hF.2.1.1
  have hy := hF.2.1.2
  have t0 := hT.1
  have t1 := hT.2.1
  have t2 := hT.2.2.1
  have t3 := hT.2.2.2.1
  have hQ := hA.2.1
  have hN := hA.2.2.1
  obtain ⟨⟨m0, m1, m2, m3⟩, m4⟩ := hA.2.1
  refine x_iload_n (pc' := 1) hC dX7_pass_0 rfl rfl ?_
  refine x_i2l (pc' := 2) hC dX7_pass_1 (by omega) rfl ?_
  refine x_lconst (pc' := 3) (a := 1) hC dX7_pass_2 (by decide) rfl ?_
  refine x_ldc2 (pc' := 6) (a := 40) hC kc_X7_142 dX7_pass_3 (by decide) rfl ?_
  refine x_callS (pc' := 9) (n := 3) hC (m_in (by omega) (by omega) (by omega)) ky_X7_in ks_X7_in kl_X7_58 dX7_pass_6 rfl rfl ⟨Nat.le_of_ble_eq_true rfl, Nat.le_of_ble_eq_true rfl⟩ (Nat.le_of_ble_eq_true rfl) ⟨Nat.le_refl _, Nat.le_refl _⟩ (Or.inl rfl) rfl (x_kd ?_)
  refine x_ifb_ne (tgt := 14) (pc' := 12) hC dX7_pass_9 (by decide) rfl (fun c9 => ?_) (fun c9 => ?_)
  · refine x_aload_n (pc' := 15) hC dX7_pass_14 rfl rfl ?_
    refine x_getR (pc' := 18) (b := 85) hC kf_X7_19 dX7_pass_15 (hM 0 _ rfl) rfl rfl ?_
    refine x_iconst (pc' := 19) hC dX7_pass_18 rfl ?_
    refine x_iald (pc' := 20) hC dX7_pass_19 (hM 4 _ rfl) (by omega) (by decide) rfl ?_
    rw [hN 0 (by omega) (by omega)]
    refine x_iload_n (pc' := 21) hC dX7_pass_20 rfl rfl ?_
    refine x_iadd (pc' := 22) hC dX7_pass_21 rfl ?_
    refine x_sipush (pc' := 25) hC dX7_pass_22 (by decide) rfl ?_
    refine x_icmp_le (tgt := 31) (pc' := 28) hC dX7_pass_25 (by decide) rfl (by omega) (by omega) (fun c25 => ?_) (fun c25 => ?_)
    · refine x_aload_n (pc' := 32) hC dX7_pass_31 rfl rfl ?_
      refine x_callV (pc' := 35) (n := 0) hC (m_note hM hN hA.2.2.2.1) ky_X7_note kv_X7_note kl_X7_144 dX7_pass_32 (hM 0 _ rfl) rfl rfl rfl rfl ⟨Nat.le_of_ble_eq_true rfl, Nat.le_of_ble_eq_true rfl⟩ (Nat.le_of_ble_eq_true rfl) ⟨Nat.le_refl _, Nat.le_refl _⟩ (Or.inl rfl) rfl (x_kn (fun μ32 h32 => ?_))
      refine x_aload_n (pc' := 36) hC dX7_pass_35 rfl rfl ?_
      refine x_callV (pc' := 39) (n := 0) hC (m_aside hM (hN.K h32.1 (by omega))) ky_X7_aside kv_X7_aside kl_X7_136 dX7_pass_36 (hM 0 _ rfl) rfl rfl rfl rfl ⟨Nat.le_of_ble_eq_true rfl, Nat.le_of_ble_eq_true rfl⟩ (Nat.le_of_ble_eq_true rfl) ⟨Nat.le_refl _, Nat.le_refl _⟩ (Or.inl rfl) rfl (x_kn (fun μ36 h36 => ?_))
      refine x_aload_n (pc' := 40) hC dX7_pass_39 rfl rfl ?_
      refine x_iload_n (pc' := 41) hC dX7_pass_40 rfl rfl ?_
      refine x_callV (pc' := 44) (n := 1) hC (m_goYears (N := n.toNat) hM hT hR ⟨(hQ.K h32.1 (by omega)).fr h36.1 (by omega), h36.2⟩ (by omega) (by omega)) ky_X7_goYears kv_X7_goYears kl_X7_147 dX7_pass_41 (hM 0 _ rfl) rfl rfl rfl rfl ⟨Nat.le_of_ble_eq_true rfl, Nat.le_of_ble_eq_true rfl⟩ (Nat.le_of_ble_eq_true rfl) ⟨Nat.le_refl _, Nat.le_refl _⟩ (Or.inl rfl) rfl (x_kn (fun μ41 h41 => ?_))
      refine x_aload_n (pc' := 45) hC dX7_pass_44 rfl rfl ?_
      refine x_callV (pc' := 48) (n := 0) hC (m_take hM h41.2) ky_X7_take kv_X7_take kl_X7_150 dX7_pass_45 (hM 0 _ rfl) rfl rfl rfl rfl ⟨Nat.le_of_ble_eq_true rfl, Nat.le_of_ble_eq_true rfl⟩ (Nat.le_of_ble_eq_true rfl) ⟨Nat.le_refl _, Nat.le_refl _⟩ (Or.inl rfl) rfl (x_kn (fun μ45 h45 => ?_))
      refine x_aload_n (pc' := 49) hC dX7_pass_48 rfl rfl ?_
      refine x_getR (pc' := 52) (b := 85) hC kf_X7_19 dX7_pass_49 (hM 0 _ rfl) rfl rfl ?_
      refine x_iconst (pc' := 53) hC dX7_pass_52 rfl ?_
      refine x_iald (pc' := 54) hC dX7_pass_53 (hM 4 _ rfl) (by omega) (by decide) rfl ?_
      rw [h45.2 0 (by omega) (by omega)]
      exact x_iret hC dX7_pass_54 (xI.mk (by
      have z := ((((hA.note h32.1 h32.2).scr h36.1 (by omega)).scr h41.1 (by omega)).now h45.1 h45.2)
      exact ⟨by unfold aPass; rw [if_pos c9, if_neg (by omega)], fun _ => z, fun y => absurd ⟨c9, by omega⟩ y, (((h32.1.I (by omega)).tr (h36.1.mono (by omega) (by omega))).tr (h41.1.mono (by omega) (by omega))).tr (h45.1.mono (by omega) (by omega))⟩))
    · refine x_bipush (pc' := 30) hC dX7_pass_28 (by decide) rfl ?_
      exact x_iret hC dX7_pass_30 (xI.mk ⟨by unfold aPass; rw [if_pos c9, if_pos (by omega)], fun z => absurd (by omega) z.2, fun _ => hA, FrI.rf⟩)
  · refine x_iconst (pc' := 13) hC dX7_pass_12 rfl ?_
    exact x_iret hC dX7_pass_13 (xI.mk ⟨by unfold aPass; rw [if_neg c9], fun z => absurd z.1 c9, fun _ => hA, FrI.rf⟩)
set_option maxRecDepth 100000 in
set_option maxHeartbeats 4000000 in
theorem q_wax {g : xG} {l : Launch} {S : List xS} {μ : xM} {T r : Int → Int} {nt : Int} {tx : Int → Int} {un kp : List (Int → Int)} {sl : List (Int × Int)} {x : Int} (hM : xPreM S) (hA : RM μ T r nt tx un kp sl) (hF : WF T r un kp) (hx : -2147483648 ≤ x ∧ x < 2147483648) : xCt g l yX7_wax cX7_wax 2 (some .int) 2 46 0 0 [vR g 81, vI x] S μ S (xI (fun a μ' => a = aWax T r x ∧ (okWax T r x → RM μ' T (rWax r x) nt tx (push r un) kp sl) ∧ (¬ okWax T r x → RM μ' T r nt tx un kp sl) ∧ FrI 81 92 μ μ')) := by
  refine x_enter (by decide) (Nat.le_of_ble_eq_true rfl) ?_
  intro zp ze zs zm za zb zh zc hC hz0
  have hT := hF.1
  have hR := hF.2.1.1
  have hy := hF.2.1.2
  have t0 := hT.1
  have t1 := hT.2.1
  have t2 := hT.2.2.1
  have t3 := hT.2.2.2.1
  have hQ := hA.2.1
  have hN := hA.2.2.1
  obtain ⟨⟨m0, m1, m2, m3⟩, m4⟩ := hA.2.1
  have hR2 := hR.2.2
  refine x_aload_n (pc' := 1) hC dX7_wax_0 rfl rfl ?_
  refine x_iload_n (pc' := 2) hC dX7_wax_1 rfl rfl ?_
  refine x_callV (pc' := 5) (n := 1) hC (m_isStep hM hT hQ (by omega)) ky_X7_isStep kv_X7_isStep kl_X7_139 dX7_wax_2 (hM 0 _ rfl) rfl rfl rfl rfl ⟨Nat.le_of_ble_eq_true rfl, Nat.le_of_ble_eq_true rfl⟩ (Nat.le_of_ble_eq_true rfl) ⟨Nat.le_refl _, Nat.le_refl _⟩ (Or.inl rfl) rfl (x_kd ?_)
  refine x_ifb_ne (tgt := 10) (pc' := 8) hC dX7_wax_5 (by decide) rfl (fun c5 => ?_) (fun c5 => ?_)
  · have q3 := hR.1 x (by omega) (by omega)
    refine x_aload_n (pc' := 11) hC dX7_wax_10 rfl rfl ?_
    refine x_getR (pc' := 14) (b := 85) hC kf_X7_19 dX7_wax_11 (hM 0 _ rfl) rfl rfl ?_
    refine x_iconst (pc' := 15) hC dX7_wax_14 rfl ?_
    refine x_iload_n (pc' := 16) hC dX7_wax_15 rfl rfl ?_
    refine x_iadd (pc' := 17) hC dX7_wax_16 rfl ?_
    refine x_iald (pc' := 18) hC dX7_wax_17 (hM 4 _ rfl) (by omega) (by decide) rfl ?_
    rw [hN (2 + x) (by omega) (by omega)]
    refine x_bipush (pc' := 20) hC dX7_wax_18 (by decide) rfl ?_
    refine x_icmp_eq (tgt := 32) (pc' := 23) hC dX7_wax_20 (by decide) rfl (by omega) (by omega) (fun c20 => ?_) (fun c20 => ?_)
    · refine x_bipush (pc' := 34) hC dX7_wax_32 (by decide) rfl ?_
      exact x_iret hC dX7_wax_34 (xI.mk ⟨by unfold aWax; rw [if_pos c5, if_pos (by omega)], fun z => absurd (by omega) z.2, fun _ => hA, FrI.rf⟩)
    · refine x_aload_n (pc' := 24) hC dX7_wax_23 rfl rfl ?_
      refine x_getR (pc' := 27) (b := 85) hC kf_X7_19 dX7_wax_24 (hM 0 _ rfl) rfl rfl ?_
      refine x_iconst (pc' := 28) hC dX7_wax_27 rfl ?_
      refine x_iald (pc' := 29) hC dX7_wax_28 (hM 4 _ rfl) (by omega) (by decide) rfl ?_
      rw [hN 1 (by omega) (by omega)]
      refine x_if_ne (tgt := 35) (pc' := 32) hC dX7_wax_29 (by decide) rfl (by omega) (fun c29 => ?_) (fun c29 => ?_)
      · refine x_aload_n (pc' := 36) hC dX7_wax_35 rfl rfl ?_
        refine x_callV (pc' := 39) (n := 0) hC (m_note hM hN hA.2.2.2.1) ky_X7_note kv_X7_note kl_X7_144 dX7_wax_36 (hM 0 _ rfl) rfl rfl rfl rfl ⟨Nat.le_of_ble_eq_true rfl, Nat.le_of_ble_eq_true rfl⟩ (Nat.le_of_ble_eq_true rfl) ⟨Nat.le_refl _, Nat.le_refl _⟩ (Or.inl rfl) rfl (x_kn (fun μ36 h36 => ?_))
        refine x_aload_n (pc' := 40) hC dX7_wax_39 rfl rfl ?_
        refine x_getR (pc' := 43) (b := 85) hC kf_X7_19 dX7_wax_40 (hM 0 _ rfl) rfl rfl ?_
        refine x_iconst (pc' := 44) hC dX7_wax_43 rfl ?_
        refine x_dup2 (pc' := 45) hC dX7_wax_44 rfl rfl rfl ?_
        refine x_iald (pc' := 46) hC dX7_wax_45 (hM 4 _ rfl) (by omega) (by decide) rfl ?_
        rw [h36.1 _ _ (by omega) (by omega), hN 1 (by omega) (by omega)]
        refine x_iconst (pc' := 47) hC dX7_wax_46 rfl ?_
        refine x_isub (pc' := 48) hC dX7_wax_47 rfl ?_
        refine x_iast (pc' := 49) hC dX7_wax_48 (hM 4 _ rfl) (by omega) (by omega) rfl ?_
        refine x_aload_n (pc' := 50) hC dX7_wax_49 rfl rfl ?_
        refine x_getR (pc' := 53) (b := 85) hC kf_X7_19 dX7_wax_50 (hM 0 _ rfl) rfl rfl ?_
        refine x_iconst (pc' := 54) hC dX7_wax_53 rfl ?_
        refine x_iload_n (pc' := 55) hC dX7_wax_54 rfl rfl ?_
        refine x_iadd (pc' := 56) hC dX7_wax_55 rfl ?_
        refine x_dup2 (pc' := 57) hC dX7_wax_56 rfl rfl rfl ?_
        refine x_iald (pc' := 58) hC dX7_wax_57 (hM 4 _ rfl) (by omega) (by decide) rfl ?_
        rw [xU_nj (by omega), h36.1 _ _ (by omega) (by omega), hN (2 + x) (by omega) (by omega)]
        refine x_iconst (pc' := 59) hC dX7_wax_58 rfl ?_
        refine x_iadd (pc' := 60) hC dX7_wax_59 rfl ?_
        refine x_iast (pc' := 61) hC dX7_wax_60 (hM 4 _ rfl) (by omega) (by omega) rfl ?_
        refine x_aload_n (pc' := 62) hC dX7_wax_61 rfl rfl ?_
        refine x_getR (pc' := 65) (b := 85) hC kf_X7_19 dX7_wax_62 (hM 0 _ rfl) rfl rfl ?_
        refine x_iconst (pc' := 66) hC dX7_wax_65 rfl ?_
        refine x_iload_n (pc' := 67) hC dX7_wax_66 rfl rfl ?_
        refine x_iadd (pc' := 68) hC dX7_wax_67 rfl ?_
        refine x_iald (pc' := 69) hC dX7_wax_68 (hM 4 _ rfl) (by omega) (by decide) rfl ?_
        rw [xU_at2]
        exact x_iret hC dX7_wax_69 (xI.mk (by
      have hN1 := hN.K h36.1 (by omega)
      have e : rWax r x = up (up r 1 (r 1 - 1)) (2 + x) (r (2 + x) + 1) := by
        unfold rWax waxBy; rw [up_ne (show 2 + x ≠ 1 by omega), show max 0 (min 9 (r (2 + x) + 1)) = r (2 + x) + 1 by omega]
      have f : FrI 85 86 μ36 (xU (xU μ36 85 1 (r 1 - 1)) 85 (2 + x) (r (2 + x) + 1)) := (FrI.rf.u (by omega)).u (by omega)
      have z := (hA.note h36.1 h36.2).now f hN1.u.u
      rw [e]
      exact ⟨by unfold aWax; rw [if_pos c5, if_neg (by omega), e, up_at], fun _ => z, fun y => absurd ⟨c5, by omega⟩ y, (h36.1.I (by omega)).tr (f.mono (by omega) (by omega))⟩))
      · refine x_bipush (pc' := 34) hC dX7_wax_32 (by decide) rfl ?_
        exact x_iret hC dX7_wax_34 (xI.mk ⟨by unfold aWax; rw [if_pos c5, if_pos (by omega)], fun z => absurd (by omega) z.2, fun _ => hA, FrI.rf⟩)
  · refine x_iconst (pc' := 9) hC dX7_wax_8 rfl ?_
    exact x_iret hC dX7_wax_9 (xI.mk ⟨by unfold aWax; rw [if_neg c5], fun z => absurd z.1 c5, fun _ => hA, FrI.rf⟩)
set_option maxRecDepth 100000 in
set_option maxHeartbeats 4000000 in
theorem q_sand {g : xG} {l : Launch} {S : List xS} {μ : xM} {T r : Int → Int} {nt : Int} {tx : Int → Int} {un kp : List (Int → Int)} {sl : List (Int × Int)} {x : Int} (hM : xPreM S) (hA : RM μ T r nt tx un kp sl) (hF : WF T r un kp) (hx : -2147483648 ≤ x ∧ x < 2147483648) : xCt g l yX7_sand cX7_sand 2 (some .int) 2 46 0 0 [vR g 81, vI x] S μ S (xI (fun a μ' => a = aSand T r x ∧ (okSand T r x → RM μ' T (rSand r x) nt tx (push r un) kp sl) ∧ (¬ okSand T r x → RM μ' T r nt tx un kp sl) ∧ FrI 81 92 μ μ')) := by
  refine x_enter (by decide) (Nat.le_of_ble_eq_true rfl) ?_
  intro zp ze zs zm za zb zh zc hC hz0
  have hT := hF.1
  have hR := hF.2.1.1
  have hy := hF.2.1.2
  have t0 := hT.1
  have t1 := hT.2.1
  have t2 := hT.2.2.1
  have t3 := hT.2.2.2.1
  have hQ := hA.2.1
  have hN := hA.2.2.1
  obtain ⟨⟨m0, m1, m2, m3⟩, m4⟩ := hA.2.1
  have hR2 := hR.2.2
  refine x_aload_n (pc' := 1) hC dX7_sand_0 rfl rfl ?_
  refine x_iload_n (pc' := 2) hC dX7_sand_1 rfl rfl ?_
  refine x_callV (pc' := 5) (n := 1) hC (m_isStep hM hT hQ (by omega)) ky_X7_isStep kv_X7_isStep kl_X7_139 dX7_sand_2 (hM 0 _ rfl) rfl rfl rfl rfl ⟨Nat.le_of_ble_eq_true rfl, Nat.le_of_ble_eq_true rfl⟩ (Nat.le_of_ble_eq_true rfl) ⟨Nat.le_refl _, Nat.le_refl _⟩ (Or.inl rfl) rfl (x_kd ?_)
  refine x_ifb_ne (tgt := 10) (pc' := 8) hC dX7_sand_5 (by decide) rfl (fun c5 => ?_) (fun c5 => ?_)
  · have q3 := hR.1 x (by omega) (by omega)
    refine x_aload_n (pc' := 11) hC dX7_sand_10 rfl rfl ?_
    refine x_getR (pc' := 14) (b := 85) hC kf_X7_19 dX7_sand_11 (hM 0 _ rfl) rfl rfl ?_
    refine x_iconst (pc' := 15) hC dX7_sand_14 rfl ?_
    refine x_iload_n (pc' := 16) hC dX7_sand_15 rfl rfl ?_
    refine x_iadd (pc' := 17) hC dX7_sand_16 rfl ?_
    refine x_iald (pc' := 18) hC dX7_sand_17 (hM 4 _ rfl) (by omega) (by decide) rfl ?_
    rw [hN (2 + x) (by omega) (by omega)]
    refine x_if_eq (tgt := 31) (pc' := 21) hC dX7_sand_18 (by decide) rfl (by omega) (fun c18 => ?_) (fun c18 => ?_)
    · refine x_bipush (pc' := 33) hC dX7_sand_31 (by decide) rfl ?_
      exact x_iret hC dX7_sand_33 (xI.mk ⟨by unfold aSand; rw [if_pos c5, if_pos (by omega)], fun z => absurd (by omega) z.2, fun _ => hA, FrI.rf⟩)
    · refine x_aload_n (pc' := 22) hC dX7_sand_21 rfl rfl ?_
      refine x_getR (pc' := 25) (b := 85) hC kf_X7_19 dX7_sand_22 (hM 0 _ rfl) rfl rfl ?_
      refine x_iconst (pc' := 26) hC dX7_sand_25 rfl ?_
      refine x_iald (pc' := 27) hC dX7_sand_26 (hM 4 _ rfl) (by omega) (by decide) rfl ?_
      rw [hN 1 (by omega) (by omega)]
      refine x_iconst (pc' := 28) hC dX7_sand_27 rfl ?_
      refine x_icmp_ge (tgt := 34) (pc' := 31) hC dX7_sand_28 (by decide) rfl (by omega) (by omega) (fun c28 => ?_) (fun c28 => ?_)
      · refine x_aload_n (pc' := 35) hC dX7_sand_34 rfl rfl ?_
        refine x_callV (pc' := 38) (n := 0) hC (m_note hM hN hA.2.2.2.1) ky_X7_note kv_X7_note kl_X7_144 dX7_sand_35 (hM 0 _ rfl) rfl rfl rfl rfl ⟨Nat.le_of_ble_eq_true rfl, Nat.le_of_ble_eq_true rfl⟩ (Nat.le_of_ble_eq_true rfl) ⟨Nat.le_refl _, Nat.le_refl _⟩ (Or.inl rfl) rfl (x_kn (fun μ35 h35 => ?_))
        refine x_aload_n (pc' := 39) hC dX7_sand_38 rfl rfl ?_
        refine x_getR (pc' := 42) (b := 85) hC kf_X7_19 dX7_sand_39 (hM 0 _ rfl) rfl rfl ?_
        refine x_iconst (pc' := 43) hC dX7_sand_42 rfl ?_
        refine x_dup2 (pc' := 44) hC dX7_sand_43 rfl rfl rfl ?_
        refine x_iald (pc' := 45) hC dX7_sand_44 (hM 4 _ rfl) (by omega) (by decide) rfl ?_
        rw [h35.1 _ _ (by omega) (by omega), hN 1 (by omega) (by omega)]
        refine x_iconst (pc' := 46) hC dX7_sand_45 rfl ?_
        refine x_isub (pc' := 47) hC dX7_sand_46 rfl ?_
        refine x_iast (pc' := 48) hC dX7_sand_47 (hM 4 _ rfl) (by omega) (by omega) rfl ?_
        refine x_aload_n (pc' := 49) hC dX7_sand_48 rfl rfl ?_
        refine x_getR (pc' := 52) (b := 85) hC kf_X7_19 dX7_sand_49 (hM 0 _ rfl) rfl rfl ?_
        refine x_iconst (pc' := 53) hC dX7_sand_52 rfl ?_
        refine x_iload_n (pc' := 54) hC dX7_sand_53 rfl rfl ?_
        refine x_iadd (pc' := 55) hC dX7_sand_54 rfl ?_
        refine x_aload_n (pc' := 56) hC dX7_sand_55 rfl rfl ?_
        refine x_getR (pc' := 59) (b := 85) hC kf_X7_19 dX7_sand_56 (hM 0 _ rfl) rfl rfl ?_
        refine x_iconst (pc' := 60) hC dX7_sand_59 rfl ?_
        refine x_iload_n (pc' := 61) hC dX7_sand_60 rfl rfl ?_
        refine x_iadd (pc' := 62) hC dX7_sand_61 rfl ?_
        refine x_iald (pc' := 63) hC dX7_sand_62 (hM 4 _ rfl) (by omega) (by decide) rfl ?_
        rw [xU_nj (by omega), h35.1 _ _ (by omega) (by omega), hN (2 + x) (by omega) (by omega)]
        refine x_iconst (pc' := 64) hC dX7_sand_63 rfl ?_
        refine x_icmp_le (tgt := 80) (pc' := 67) hC dX7_sand_64 (by decide) rfl (by omega) (by omega) (fun c64 => ?_) (fun c64 => ?_)
        · refine x_iconst (pc' := 81) hC dX7_sand_80 rfl ?_
          refine x_iast (pc' := 82) hC dX7_sand_81 (hM 4 _ rfl) (by omega) (by omega) rfl ?_
          refine x_aload_n (pc' := 83) hC dX7_sand_82 rfl rfl ?_
          refine x_getR (pc' := 86) (b := 85) hC kf_X7_19 dX7_sand_83 (hM 0 _ rfl) rfl rfl ?_
          refine x_iconst (pc' := 87) hC dX7_sand_86 rfl ?_
          refine x_iload_n (pc' := 88) hC dX7_sand_87 rfl rfl ?_
          refine x_iadd (pc' := 89) hC dX7_sand_88 rfl ?_
          refine x_iald (pc' := 90) hC dX7_sand_89 (hM 4 _ rfl) (by omega) (by decide) rfl ?_
          rw [xU_at2]
          exact x_iret hC dX7_sand_90 (xI.mk (by
      have hN1 := hN.K h35.1 (by omega)
      have e : rSand r x = up (up r 1 (r 1 - 2)) (2 + x) (if r (2 + x) ≤ 2 then 0 else r (2 + x) - 2) := by
        unfold rSand waxBy; rw [up_ne (show 2 + x ≠ 1 by omega)]
        congr 1
        split <;> omega
      rw [e]
      first
      | (rw [if_neg (by omega)]
         have f : FrI 85 86 μ35 (xU (xU μ35 85 1 (r 1 - 2)) 85 (2 + x) (r (2 + x) - 2)) := (FrI.rf.u (by omega)).u (by omega)
         have z := (hA.note h35.1 h35.2).now f hN1.u.u
         exact ⟨by unfold aSand; rw [if_pos c5, if_neg (by omega), e, up_at, if_neg (by omega)], fun _ => z, fun y => absurd ⟨c5, by omega⟩ y, (h35.1.I (by omega)).tr (f.mono (by omega) (by omega))⟩)
      | (rw [if_pos (by omega)]
         have f : FrI 85 86 μ35 (xU (xU μ35 85 1 (r 1 - 2)) 85 (2 + x) 0) := (FrI.rf.u (by omega)).u (by omega)
         have z := (hA.note h35.1 h35.2).now f hN1.u.u
         exact ⟨by unfold aSand; rw [if_pos c5, if_neg (by omega), e, up_at, if_pos (by omega)], fun _ => z, fun y => absurd ⟨c5, by omega⟩ y, (h35.1.I (by omega)).tr (f.mono (by omega) (by omega))⟩)))
        · refine x_aload_n (pc' := 68) hC dX7_sand_67 rfl rfl ?_
          refine x_getR (pc' := 71) (b := 85) hC kf_X7_19 dX7_sand_68 (hM 0 _ rfl) rfl rfl ?_
          refine x_iconst (pc' := 72) hC dX7_sand_71 rfl ?_
          refine x_iload_n (pc' := 73) hC dX7_sand_72 rfl rfl ?_
          refine x_iadd (pc' := 74) hC dX7_sand_73 rfl ?_
          refine x_iald (pc' := 75) hC dX7_sand_74 (hM 4 _ rfl) (by omega) (by decide) rfl ?_
          rw [xU_nj (by omega), h35.1 _ _ (by omega) (by omega), hN (2 + x) (by omega) (by omega)]
          refine x_iconst (pc' := 76) hC dX7_sand_75 rfl ?_
          refine x_isub (pc' := 77) hC dX7_sand_76 rfl ?_
          refine x_goto (tgt := 81) hC dX7_sand_77 (by decide) ?_
          refine x_iast (pc' := 82) hC dX7_sand_81 (hM 4 _ rfl) (by omega) (by omega) rfl ?_
          refine x_aload_n (pc' := 83) hC dX7_sand_82 rfl rfl ?_
          refine x_getR (pc' := 86) (b := 85) hC kf_X7_19 dX7_sand_83 (hM 0 _ rfl) rfl rfl ?_
          refine x_iconst (pc' := 87) hC dX7_sand_86 rfl ?_
          refine x_iload_n (pc' := 88) hC dX7_sand_87 rfl rfl ?_
          refine x_iadd (pc' := 89) hC dX7_sand_88 rfl ?_
          refine x_iald (pc' := 90) hC dX7_sand_89 (hM 4 _ rfl) (by omega) (by decide) rfl ?_
          rw [xU_at2]
          exact x_iret hC dX7_sand_90 (xI.mk (by
      have hN1 := hN.K h35.1 (by omega)
      have e : rSand r x = up (up r 1 (r 1 - 2)) (2 + x) (if r (2 + x) ≤ 2 then 0 else r (2 + x) - 2) := by
        unfold rSand waxBy; rw [up_ne (show 2 + x ≠ 1 by omega)]
        congr 1
        split <;> omega
      rw [e]
      first
      | (rw [if_neg (by omega)]
         have f : FrI 85 86 μ35 (xU (xU μ35 85 1 (r 1 - 2)) 85 (2 + x) (r (2 + x) - 2)) := (FrI.rf.u (by omega)).u (by omega)
         have z := (hA.note h35.1 h35.2).now f hN1.u.u
         exact ⟨by unfold aSand; rw [if_pos c5, if_neg (by omega), e, up_at, if_neg (by omega)], fun _ => z, fun y => absurd ⟨c5, by omega⟩ y, (h35.1.I (by omega)).tr (f.mono (by omega) (by omega))⟩)
      | (rw [if_pos (by omega)]
         have f : FrI 85 86 μ35 (xU (xU μ35 85 1 (r 1 - 2)) 85 (2 + x) 0) := (FrI.rf.u (by omega)).u (by omega)
         have z := (hA.note h35.1 h35.2).now f hN1.u.u
         exact ⟨by unfold aSand; rw [if_pos c5, if_neg (by omega), e, up_at, if_pos (by omega)], fun _ => z, fun y => absurd ⟨c5, by omega⟩ y, (h35.1.I (by omega)).tr (f.mono (by omega) (by omega))⟩)))
      · refine x_bipush (pc' := 33) hC dX7_sand_31 (by decide) rfl ?_
        exact x_iret hC dX7_sand_33 (xI.mk ⟨by unfold aSand; rw [if_pos c5, if_pos (by omega)], fun z => absurd (by omega) z.2, fun _ => hA, FrI.rf⟩)
  · refine x_iconst (pc' := 9) hC dX7_sand_8 rfl ?_
    exact x_iret hC dX7_sand_9 (xI.mk ⟨by unfold aSand; rw [if_neg c5], fun z => absurd z.1 c5, fun _ => hA, FrI.rf⟩)
set_option maxRecDepth 100000 in
set_option maxHeartbeats 4000000 in
theorem q_help {g : xG} {l : Launch} {S : List xS} {μ : xM} {T r : Int → Int} {nt : Int} {tx : Int → Int} {un kp : List (Int → Int)} {sl : List (Int × Int)} {m : Int} (hM : xPreM S) (hA : RM μ T r nt tx un kp sl) (hF : WF T r un kp) (hm : -2147483648 ≤ m ∧ m < 2147483648) : xCt g l yX7_help cX7_help 3 (some .int) 2 46 0 0 [vR g 81, vI m] S μ S (xI (fun a μ' => a = aHelp T r m ∧ (okHelp T r m → RM μ' T (rHelp r m) nt tx (push r un) kp sl) ∧ (¬ okHelp T r m → RM μ' T r nt tx un kp sl) ∧ FrI 81 92 μ μ')) := by
  refine x_enter (by decide) (Nat.le_of_ble_eq_true rfl) ?_
  intro zp ze zs zm za zb zh zc hC hz0
  have hT := hF.1
  have hR := hF.2.1.1
  have hy := hF.2.1.2
  have t0 := hT.1
  have t1 := hT.2.1
  have t2 := hT.2.2.1
  have t3 := hT.2.2.2.1
  have hQ := hA.2.1
  have hN := hA.2.2.1
  obtain ⟨⟨m0, m1, m2, m3⟩, m4⟩ := hA.2.1
  refine x_aload_n (pc' := 1) hC dX7_help_0 rfl rfl ?_
  refine x_iload_n (pc' := 2) hC dX7_help_1 rfl rfl ?_
  refine x_callV (pc' := 5) (n := 1) hC (m_isOne hM hT hQ (by omega)) ky_X7_isOne kv_X7_isOne kl_X7_131 dX7_help_2 (hM 0 _ rfl) rfl rfl rfl rfl ⟨Nat.le_of_ble_eq_true rfl, Nat.le_of_ble_eq_true rfl⟩ (Nat.le_of_ble_eq_true rfl) ⟨Nat.le_refl _, Nat.le_refl _⟩ (Or.inl rfl) rfl (x_kd ?_)
  refine x_ifb_ne (tgt := 10) (pc' := 8) hC dX7_help_5 (by decide) rfl (fun c5 => ?_) (fun c5 => ?_)
  · have q3 := hR.2.1 m (by omega) (by omega)
    refine x_aload_n (pc' := 11) hC dX7_help_10 rfl rfl ?_
    refine x_getR (pc' := 14) (b := 85) hC kf_X7_19 dX7_help_11 (hM 0 _ rfl) rfl rfl ?_
    refine x_bipush (pc' := 16) hC dX7_help_14 (by decide) rfl ?_
    refine x_iload_n (pc' := 17) hC dX7_help_16 rfl rfl ?_
    refine x_iadd (pc' := 18) hC dX7_help_17 rfl ?_
    refine x_iald (pc' := 19) hC dX7_help_18 (hM 4 _ rfl) (by omega) (by decide) rfl ?_
    rw [hN (18 + m) (by omega) (by omega)]
    refine x_istore_n (pc' := 20) hC dX7_help_19 (by decide) rfl rfl ?_
    refine x_iload_n (pc' := 21) hC dX7_help_20 rfl rfl ?_
    refine x_if_ne (tgt := 27) (pc' := 24) hC dX7_help_21 (by decide) rfl (by omega) (fun c21 => ?_) (fun c21 => ?_)
    · refine x_aload_n (pc' := 28) hC dX7_help_27 rfl rfl ?_
      refine x_callV (pc' := 31) (n := 0) hC (m_note hM hN hA.2.2.2.1) ky_X7_note kv_X7_note kl_X7_144 dX7_help_28 (hM 0 _ rfl) rfl rfl rfl rfl ⟨Nat.le_of_ble_eq_true rfl, Nat.le_of_ble_eq_true rfl⟩ (Nat.le_of_ble_eq_true rfl) ⟨Nat.le_refl _, Nat.le_refl _⟩ (Or.inl rfl) rfl (x_kn (fun μ28 h28 => ?_))
      refine x_aload_n (pc' := 32) hC dX7_help_31 rfl rfl ?_
      refine x_getR (pc' := 35) (b := 85) hC kf_X7_19 dX7_help_32 (hM 0 _ rfl) rfl rfl ?_
      refine x_bipush (pc' := 37) hC dX7_help_35 (by decide) rfl ?_
      refine x_iload_n (pc' := 38) hC dX7_help_37 rfl rfl ?_
      refine x_iadd (pc' := 39) hC dX7_help_38 rfl ?_
      refine x_iconst (pc' := 40) hC dX7_help_39 rfl ?_
      refine x_iast (pc' := 41) hC dX7_help_40 (hM 4 _ rfl) (by omega) (by omega) rfl ?_
      refine x_iload_n (pc' := 42) hC dX7_help_41 rfl rfl ?_
      exact x_iret hC dX7_help_42 (xI.mk (by
      have hN1 := hN.K h28.1 (by omega)
      have f : FrI 85 86 μ28 (xU μ28 85 (18 + m) 0) := FrI.rf.u (by omega)
      have z := (hA.note h28.1 h28.2).now f hN1.u
      exact ⟨by unfold aHelp; rw [if_pos c5, if_neg (by omega)], fun _ => z, fun y => absurd ⟨c5, by omega⟩ y, (h28.1.I (by omega)).tr (f.mono (by omega) (by omega))⟩))
    · refine x_bipush (pc' := 26) hC dX7_help_24 (by decide) rfl ?_
      exact x_iret hC dX7_help_26 (xI.mk ⟨by unfold aHelp; rw [if_pos c5, if_pos (by omega)], fun z => absurd (by omega) z.2, fun _ => hA, FrI.rf⟩)
  · refine x_iconst (pc' := 9) hC dX7_help_8 rfl ?_
    exact x_iret hC dX7_help_9 (xI.mk ⟨by unfold aHelp; rw [if_neg c5], fun z => absurd z.1 c5, fun _ => hA, FrI.rf⟩)
set_option maxRecDepth 100000 in
set_option maxHeartbeats 4000000 in
theorem q_undo0 {g : xG} {l : Launch} {S : List xS} {μ : xM} {T r : Int → Int} {nt : Int} {tx : Int → Int} {un kp : List (Int → Int)} {sl : List (Int × Int)} (hM : xPreM S) (hA : RM μ T r nt tx un kp sl) (hF : WF T r un kp) (hu : un = []) : xCt g l yX7_undo cX7_undo 2 (some .int) 0 0 0 0 [vR g 81] S μ S (xI (fun a μ' => a = -2 ∧ RM μ' T r nt tx un kp sl ∧ FrI 81 92 μ μ')) := by
  refine x_enter (by decide) (Nat.le_of_ble_eq_true rfl) ?_
  intro zp ze zs zm za zb zh zc hC hz0
  have hT := hF.1
  have hR := hF.2.1.1
  have hy := hF.2.1.2
  have t0 := hT.1
  have t1 := hT.2.1
  have t2 := hT.2.2.1
  have t3 := hT.2.2.2.1
  have hQ := hA.2.1
  have hN := hA.2.2.1
  obtain ⟨⟨m0, m1, m2, m3⟩, m4⟩ := hA.2.1
  subst hu
  refine x_aload_n (pc' := 1) hC dX7_undo_0 rfl rfl ?_
  refine x_getI (j' := 9) (pc' := 4) hC kf_X7_101 dX7_undo_1 (hM 0 _ rfl) rfl rfl rfl ?_
  rw [hA.2.2.2.1.1]
  refine x_if_ne (tgt := 10) (pc' := 7) hC dX7_undo_4 (by decide) rfl (by simp) (fun c4 => ?_) (fun c4 => ?_)
  · exact absurd rfl c4
  · refine x_bipush (pc' := 9) hC dX7_undo_7 (by decide) rfl ?_
    exact x_iret hC dX7_undo_9 (xI.mk ⟨rfl, hA, FrI.rf⟩)
set_option maxRecDepth 100000 in
set_option maxHeartbeats 4000000 in
theorem q_undo1 {g : xG} {l : Launch} {S : List xS} {μ : xM} {T r : Int → Int} {nt : Int} {tx : Int → Int} {un kp : List (Int → Int)} {sl : List (Int × Int)} {u : Int → Int} {un1 : List (Int → Int)} (hM : xPreM S) (hA : RM μ T r nt tx un kp sl) (hF : WF T r un kp) (hu : un = u :: un1) : xCt g l yX7_undo cX7_undo 2 (some .int) 0 0 0 0 [vR g 81] S μ S (xI (fun a μ' => a = un1.length ∧ RM μ' T u nt tx un1 kp sl ∧ FrI 81 92 μ μ')) := by
  refine x_enter (by decide) (Nat.le_of_ble_eq_true rfl) ?_
  intro zp ze zs zm za zb zh zc hC hz0
  have hT := hF.1
  have hR := hF.2.1.1
  have hy := hF.2.1.2
  have t0 := hT.1
  have t1 := hT.2.1
  have t2 := hT.2.2.1
  have t3 := hT.2.2.2.1
  have hQ := hA.2.1
  have hN := hA.2.2.1
  obtain ⟨⟨m0, m1, m2, m3⟩, m4⟩ := hA.2.1
  subst hu
  have hl := hA.2.2.2.1.2.1
  have hs := hA.2.2.2.1.1
  rw [List.length_cons] at hl hs
  have loop : ∀ (zn : Nat) (k : Nat) (i : Int) (μ1 : xM) (hi : i = k) (hk : k ≤ 32) (h1 : FrK 85 9 μ μ1) (h9 : μ1 81 9 = (un1.length : Int)) (hx : ∀ j : Int, 0 ≤ j → j < k → μ1 85 j = u j), 32 - k < zn → xX g 2 zp l ze { frames := 0, cells := 0, slots := 0, locals := 0 } zs zm za zb zh zc 0 0 (MQ zb (xQ g S (xI (fun a μ' => a = un1.length ∧ RM μ' T u nt tx un1 kp sl ∧ FrI 81 92 μ μ'))) za zs 0 0 (xA0 g)) S μ1 22 [some (vR g 81), some (vI i)] [] := by
    intro zn
    induction zn with
    | zero => intros; rename_i hz; exact absurd hz (Nat.not_lt_zero _)
    | succ zn ih =>
      intro k i μ1 hi hk h1 h9 hx hn
      subst hi
      refine x_iload_n (pc' := 23) hC dX7_undo_22 rfl rfl ?_
      refine x_bipush (pc' := 25) hC dX7_undo_23 (by decide) rfl ?_
      refine x_icmp_ge (tgt := 54) (pc' := 28) hC dX7_undo_25 (by decide) rfl (by omega) (by omega) (fun c25 => ?_) (fun c25 => ?_)
      · refine x_aload_n (pc' := 55) hC dX7_undo_54 rfl rfl ?_
        refine x_getI (j' := 9) (pc' := 58) hC kf_X7_101 dX7_undo_55 (hM 0 _ rfl) rfl rfl rfl ?_
        rw [h9]
        exact x_iret hC dX7_undo_58 (xI.mk (by
      have hk2 : k = 32 := by omega
      subst hk2
      exact ⟨rfl, ⟨hA.1.K h1 (by omega), hA.2.1.K h1 (by omega), fun j a b => hx j a b, hA.2.2.2.1.tail (fun j => h1 _ _ (by omega) (by omega)) h9, hA.2.2.2.2.1.K h1 (by omega), hA.2.2.2.2.2.K h1 (by omega)⟩, h1.I (by omega)⟩))
      · refine x_aload_n (pc' := 29) hC dX7_undo_28 rfl rfl ?_
        refine x_getR (pc' := 32) (b := 85) hC kf_X7_19 dX7_undo_29 (hM 0 _ rfl) rfl rfl ?_
        refine x_iload_n (pc' := 33) hC dX7_undo_32 rfl rfl ?_
        refine x_aload_n (pc' := 34) hC dX7_undo_33 rfl rfl ?_
        refine x_getR (pc' := 37) (b := 88) hC kf_X7_28 dX7_undo_34 (hM 0 _ rfl) rfl rfl ?_
        refine x_bipush (pc' := 39) hC dX7_undo_37 (by decide) rfl ?_
        refine x_aload_n (pc' := 40) hC dX7_undo_39 rfl rfl ?_
        refine x_getI (j' := 9) (pc' := 43) hC kf_X7_101 dX7_undo_40 (hM 0 _ rfl) rfl rfl rfl ?_
        rw [h9]
        refine x_imul (pc' := 44) hC dX7_undo_43 rfl ?_
        refine x_iload_n (pc' := 45) hC dX7_undo_44 rfl rfl ?_
        refine x_iadd (pc' := 46) hC dX7_undo_45 rfl ?_
        refine x_iald (pc' := 47) hC dX7_undo_46 (hM 7 _ rfl) (by omega) (by decide) rfl ?_
        rw [h1 _ _ (by omega) (by omega), hA.2.2.2.1.head (by omega) (by omega)]
        refine x_iast (pc' := 48) hC dX7_undo_47 (hM 4 _ rfl) (by omega) (by omega) rfl ?_
        refine x_iinc (pc' := 51) hC dX7_undo_48 rfl (by decide) rfl rfl ?_
        refine x_goto (tgt := 22) hC dX7_undo_51 (by decide) ?_
        exact ih (k + 1) _ _ (by omega) (by omega) h1.uc (by rw [xU_nk (by omega)]; exact h9) (fun j a b => by by_cases hj : j = k; (rw [hj, xU_at2]); (rw [xU_nj (by omega)]; exact hx j a (by omega))) (by omega)
  refine x_aload_n (pc' := 1) hC dX7_undo_0 rfl rfl ?_
  refine x_getI (j' := 9) (pc' := 4) hC kf_X7_101 dX7_undo_1 (hM 0 _ rfl) rfl rfl rfl ?_
  rw [hs]
  refine x_if_ne (tgt := 10) (pc' := 7) hC dX7_undo_4 (by decide) rfl (by omega) (fun c4 => ?_) (fun c4 => ?_)
  · refine x_aload_n (pc' := 11) hC dX7_undo_10 rfl rfl ?_
    refine x_dup (pc' := 12) hC dX7_undo_11 rfl rfl ?_
    refine x_getI (j' := 9) (pc' := 15) hC kf_X7_101 dX7_undo_12 (hM 0 _ rfl) rfl rfl rfl ?_
    rw [hs]
    refine x_iconst (pc' := 16) hC dX7_undo_15 rfl ?_
    refine x_isub (pc' := 17) hC dX7_undo_16 rfl ?_
    refine x_putI (j' := 9) (pc' := 20) hC kf_X7_101 dX7_undo_17 (hM 0 _ rfl) rfl rfl rfl rfl rfl ?_
    refine x_iconst (pc' := 21) hC dX7_undo_20 rfl ?_
    refine x_istore_n (pc' := 22) hC dX7_undo_21 (by decide) rfl rfl ?_
    exact loop 33 0 _ _ rfl (by omega) FrK_rf.us (by rw [xU_at2]; omega) (fun j a b => absurd b (by omega)) (by omega)
  · exact absurd c4 (by omega)
set_option maxRecDepth 100000 in
set_option maxHeartbeats 4000000 in
theorem q_back0 {g : xG} {l : Launch} {S : List xS} {μ : xM} {T r : Int → Int} {nt : Int} {tx : Int → Int} {un kp : List (Int → Int)} {sl : List (Int × Int)} (hM : xPreM S) (hA : RM μ T r nt tx un kp sl) (hF : WF T r un kp) (hu : kp = []) : xCt g l yX7_back cX7_back 2 (some .int) 0 0 0 0 [vR g 81] S μ S (xI (fun a μ' => a = -2 ∧ RM μ' T r nt tx un kp sl ∧ FrI 81 92 μ μ')) := by
  refine x_enter (by decide) (Nat.le_of_ble_eq_true rfl) ?_
  intro zp ze zs zm za zb zh zc hC hz0
  have hT := hF.1
  have hR := hF.2.1.1
  have hy := hF.2.1.2
  have t0 := hT.1
  have t1 := hT.2.1
  have t2 := hT.2.2.1
  have t3 := hT.2.2.2.1
  have hQ := hA.2.1
  have hN := hA.2.2.1
  obtain ⟨⟨m0, m1, m2, m3⟩, m4⟩ := hA.2.1
  subst hu
  refine x_aload_n (pc' := 1) hC dX7_back_0 rfl rfl ?_
  refine x_getI (j' := 11) (pc' := 4) hC kf_X7_104 dX7_back_1 (hM 0 _ rfl) rfl rfl rfl ?_
  rw [hA.2.2.2.2.1.1]
  refine x_if_ne (tgt := 10) (pc' := 7) hC dX7_back_4 (by decide) rfl (by simp) (fun c4 => ?_) (fun c4 => ?_)
  · exact absurd rfl c4
  · refine x_bipush (pc' := 9) hC dX7_back_7 (by decide) rfl ?_
    exact x_iret hC dX7_back_9 (xI.mk ⟨rfl, hA, FrI.rf⟩)
set_option maxRecDepth 100000 in
set_option maxHeartbeats 4000000 in
theorem q_back1 {g : xG} {l : Launch} {S : List xS} {μ : xM} {T r : Int → Int} {nt : Int} {tx : Int → Int} {un kp : List (Int → Int)} {sl : List (Int × Int)} {u : Int → Int} {kp1 : List (Int → Int)} (hM : xPreM S) (hA : RM μ T r nt tx un kp sl) (hF : WF T r un kp) (hu : kp = u :: kp1) : xCt g l yX7_back cX7_back 2 (some .int) 0 0 0 0 [vR g 81] S μ S (xI (fun a μ' => a = kp1.length ∧ RM μ' T u nt tx [] kp1 sl ∧ FrI 81 92 μ μ')) := by
  refine x_enter (by decide) (Nat.le_of_ble_eq_true rfl) ?_
  intro zp ze zs zm za zb zh zc hC hz0
  have hT := hF.1
  have hR := hF.2.1.1
  have hy := hF.2.1.2
  have t0 := hT.1
  have t1 := hT.2.1
  have t2 := hT.2.2.1
  have t3 := hT.2.2.2.1
  have hQ := hA.2.1
  have hN := hA.2.2.1
  obtain ⟨⟨m0, m1, m2, m3⟩, m4⟩ := hA.2.1
  subst hu
  have hl := hA.2.2.2.2.1.2.1
  have hs := hA.2.2.2.2.1.1
  rw [List.length_cons] at hl hs
  have loop : ∀ (zn : Nat) (k : Nat) (i : Int) (μ1 : xM) (hi : i = k) (hk : k ≤ 32) (h1 : FrK 85 11 μ μ1) (h9 : μ1 81 11 = (kp1.length : Int)) (hx : ∀ j : Int, 0 ≤ j → j < k → μ1 85 j = u j), 32 - k < zn → xX g 2 zp l ze { frames := 0, cells := 0, slots := 0, locals := 0 } zs zm za zb zh zc 0 0 (MQ zb (xQ g S (xI (fun a μ' => a = kp1.length ∧ RM μ' T u nt tx [] kp1 sl ∧ FrI 81 92 μ μ'))) za zs 0 0 (xA0 g)) S μ1 22 [some (vR g 81), some (vI i)] [] := by
    intro zn
    induction zn with
    | zero => intros; rename_i hz; exact absurd hz (Nat.not_lt_zero _)
    | succ zn ih =>
      intro k i μ1 hi hk h1 h9 hx hn
      subst hi
      refine x_iload_n (pc' := 23) hC dX7_back_22 rfl rfl ?_
      refine x_bipush (pc' := 25) hC dX7_back_23 (by decide) rfl ?_
      refine x_icmp_ge (tgt := 54) (pc' := 28) hC dX7_back_25 (by decide) rfl (by omega) (by omega) (fun c25 => ?_) (fun c25 => ?_)
      · refine x_aload_n (pc' := 55) hC dX7_back_54 rfl rfl ?_
        refine x_iconst (pc' := 56) hC dX7_back_55 rfl ?_
        refine x_putI (j' := 9) (pc' := 59) hC kf_X7_101 dX7_back_56 (hM 0 _ rfl) rfl rfl rfl rfl rfl ?_
        refine x_aload_n (pc' := 60) hC dX7_back_59 rfl rfl ?_
        refine x_getI (j' := 11) (pc' := 63) hC kf_X7_104 dX7_back_60 (hM 0 _ rfl) rfl rfl rfl ?_
        rw [xU_nj (by omega), h9]
        exact x_iret hC dX7_back_63 (xI.mk (by
      have hk2 : k = 32 := by omega
      subst hk2
      have f : FrK 88 9 μ1 (xU μ1 81 9 0) := FrK_rf.us
      exact ⟨rfl, ⟨(hA.1.K h1 (by omega)).K f (by omega), (hA.2.1.K h1 (by omega)).K f (by omega), (show Rw μ1 85 u from fun j a b => hx j a b).K f (by omega), ⟨xU_at2, by simp, fun i w hw => by simp at hw⟩, (hA.2.2.2.2.1.tail (fun j => h1 _ _ (by omega) (by omega)) h9).K f (by omega), (hA.2.2.2.2.2.K h1 (by omega)).K f (by omega)⟩, (h1.I (by omega)).tr (f.I (by omega))⟩))
      · refine x_aload_n (pc' := 29) hC dX7_back_28 rfl rfl ?_
        refine x_getR (pc' := 32) (b := 85) hC kf_X7_19 dX7_back_29 (hM 0 _ rfl) rfl rfl ?_
        refine x_iload_n (pc' := 33) hC dX7_back_32 rfl rfl ?_
        refine x_aload_n (pc' := 34) hC dX7_back_33 rfl rfl ?_
        refine x_getR (pc' := 37) (b := 89) hC kf_X7_31 dX7_back_34 (hM 0 _ rfl) rfl rfl ?_
        refine x_bipush (pc' := 39) hC dX7_back_37 (by decide) rfl ?_
        refine x_aload_n (pc' := 40) hC dX7_back_39 rfl rfl ?_
        refine x_getI (j' := 11) (pc' := 43) hC kf_X7_104 dX7_back_40 (hM 0 _ rfl) rfl rfl rfl ?_
        rw [h9]
        refine x_imul (pc' := 44) hC dX7_back_43 rfl ?_
        refine x_iload_n (pc' := 45) hC dX7_back_44 rfl rfl ?_
        refine x_iadd (pc' := 46) hC dX7_back_45 rfl ?_
        refine x_iald (pc' := 47) hC dX7_back_46 (hM 8 _ rfl) (by omega) (by decide) rfl ?_
        rw [h1 _ _ (by omega) (by omega), hA.2.2.2.2.1.head (by omega) (by omega)]
        refine x_iast (pc' := 48) hC dX7_back_47 (hM 4 _ rfl) (by omega) (by omega) rfl ?_
        refine x_iinc (pc' := 51) hC dX7_back_48 rfl (by decide) rfl rfl ?_
        refine x_goto (tgt := 22) hC dX7_back_51 (by decide) ?_
        exact ih (k + 1) _ _ (by omega) (by omega) h1.uc (by rw [xU_nk (by omega)]; exact h9) (fun j a b => by by_cases hj : j = k; (rw [hj, xU_at2]); (rw [xU_nj (by omega)]; exact hx j a (by omega))) (by omega)
  refine x_aload_n (pc' := 1) hC dX7_back_0 rfl rfl ?_
  refine x_getI (j' := 11) (pc' := 4) hC kf_X7_104 dX7_back_1 (hM 0 _ rfl) rfl rfl rfl ?_
  rw [hs]
  refine x_if_ne (tgt := 10) (pc' := 7) hC dX7_back_4 (by decide) rfl (by omega) (fun c4 => ?_) (fun c4 => ?_)
  · refine x_aload_n (pc' := 11) hC dX7_back_10 rfl rfl ?_
    refine x_dup (pc' := 12) hC dX7_back_11 rfl rfl ?_
    refine x_getI (j' := 11) (pc' := 15) hC kf_X7_104 dX7_back_12 (hM 0 _ rfl) rfl rfl rfl ?_
    rw [hs]
    refine x_iconst (pc' := 16) hC dX7_back_15 rfl ?_
    refine x_isub (pc' := 17) hC dX7_back_16 rfl ?_
    refine x_putI (j' := 11) (pc' := 20) hC kf_X7_104 dX7_back_17 (hM 0 _ rfl) rfl rfl rfl rfl rfl ?_
    refine x_iconst (pc' := 21) hC dX7_back_20 rfl ?_
    refine x_istore_n (pc' := 22) hC dX7_back_21 (by decide) rfl rfl ?_
    exact loop 33 0 _ _ rfl (by omega) FrK_rf.us (by rw [xU_at2]; omega) (fun j a b => absurd b (by omega)) (by omega)
  · exact absurd c4 (by omega)
set_option maxRecDepth 100000 in
set_option maxHeartbeats 4000000 in
theorem q_keep {g : xG} {l : Launch} {S : List xS} {μ : xM} {T r : Int → Int} {nt : Int} {tx : Int → Int} {un kp : List (Int → Int)} {sl : List (Int × Int)} (hM : xPreM S) (hA : RM μ T r nt tx un kp sl) (hF : WF T r un kp) : xCt g l yX7_keep cX7_keep 2 (some .int) 0 0 0 0 [vR g 81] S μ S (xI (fun a μ' => a = aKeep kp ∧ RM μ' T r nt tx un (kKeep r kp) sl ∧ FrI 81 92 μ μ')) := by
  refine x_enter (by decide) (Nat.le_of_ble_eq_true rfl) ?_
  intro zp ze zs zm za zb zh zc hC hz0
  have hT := hF.1
  have hR := hF.2.1.1
  have hy := hF.2.1.2
  have t0 := hT.1
  have t1 := hT.2.1
  have t2 := hT.2.2.1
  have t3 := hT.2.2.2.1
  have hQ := hA.2.1
  have hN := hA.2.2.1
  obtain ⟨⟨m0, m1, m2, m3⟩, m4⟩ := hA.2.1
  have hl := hA.2.2.2.2.1.2.1
  have hs := hA.2.2.2.2.1.1
  have loop : ∀ (zn : Nat) (k : Nat) (i : Int) (μ1 : xM) (hi : i = k) (hk : k ≤ 32) (hl2 : kp.length < 2) (h1 : FrK 89 11 μ μ1) (h9 : μ1 81 11 = (kp.length : Int)) (hx : ∀ j : Int, 0 ≤ j → j < k → μ1 89 (32 * (kp.length : Int) + j) = r j) (hz : ∀ j : Int, j < 32 * (kp.length : Int) → μ1 89 j = μ 89 j), 32 - k < zn → xX g 2 zp l ze { frames := 0, cells := 0, slots := 0, locals := 0 } zs zm za zb zh zc 0 0 (MQ zb (xQ g S (xI (fun a μ' => a = aKeep kp ∧ RM μ' T r nt tx un (kKeep r kp) sl ∧ FrI 81 92 μ μ'))) za zs 0 0 (xA0 g)) S μ1 13 [some (vR g 81), some (vI i)] [] := by
    intro zn
    induction zn with
    | zero => intros; rename_i hz; exact absurd hz (Nat.not_lt_zero _)
    | succ zn ih =>
      intro k i μ1 hi hk hl2 h1 h9 hx hz hn
      subst hi
      refine x_iload_n (pc' := 14) hC dX7_keep_13 rfl rfl ?_
      refine x_bipush (pc' := 16) hC dX7_keep_14 (by decide) rfl ?_
      refine x_icmp_ge (tgt := 45) (pc' := 19) hC dX7_keep_16 (by decide) rfl (by omega) (by omega) (fun c16 => ?_) (fun c16 => ?_)
      · refine x_aload_n (pc' := 46) hC dX7_keep_45 rfl rfl ?_
        refine x_dup (pc' := 47) hC dX7_keep_46 rfl rfl ?_
        refine x_getI (j' := 11) (pc' := 50) hC kf_X7_104 dX7_keep_47 (hM 0 _ rfl) rfl rfl rfl ?_
        rw [h9]
        refine x_iconst (pc' := 51) hC dX7_keep_50 rfl ?_
        refine x_iadd (pc' := 52) hC dX7_keep_51 rfl ?_
        refine x_putI (j' := 11) (pc' := 55) hC kf_X7_104 dX7_keep_52 (hM 0 _ rfl) rfl rfl rfl rfl rfl ?_
        refine x_aload_n (pc' := 56) hC dX7_keep_55 rfl rfl ?_
        refine x_getI (j' := 11) (pc' := 59) hC kf_X7_104 dX7_keep_56 (hM 0 _ rfl) rfl rfl rfl ?_
        rw [xU_at2]
        exact x_iret hC dX7_keep_59 (xI.mk (by
      have hk2 : k = 32 := by omega
      subst hk2
      exact ⟨by unfold aKeep; rw [if_neg (by omega)], by unfold kKeep; rw [if_neg (by omega)]; exact hA.kept h1.us (Sk.cons hA.2.2.2.2.1 hl2 (fun j a b => by rw [xU_nk (by omega)]; exact hx j a b) (fun j a => by rw [xU_nk (by omega)]; exact hz j a) xU_at2), h1.us.I (by omega)⟩))
      · refine x_aload_n (pc' := 20) hC dX7_keep_19 rfl rfl ?_
        refine x_getR (pc' := 23) (b := 89) hC kf_X7_31 dX7_keep_20 (hM 0 _ rfl) rfl rfl ?_
        refine x_bipush (pc' := 25) hC dX7_keep_23 (by decide) rfl ?_
        refine x_aload_n (pc' := 26) hC dX7_keep_25 rfl rfl ?_
        refine x_getI (j' := 11) (pc' := 29) hC kf_X7_104 dX7_keep_26 (hM 0 _ rfl) rfl rfl rfl ?_
        rw [h9]
        refine x_imul (pc' := 30) hC dX7_keep_29 rfl ?_
        refine x_iload_n (pc' := 31) hC dX7_keep_30 rfl rfl ?_
        refine x_iadd (pc' := 32) hC dX7_keep_31 rfl ?_
        refine x_aload_n (pc' := 33) hC dX7_keep_32 rfl rfl ?_
        refine x_getR (pc' := 36) (b := 85) hC kf_X7_19 dX7_keep_33 (hM 0 _ rfl) rfl rfl ?_
        refine x_iload_n (pc' := 37) hC dX7_keep_36 rfl rfl ?_
        refine x_iald (pc' := 38) hC dX7_keep_37 (hM 4 _ rfl) (by omega) (by decide) rfl ?_
        rw [h1 _ _ (by omega) (by omega), hN k (by omega) (by omega)]
        refine x_iast (pc' := 39) hC dX7_keep_38 (hM 8 _ rfl) (by omega) (by omega) rfl ?_
        refine x_iinc (pc' := 42) hC dX7_keep_39 rfl (by decide) rfl rfl ?_
        refine x_goto (tgt := 13) hC dX7_keep_42 (by decide) ?_
        exact ih (k + 1) _ _ (by omega) (by omega) hl2 h1.uc (by rw [xU_nk (by omega)]; exact h9) (fun j a b => by by_cases hj : j = k; (rw [hj, xU_at2]); (rw [xU_nj (by omega)]; exact hx j a (by omega))) (fun j a => by rw [xU_nj (by omega)]; exact hz j a) (by omega)
  refine x_aload_n (pc' := 1) hC dX7_keep_0 rfl rfl ?_
  refine x_getI (j' := 11) (pc' := 4) hC kf_X7_104 dX7_keep_1 (hM 0 _ rfl) rfl rfl rfl ?_
  rw [hs]
  refine x_iconst (pc' := 5) hC dX7_keep_4 rfl ?_
  refine x_icmp_ne (tgt := 11) (pc' := 8) hC dX7_keep_5 (by decide) rfl (by omega) (by omega) (fun c5 => ?_) (fun c5 => ?_)
  · refine x_iconst (pc' := 12) hC dX7_keep_11 rfl ?_
    refine x_istore_n (pc' := 13) hC dX7_keep_12 (by decide) rfl rfl ?_
    exact loop 33 0 _ μ rfl (by omega) (by omega) FrK_rf hs (fun j a b => absurd b (by omega)) (fun _ _ => rfl) (by omega)
  · refine x_bipush (pc' := 10) hC dX7_keep_8 (by decide) rfl ?_
    exact x_iret hC dX7_keep_10 (xI.mk ⟨by unfold aKeep; rw [if_pos (by omega)], by unfold kKeep; rw [if_pos (by omega)]; exact hA, FrI.rf⟩)
