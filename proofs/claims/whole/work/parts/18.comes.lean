set_option maxRecDepth 100000 in
set_option maxHeartbeats 4000000 in
theorem c_bitCount {g : xG} {l : Launch} {S : List xS} {μ : xM} {a : Int} : xCt g l yJ6_bitCount_0f7a4 cJ6_bitCount_0f7a4 1 (some .int) 0 0 0 0 [vI a] S μ S (xI (fun x μ' => x = bcF a ∧ μ' = μ)) := by
  refine x_enter (by decide) (Nat.le_of_ble_eq_true rfl) ?_
  intro zp ze zs zm za zb zh zc hC hz0
  refine x_iload_n (pc' := 1) hC dJ6_bitCount_0f7a4_0 rfl rfl ?_
  refine x_iload_n (pc' := 2) hC dJ6_bitCount_0f7a4_1 rfl rfl ?_
  refine x_iconst (pc' := 3) hC dJ6_bitCount_0f7a4_2 rfl ?_
  refine x_iushr (pc' := 4) hC dJ6_bitCount_0f7a4_3 rfl ?_
  refine x_ldcw (pc' := 7) (a := 1431655765) hC kc_J6_265 dJ6_bitCount_0f7a4_4 (by decide) rfl ?_
  refine x_iand (pc' := 8) hC dJ6_bitCount_0f7a4_7 rfl ?_
  refine x_isub (pc' := 9) hC dJ6_bitCount_0f7a4_8 rfl ?_
  refine x_istore_n (pc' := 10) hC dJ6_bitCount_0f7a4_9 (by decide) rfl rfl ?_
  refine x_iload_n (pc' := 11) hC dJ6_bitCount_0f7a4_10 rfl rfl ?_
  refine x_ldcw (pc' := 14) (a := 858993459) hC kc_J6_266 dJ6_bitCount_0f7a4_11 (by decide) rfl ?_
  refine x_iand (pc' := 15) hC dJ6_bitCount_0f7a4_14 rfl ?_
  refine x_iload_n (pc' := 16) hC dJ6_bitCount_0f7a4_15 rfl rfl ?_
  refine x_iconst (pc' := 17) hC dJ6_bitCount_0f7a4_16 rfl ?_
  refine x_iushr (pc' := 18) hC dJ6_bitCount_0f7a4_17 rfl ?_
  refine x_ldcw (pc' := 21) (a := 858993459) hC kc_J6_266 dJ6_bitCount_0f7a4_18 (by decide) rfl ?_
  refine x_iand (pc' := 22) hC dJ6_bitCount_0f7a4_21 rfl ?_
  refine x_iadd (pc' := 23) hC dJ6_bitCount_0f7a4_22 rfl ?_
  refine x_istore_n (pc' := 24) hC dJ6_bitCount_0f7a4_23 (by decide) rfl rfl ?_
  refine x_iload_n (pc' := 25) hC dJ6_bitCount_0f7a4_24 rfl rfl ?_
  refine x_iload_n (pc' := 26) hC dJ6_bitCount_0f7a4_25 rfl rfl ?_
  refine x_iconst (pc' := 27) hC dJ6_bitCount_0f7a4_26 rfl ?_
  refine x_iushr (pc' := 28) hC dJ6_bitCount_0f7a4_27 rfl ?_
  refine x_iadd (pc' := 29) hC dJ6_bitCount_0f7a4_28 rfl ?_
  refine x_ldcw (pc' := 32) (a := 252645135) hC kc_J6_267 dJ6_bitCount_0f7a4_29 (by decide) rfl ?_
  refine x_iand (pc' := 33) hC dJ6_bitCount_0f7a4_32 rfl ?_
  refine x_istore_n (pc' := 34) hC dJ6_bitCount_0f7a4_33 (by decide) rfl rfl ?_
  refine x_iload_n (pc' := 35) hC dJ6_bitCount_0f7a4_34 rfl rfl ?_
  refine x_iload_n (pc' := 36) hC dJ6_bitCount_0f7a4_35 rfl rfl ?_
  refine x_bipush (pc' := 38) hC dJ6_bitCount_0f7a4_36 (by decide) rfl ?_
  refine x_iushr (pc' := 39) hC dJ6_bitCount_0f7a4_38 rfl ?_
  refine x_iadd (pc' := 40) hC dJ6_bitCount_0f7a4_39 rfl ?_
  refine x_istore_n (pc' := 41) hC dJ6_bitCount_0f7a4_40 (by decide) rfl rfl ?_
  refine x_iload_n (pc' := 42) hC dJ6_bitCount_0f7a4_41 rfl rfl ?_
  refine x_iload_n (pc' := 43) hC dJ6_bitCount_0f7a4_42 rfl rfl ?_
  refine x_bipush (pc' := 45) hC dJ6_bitCount_0f7a4_43 (by decide) rfl ?_
  refine x_iushr (pc' := 46) hC dJ6_bitCount_0f7a4_45 rfl ?_
  refine x_iadd (pc' := 47) hC dJ6_bitCount_0f7a4_46 rfl ?_
  refine x_istore_n (pc' := 48) hC dJ6_bitCount_0f7a4_47 (by decide) rfl rfl ?_
  refine x_iload_n (pc' := 49) hC dJ6_bitCount_0f7a4_48 rfl rfl ?_
  refine x_bipush (pc' := 51) hC dJ6_bitCount_0f7a4_49 (by decide) rfl ?_
  refine x_iand (pc' := 52) hC dJ6_bitCount_0f7a4_51 rfl ?_
  exact x_iret hC dJ6_bitCount_0f7a4_52 (xI.mk ⟨rfl, rfl⟩)
set_option maxRecDepth 100000 in
set_option maxHeartbeats 4000000 in
theorem k_behind {g : xG} {l : Launch} {S : List xS} {μ : xM} {T r : Int → Int} {nt : Int} {tx : Int → Int} {un kp : List (Int → Int)} {sl : List (Int × Int)} {n m w : Int} (hP : xPre S) (hA : RC μ T r nt tx un kp sl) (hF : WF T r un kp) (hn : -2147483648 ≤ n ∧ n < 2147483648) (hm : -2147483648 ≤ m ∧ m < 2147483648) (hw : -2147483648 ≤ w ∧ w < 2147483648) : xCt g l yX6_behind cX6_behind 4 (some .int) 5 113 0 0 [vR g 0, vI n, vI m, vI w] S μ S (xI (fun a μ' => a = aBehind T r n m w ∧ RC μ' T r nt tx un kp sl ∧ FrI 0 81 μ μ')) := by
  refine x_enter (by decide) (Nat.le_of_ble_eq_true rfl) ?_
  intro zp ze zs zm za zb zh zc hC hz0
  have hT := hF.1
  have hR := hF.2.1.1
  have hy := hF.2.1.2
  have t0 := hT.1
  have t1 := hT.2.1
  have t2 := hT.2.2.1
  have t3 := hT.2.2.2.1
  have hN := hA.2.1
  have hm := hN.mi
  have hs := hN.sp
  refine x_iload_n (pc' := 1) hC dX6_behind_0 rfl rfl ?_
  refine x_iconst (pc' := 2) hC dX6_behind_1 rfl ?_
  refine x_bipush (pc' := 4) hC dX6_behind_2 (by decide) rfl ?_
  refine x_callS (pc' := 7) (n := 3) hC (c_within (by omega) (by omega) (by omega)) ky_X6_within ks_X6_within kl_X6_84 dX6_behind_4 rfl rfl ⟨Nat.le_of_ble_eq_true rfl, Nat.le_of_ble_eq_true rfl⟩ (Nat.le_of_ble_eq_true rfl) ⟨Nat.le_refl _, Nat.le_refl _⟩ (Or.inl rfl) rfl (x_kd ?_)
  refine x_ifb_eq (tgt := 30) (pc' := 10) hC dX6_behind_7 (by decide) rfl (fun c7 => ?_) (fun c7 => ?_)
  · refine x_iconst (pc' := 31) hC dX6_behind_30 rfl ?_
    exact x_iret hC dX6_behind_31 (xI.mk ⟨by unfold aBehind; rw [if_neg (by omega)], hA, FrI.rf⟩)
  · refine x_aload_n (pc' := 11) hC dX6_behind_10 rfl rfl ?_
    refine x_getR (pc' := 14) (b := 12) hC kf_X6_26 dX6_behind_11 (hP 0 _ rfl) rfl rfl ?_
    refine x_iload_n (pc' := 15) hC dX6_behind_14 rfl rfl ?_
    refine x_callV (pc' := 18) (n := 1) hC (c_hasMinister (T := T) (sPl hP) hN.1 hT (by omega)) ky_X0_hasMinister kv_X0_hasMinister kl_X6_95 dX6_behind_15 (hP 12 _ rfl) rfl rfl rfl rfl ⟨Nat.le_of_ble_eq_true rfl, Nat.le_of_ble_eq_true rfl⟩ (Nat.le_of_ble_eq_true rfl) ⟨Nat.le_refl _, Nat.le_refl _⟩ (Or.inl rfl) rfl (x_kd ?_)
    refine x_ifb_eq (tgt := 30) (pc' := 21) hC dX6_behind_18 (by decide) rfl (fun c18 => ?_) (fun c18 => ?_)
    · refine x_iconst (pc' := 31) hC dX6_behind_30 rfl ?_
      exact x_iret hC dX6_behind_31 (xI.mk ⟨by unfold aBehind; rw [if_neg (by omega)], hA, FrI.rf⟩)
    · refine x_iload_n (pc' := 22) hC dX6_behind_21 rfl rfl ?_
      refine x_iconst (pc' := 23) hC dX6_behind_22 rfl ?_
      refine x_iconst (pc' := 24) hC dX6_behind_23 rfl ?_
      refine x_callS (pc' := 27) (n := 3) hC (c_within (by omega) (by omega) (by omega)) ky_X6_within ks_X6_within kl_X6_84 dX6_behind_24 rfl rfl ⟨Nat.le_of_ble_eq_true rfl, Nat.le_of_ble_eq_true rfl⟩ (Nat.le_of_ble_eq_true rfl) ⟨Nat.le_refl _, Nat.le_refl _⟩ (Or.inl rfl) rfl (x_kd ?_)
      refine x_ifb_ne (tgt := 32) (pc' := 30) hC dX6_behind_27 (by decide) rfl (fun c27 => ?_) (fun c27 => ?_)
      · refine x_aload_n (pc' := 33) hC dX6_behind_32 rfl rfl ?_
        refine x_getR (pc' := 36) (b := 19) hC kf_X6_39 dX6_behind_33 (hP 0 _ rfl) rfl rfl ?_
        refine x_aload_n (pc' := 37) hC dX6_behind_36 rfl rfl ?_
        refine x_getR (pc' := 40) (b := 14) hC kf_X6_35 dX6_behind_37 (hP 0 _ rfl) rfl rfl ?_
        refine x_callV (pc' := 43) (n := 1) hC (c_copy (sTri hP) (sNow hP) (by omega) hN.2.2) ky_X4_copy kv_X4_copy kl_X6_159 dX6_behind_40 (hP 19 _ rfl) rfl rfl rfl rfl ⟨Nat.le_of_ble_eq_true rfl, Nat.le_of_ble_eq_true rfl⟩ (Nat.le_of_ble_eq_true rfl) ⟨Nat.le_refl _, Nat.le_refl _⟩ (Or.inl rfl) rfl (x_kn (fun μ40 h40 => ?_))
        refine x_aload_n (pc' := 44) hC dX6_behind_43 rfl rfl ?_
        refine x_getR (pc' := 47) (b := 19) hC kf_X6_39 dX6_behind_44 (hP 0 _ rfl) rfl rfl ?_
        refine x_iload_n (pc' := 48) hC dX6_behind_47 rfl rfl ?_
        refine x_callV (pc' := 51) (n := 1) hC (c_goOn (N := n.toNat) (sTri hP) (xTrial hT hN h40) hT hR (by omega) (by omega)) ky_X4_goOn kv_X4_goOn kl_X6_138 dX6_behind_48 (hP 19 _ rfl) rfl rfl rfl rfl ⟨Nat.le_of_ble_eq_true rfl, Nat.le_of_ble_eq_true rfl⟩ (Nat.le_of_ble_eq_true rfl) ⟨Nat.le_refl _, Nat.le_refl _⟩ (Or.inl rfl) rfl (x_kn (fun μ48 h48 => ?_))
        have hA2 := (xTrial hT hN h40).step (by omega) h48.1 h48.2
        have hF2 : FrI 19 24 μ μ48 := h40.1.I.tr h48.1.I
        refine x_iload_n (pc' := 52) hC dX6_behind_51 rfl rfl ?_
        have w52 : w = 0 ∨ w = 1 ∨ (¬ w = 0 ∧ ¬ w = 1) := by omega
        rcases w52 with w52 | w52 | w52
        · refine x_look (off := 28) (tgt := 80) hC dX6_behind_52 (by omega) (by decide) (by rw [w52]; decide) (by decide) ?_
          refine x_aload_n (pc' := 81) hC dX6_behind_80 rfl rfl ?_
          refine x_getR (pc' := 84) (b := 19) hC kf_X6_39 dX6_behind_81 (hP 0 _ rfl) rfl rfl ?_
          refine x_getR (pc' := 87) (b := 21) hC kf_X6_103 dX6_behind_84 (hP 19 _ rfl) rfl rfl ?_
          refine x_iload_n (pc' := 88) hC dX6_behind_87 rfl rfl ?_
          refine x_iald (pc' := 89) hC dX6_behind_88 (hP 21 _ rfl) (by omega) (by decide) rfl ?_
          rw [hA2.pc (by omega) (by omega)]
          exact x_iret hC dX6_behind_89 (xI.mk ⟨by unfold aBehind; rw [if_pos ⟨c7, c18, c27⟩]; first | rw [if_neg (by omega), if_neg (by omega)] | rw [if_neg (by omega), if_pos w52] | rw [if_pos w52], hA.scr hF2 (by omega), hF2.mono (by omega) (by omega)⟩)
        · refine x_look (off := 38) (tgt := 90) hC dX6_behind_52 (by omega) (by decide) (by rw [w52]; decide) (by decide) ?_
          refine x_aload_n (pc' := 91) hC dX6_behind_90 rfl rfl ?_
          refine x_getR (pc' := 94) (b := 19) hC kf_X6_39 dX6_behind_91 (hP 0 _ rfl) rfl rfl ?_
          refine x_callV (pc' := 97) (n := 0) hC (c_governor (sTri hP) hA2 hT (WR_goYears hT _ _ hR)) ky_X4_governor kv_X4_governor kl_X6_156 dX6_behind_94 (hP 19 _ rfl) rfl rfl rfl rfl ⟨Nat.le_of_ble_eq_true rfl, Nat.le_of_ble_eq_true rfl⟩ (Nat.le_of_ble_eq_true rfl) ⟨Nat.le_refl _, Nat.le_refl _⟩ (Or.inl rfl) rfl (x_kd ?_)
          exact x_iret hC dX6_behind_97 (xI.mk ⟨by unfold aBehind; rw [if_pos ⟨c7, c18, c27⟩]; first | rw [if_neg (by omega), if_neg (by omega)] | rw [if_neg (by omega), if_pos w52] | rw [if_pos w52], hA.scr hF2 (by omega), hF2.mono (by omega) (by omega)⟩)
        · refine x_look (off := 46) (tgt := 98) hC dX6_behind_52 (by omega) (by decide) (by simp only [Op.lookupswitch.offset, if_neg]; rw [if_neg (fun z => w52.1 z.symm), if_neg (fun z => w52.2 z.symm)]) (by decide) ?_
          refine x_aload_n (pc' := 99) hC dX6_behind_98 rfl rfl ?_
          refine x_getR (pc' := 102) (b := 19) hC kf_X6_39 dX6_behind_99 (hP 0 _ rfl) rfl rfl ?_
          refine x_getR (pc' := 105) (b := 23) hC kf_X6_109 dX6_behind_102 (hP 19 _ rfl) rfl rfl ?_
          refine x_iload_n (pc' := 106) hC dX6_behind_105 rfl rfl ?_
          refine x_iald (pc' := 107) hC dX6_behind_106 (hP 23 _ rfl) (by omega) (by decide) rfl ?_
          rw [hA2.rg (by omega) (by omega)]
          exact x_iret hC dX6_behind_107 (xI.mk ⟨by unfold aBehind; rw [if_pos ⟨c7, c18, c27⟩]; first | rw [if_neg (by omega), if_neg (by omega)] | rw [if_neg (by omega), if_pos w52] | rw [if_pos w52], hA.scr hF2 (by omega), hF2.mono (by omega) (by omega)⟩)
      · refine x_iconst (pc' := 31) hC dX6_behind_30 rfl ?_
        exact x_iret hC dX6_behind_31 (xI.mk ⟨by unfold aBehind; rw [if_neg (by omega)], hA, FrI.rf⟩)
set_option maxRecDepth 100000 in
set_option maxHeartbeats 4000000 in
theorem k_slide {g : xG} {l : Launch} {S : List xS} {μ : xM} {T r : Int → Int} {nt : Int} {tx : Int → Int} {un kp : List (Int → Int)} {sl : List (Int × Int)} {m : Int} (hP : xPre S) (hA : RC μ T r nt tx un kp sl) (hF : WF T r un kp) (hm : -2147483648 ≤ m ∧ m < 2147483648) : xCt g l yX6_slide cX6_slide 2 (some .int) 4 91 0 0 [vR g 0, vI m] S μ S (xI (fun a μ' => a = aSlide T r m ∧ RC μ' T r nt tx un kp sl ∧ FrI 0 81 μ μ')) := by
  refine x_enter (by decide) (Nat.le_of_ble_eq_true rfl) ?_
  intro zp ze zs zm za zb zh zc hC hz0
  have hT := hF.1
  have hR := hF.2.1.1
  have hy := hF.2.1.2
  have t0 := hT.1
  have t1 := hT.2.1
  have t2 := hT.2.2.1
  have t3 := hT.2.2.2.1
  have hN := hA.2.1
  have hm := hN.mi
  have hs := hN.sp
  refine x_aload_n (pc' := 1) hC dX6_slide_0 rfl rfl ?_
  refine x_getR (pc' := 4) (b := 12) hC kf_X6_26 dX6_slide_1 (hP 0 _ rfl) rfl rfl ?_
  refine x_iload_n (pc' := 5) hC dX6_slide_4 rfl rfl ?_
  refine x_callV (pc' := 8) (n := 1) hC (c_hasMinister (T := T) (sPl hP) hN.1 hT (by omega)) ky_X0_hasMinister kv_X0_hasMinister kl_X6_95 dX6_slide_5 (hP 12 _ rfl) rfl rfl rfl rfl ⟨Nat.le_of_ble_eq_true rfl, Nat.le_of_ble_eq_true rfl⟩ (Nat.le_of_ble_eq_true rfl) ⟨Nat.le_refl _, Nat.le_refl _⟩ (Or.inl rfl) rfl (x_kd ?_)
  refine x_ifb_ne (tgt := 13) (pc' := 11) hC dX6_slide_8 (by decide) rfl (fun c8 => ?_) (fun c8 => ?_)
  · refine x_aload_n (pc' := 14) hC dX6_slide_13 rfl rfl ?_
    refine x_getR (pc' := 17) (b := 19) hC kf_X6_39 dX6_slide_14 (hP 0 _ rfl) rfl rfl ?_
    refine x_aload_n (pc' := 18) hC dX6_slide_17 rfl rfl ?_
    refine x_getR (pc' := 21) (b := 14) hC kf_X6_35 dX6_slide_18 (hP 0 _ rfl) rfl rfl ?_
    refine x_callV (pc' := 24) (n := 1) hC (c_copy (sTri hP) (sNow hP) (by omega) hN.2.2) ky_X4_copy kv_X4_copy kl_X6_159 dX6_slide_21 (hP 19 _ rfl) rfl rfl rfl rfl ⟨Nat.le_of_ble_eq_true rfl, Nat.le_of_ble_eq_true rfl⟩ (Nat.le_of_ble_eq_true rfl) ⟨Nat.le_refl _, Nat.le_refl _⟩ (Or.inl rfl) rfl (x_kn (fun μ21 h21 => ?_))
    refine x_aload_n (pc' := 25) hC dX6_slide_24 rfl rfl ?_
    refine x_getR (pc' := 28) (b := 19) hC kf_X6_39 dX6_slide_25 (hP 0 _ rfl) rfl rfl ?_
    refine x_callV (pc' := 31) (n := 0) hC (c_oneYear (sTri hP) (xTrial hT hN h21) hT hR) ky_X4_oneYear kv_X4_oneYear kl_X6_162 dX6_slide_28 (hP 19 _ rfl) rfl rfl rfl rfl ⟨Nat.le_of_ble_eq_true rfl, Nat.le_of_ble_eq_true rfl⟩ (Nat.le_of_ble_eq_true rfl) ⟨Nat.le_refl _, Nat.le_refl _⟩ (Or.inl rfl) rfl (x_kn (fun μ28 h28 => ?_))
    refine x_aload_n (pc' := 32) hC dX6_slide_31 rfl rfl ?_
    refine x_getR (pc' := 35) (b := 19) hC kf_X6_39 dX6_slide_32 (hP 0 _ rfl) rfl rfl ?_
    refine x_getR (pc' := 38) (b := 21) hC kf_X6_103 dX6_slide_35 (hP 19 _ rfl) rfl rfl ?_
    refine x_iload_n (pc' := 39) hC dX6_slide_38 rfl rfl ?_
    refine x_iald (pc' := 40) hC dX6_slide_39 (hP 21 _ rfl) (by omega) (by decide) rfl ?_
    have hF2 : FrI 19 24 μ μ28 := h21.1.I.tr h28.1.I
    rw [((xTrial hT hN h21).step (by omega) h28.1 h28.2).pc (by omega) (by omega)]
    exact x_iret hC dX6_slide_40 (xI.mk ⟨by unfold aSlide; rw [if_pos c8], hA.scr hF2 (by omega), hF2.mono (by omega) (by omega)⟩)
  · refine x_iconst (pc' := 12) hC dX6_slide_11 rfl ?_
    exact x_iret hC dX6_slide_12 (xI.mk ⟨by unfold aSlide; rw [if_neg (by omega)], hA, FrI.rf⟩)
set_option maxRecDepth 100000 in
set_option maxHeartbeats 4000000 in
theorem k_top {g : xG} {l : Launch} {S : List xS} {μ : xM} {T r : Int → Int} {nt : Int} {tx : Int → Int} {un kp : List (Int → Int)} {sl : List (Int × Int)} {m : Int} (hP : xPre S) (hA : RC μ T r nt tx un kp sl) (hF : WF T r un kp) (hm : -2147483648 ≤ m ∧ m < 2147483648) : xCt g l yX6_top cX6_top 3 (some .int) 4 91 0 0 [vR g 0, vI m] S μ S (xI (fun a μ' => a = aTop T r m ∧ RC μ' T r nt tx un kp sl ∧ FrI 0 81 μ μ')) := by
  refine x_enter (by decide) (Nat.le_of_ble_eq_true rfl) ?_
  intro zp ze zs zm za zb zh zc hC hz0
  have hT := hF.1
  have hR := hF.2.1.1
  have hy := hF.2.1.2
  have t0 := hT.1
  have t1 := hT.2.1
  have t2 := hT.2.2.1
  have t3 := hT.2.2.2.1
  have hN := hA.2.1
  have hm := hN.mi
  have hs := hN.sp
  have loop : ∀ (zn : Nat) (k : Nat) (y : Int) (μ1 : xM) (r1 : Int → Int) (hm9 : 0 ≤ m ∧ m < T 3) (hy1 : y + k = 41) (hy2 : 0 ≤ y) (h1 : FrI 19 24 μ μ1) (hA1 : SA μ1 19 12 T r1) (h3 : WR T r1) (h4 : topF T m k y r1 = aTop T r m), k < zn → xX g 3 zp l ze { frames := 4, cells := 0, slots := 0, locals := 91 } zs zm za zb zh zc 0 0 (MQ zb (xQ g S (xI (fun a μ' => a = aTop T r m ∧ RC μ' T r nt tx un kp sl ∧ FrI 0 81 μ μ'))) za zs 0 0 (xA0 g)) S μ1 26 [some (vR g 0), some (vI m), some (vI y)] [] := by
    intro zn
    induction zn with
    | zero => intros; rename_i hz; exact absurd hz (Nat.not_lt_zero _)
    | succ zn ih =>
      intro k y μ1 r1 hm9 hy1 hy2 h1 hA1 h3 h4 hn
      have q3 := h3.2.1 m hm9.1 hm9.2
      refine x_iload_n (pc' := 27) hC dX6_top_26 rfl rfl ?_
      refine x_bipush (pc' := 29) hC dX6_top_27 (by decide) rfl ?_
      refine x_icmp_gt (tgt := 66) (pc' := 32) hC dX6_top_29 (by decide) rfl (by omega) (by omega) (fun c29 => ?_) (fun c29 => ?_)
      · refine x_bipush (pc' := 68) hC dX6_top_66 (by decide) rfl ?_
        exact x_iret hC dX6_top_68 (xI.mk ⟨by rw [← h4, show k = 0 by omega]; rfl, hA.scr h1 (by omega), h1.mono (by omega) (by omega)⟩)
      · obtain ⟨k1, rfl⟩ : ∃ k1 : Nat, k = k1 + 1 := ⟨k - 1, by omega⟩
        rw [topF] at h4
        refine x_aload_n (pc' := 33) hC dX6_top_32 rfl rfl ?_
        refine x_getR (pc' := 36) (b := 12) hC kf_X6_26 dX6_top_33 (hP 0 _ rfl) rfl rfl ?_
        refine x_aload_n (pc' := 37) hC dX6_top_36 rfl rfl ?_
        refine x_getR (pc' := 40) (b := 19) hC kf_X6_39 dX6_top_37 (hP 0 _ rfl) rfl rfl ?_
        refine x_getR (pc' := 43) (b := 21) hC kf_X6_103 dX6_top_40 (hP 19 _ rfl) rfl rfl ?_
        refine x_iload_n (pc' := 44) hC dX6_top_43 rfl rfl ?_
        refine x_iald (pc' := 45) hC dX6_top_44 (hP 21 _ rfl) (by omega) (by decide) rfl ?_
        rw [hA1.pc hm9.1 (by omega)]
        refine x_callV (pc' := 48) (n := 1) hC (c_isTop (T := T) (sPl hP) hA1.1 hT (by omega)) ky_X0_isTop kv_X0_isTop kl_X6_165 dX6_top_45 (hP 12 _ rfl) rfl rfl rfl rfl ⟨Nat.le_of_ble_eq_true rfl, Nat.le_of_ble_eq_true rfl⟩ (Nat.le_of_ble_eq_true rfl) ⟨Nat.le_refl _, Nat.le_refl _⟩ (Or.inl rfl) rfl (x_kd ?_)
        refine x_ifb_eq (tgt := 53) (pc' := 51) hC dX6_top_48 (by decide) rfl (fun c48 => ?_) (fun c48 => ?_)
        · rw [if_neg c48] at h4
          refine x_aload_n (pc' := 54) hC dX6_top_53 rfl rfl ?_
          refine x_getR (pc' := 57) (b := 19) hC kf_X6_39 dX6_top_54 (hP 0 _ rfl) rfl rfl ?_
          refine x_callV (pc' := 60) (n := 0) hC (c_oneYear (sTri hP) hA1 hT h3) ky_X4_oneYear kv_X4_oneYear kl_X6_162 dX6_top_57 (hP 19 _ rfl) rfl rfl rfl rfl ⟨Nat.le_of_ble_eq_true rfl, Nat.le_of_ble_eq_true rfl⟩ (Nat.le_of_ble_eq_true rfl) ⟨Nat.le_refl _, Nat.le_refl _⟩ (Or.inl rfl) rfl (x_kn (fun μ57 h57 => ?_))
          refine x_iinc (pc' := 63) hC dX6_top_60 rfl (by decide) rfl rfl ?_
          refine x_goto (tgt := 26) hC dX6_top_63 (by decide) ?_
          exact ih k1 _ _ (goYear T r1) hm9 (by omega) (by omega) (h1.tr h57.1.I) (hA1.step (by omega) h57.1 h57.2) (WR_goYear hT h3) h4 (by omega)
        · rw [if_pos c48] at h4
          refine x_iload_n (pc' := 52) hC dX6_top_51 rfl rfl ?_
          exact x_iret hC dX6_top_52 (xI.mk ⟨h4, hA.scr h1 (by omega), h1.mono (by omega) (by omega)⟩)
  refine x_aload_n (pc' := 1) hC dX6_top_0 rfl rfl ?_
  refine x_getR (pc' := 4) (b := 12) hC kf_X6_26 dX6_top_1 (hP 0 _ rfl) rfl rfl ?_
  refine x_iload_n (pc' := 5) hC dX6_top_4 rfl rfl ?_
  refine x_callV (pc' := 8) (n := 1) hC (c_hasMinister (T := T) (sPl hP) hN.1 hT (by omega)) ky_X0_hasMinister kv_X0_hasMinister kl_X6_95 dX6_top_5 (hP 12 _ rfl) rfl rfl rfl rfl ⟨Nat.le_of_ble_eq_true rfl, Nat.le_of_ble_eq_true rfl⟩ (Nat.le_of_ble_eq_true rfl) ⟨Nat.le_refl _, Nat.le_refl _⟩ (Or.inl rfl) rfl (x_kd ?_)
  refine x_ifb_ne (tgt := 13) (pc' := 11) hC dX6_top_8 (by decide) rfl (fun c8 => ?_) (fun c8 => ?_)
  · refine x_aload_n (pc' := 14) hC dX6_top_13 rfl rfl ?_
    refine x_getR (pc' := 17) (b := 19) hC kf_X6_39 dX6_top_14 (hP 0 _ rfl) rfl rfl ?_
    refine x_aload_n (pc' := 18) hC dX6_top_17 rfl rfl ?_
    refine x_getR (pc' := 21) (b := 14) hC kf_X6_35 dX6_top_18 (hP 0 _ rfl) rfl rfl ?_
    refine x_callV (pc' := 24) (n := 1) hC (c_copy (sTri hP) (sNow hP) (by omega) hN.2.2) ky_X4_copy kv_X4_copy kl_X6_159 dX6_top_21 (hP 19 _ rfl) rfl rfl rfl rfl ⟨Nat.le_of_ble_eq_true rfl, Nat.le_of_ble_eq_true rfl⟩ (Nat.le_of_ble_eq_true rfl) ⟨Nat.le_refl _, Nat.le_refl _⟩ (Or.inl rfl) rfl (x_kn (fun μ21 h21 => ?_))
    refine x_iconst (pc' := 25) hC dX6_top_24 rfl ?_
    refine x_istore_n (pc' := 26) hC dX6_top_25 (by decide) rfl rfl ?_
    exact loop 42 41 _ _ r c8 (by omega) (by omega) h21.1.I (xTrial hT hN h21) hR (by unfold aTop; rw [if_pos c8]) (by omega)
  · refine x_iconst (pc' := 12) hC dX6_top_11 rfl ?_
    exact x_iret hC dX6_top_12 (xI.mk ⟨by unfold aTop; rw [if_neg (by omega)], hA, FrI.rf⟩)
set_option maxRecDepth 100000 in
set_option maxHeartbeats 4000000 in
theorem k_topple {g : xG} {l : Launch} {S : List xS} {μ : xM} {T r : Int → Int} {nt : Int} {tx : Int → Int} {un kp : List (Int → Int)} {sl : List (Int × Int)} {m : Int} (hP : xPre S) (hA : RC μ T r nt tx un kp sl) (hF : WF T r un kp) (hm : -2147483648 ≤ m ∧ m < 2147483648) : xCt g l yX6_topple cX6_topple 4 (some .int) 4 92 0 0 [vR g 0, vI m] S μ S (xI (fun a μ' => a = aTopple T r m ∧ RC μ' T r nt tx un kp sl ∧ FrI 0 81 μ μ')) := by
  refine x_enter (by decide) (Nat.le_of_ble_eq_true rfl) ?_
  intro zp ze zs zm za zb zh zc hC hz0
  have hT := hF.1
  have hR := hF.2.1.1
  have hy := hF.2.1.2
  have t0 := hT.1
  have t1 := hT.2.1
  have t2 := hT.2.2.1
  have t3 := hT.2.2.2.1
  have hN := hA.2.1
  have hm := hN.mi
  have hs := hN.sp
  have loop : ∀ (zn : Nat) (k : Nat) (v : Int) (μ1 : xM) (hm9 : 0 ≤ m ∧ m < T 3) (hv1 : v + k = 11) (hv2 : 0 ≤ v) (h1 : FrI 19 24 μ μ1) (h4 : toppleF T r m k v = aTopple T r m), k < zn → xX g 4 zp l ze { frames := 4, cells := 0, slots := 0, locals := 92 } zs zm za zb zh zc 0 0 (MQ zb (xQ g S (xI (fun a μ' => a = aTopple T r m ∧ RC μ' T r nt tx un kp sl ∧ FrI 0 81 μ μ'))) za zs 0 0 (xA0 g)) S μ1 39 [some (vR g 0), some (vI m), some (vI (r (18 + m))), some (vI v)] [] := by
    intro zn
    induction zn with
    | zero => intros; rename_i hz; exact absurd hz (Nat.not_lt_zero _)
    | succ zn ih =>
      intro k v μ1 hm9 hv1 hv2 h1 h4 hn
      have q3 := hR.2.1 m hm9.1 hm9.2
      have q4 := hR.1 (r (18 + m)) (by omega) (by omega)
      have hN1 : SA μ1 14 12 T r := (hA.scr h1 (by omega)).2.1
      refine x_aload_n (pc' := 40) hC dX6_topple_39 rfl rfl ?_
      refine x_getR (pc' := 43) (b := 14) hC kf_X6_35 dX6_topple_40 (hP 0 _ rfl) rfl rfl ?_
      refine x_getR (pc' := 46) (b := 15) hC kf_X6_119 dX6_topple_43 (hP 14 _ rfl) rfl rfl ?_
      refine x_iload_n (pc' := 47) hC dX6_topple_46 rfl rfl ?_
      refine x_iald (pc' := 48) hC dX6_topple_47 (hP 15 _ rfl) (by omega) (by decide) rfl ?_
      rw [hN1.wx (by omega) (by omega)]
      refine x_iload_n (pc' := 49) hC dX6_topple_48 rfl rfl ?_
      refine x_iadd (pc' := 50) hC dX6_topple_49 rfl ?_
      refine x_bipush (pc' := 52) hC dX6_topple_50 (by decide) rfl ?_
      refine x_icmp_gt (tgt := 98) (pc' := 55) hC dX6_topple_52 (by decide) rfl (by omega) (by omega) (fun c52 => ?_) (fun c52 => ?_)
      · have e9 : toppleF T r m k v = -4 := by cases k with | zero => rfl | succ k => rw [toppleF, if_neg (by omega)]
        refine x_bipush (pc' := 100) hC dX6_topple_98 (by decide) rfl ?_
        exact x_iret hC dX6_topple_100 (xI.mk ⟨by rw [← h4, e9], hA.scr h1 (by omega), h1.mono (by omega) (by omega)⟩)
      · obtain ⟨k1, rfl⟩ : ∃ k1 : Nat, k = k1 + 1 := ⟨k - 1, by omega⟩
        rw [toppleF, if_pos (by omega)] at h4
        refine x_aload_n (pc' := 56) hC dX6_topple_55 rfl rfl ?_
        refine x_getR (pc' := 59) (b := 19) hC kf_X6_39 dX6_topple_56 (hP 0 _ rfl) rfl rfl ?_
        refine x_aload_n (pc' := 60) hC dX6_topple_59 rfl rfl ?_
        refine x_getR (pc' := 63) (b := 14) hC kf_X6_35 dX6_topple_60 (hP 0 _ rfl) rfl rfl ?_
        refine x_callV (pc' := 66) (n := 1) hC (c_copy (sTri hP) (sNow hP) (by omega) hN1.2.2) ky_X4_copy kv_X4_copy kl_X6_159 dX6_topple_63 (hP 19 _ rfl) rfl rfl rfl rfl ⟨Nat.le_of_ble_eq_true rfl, Nat.le_of_ble_eq_true rfl⟩ (Nat.le_of_ble_eq_true rfl) ⟨Nat.le_refl _, Nat.le_refl _⟩ (Or.inl rfl) rfl (x_kn (fun μ63 h63 => ?_))
        have hN2 := xTrial hT hN1 h63
        refine x_aload_n (pc' := 67) hC dX6_topple_66 rfl rfl ?_
        refine x_getR (pc' := 70) (b := 19) hC kf_X6_39 dX6_topple_67 (hP 0 _ rfl) rfl rfl ?_
        refine x_getR (pc' := 73) (b := 20) hC kf_X6_119 dX6_topple_70 (hP 19 _ rfl) rfl rfl ?_
        refine x_iload_n (pc' := 74) hC dX6_topple_73 rfl rfl ?_
        refine x_dup2 (pc' := 75) hC dX6_topple_74 rfl rfl rfl ?_
        refine x_iald (pc' := 76) hC dX6_topple_75 (hP 20 _ rfl) (by omega) (by decide) rfl ?_
        rw [hN2.wx (by omega) (by omega)]
        refine x_iload_n (pc' := 77) hC dX6_topple_76 rfl rfl ?_
        refine x_iadd (pc' := 78) hC dX6_topple_77 rfl ?_
        refine x_iast (pc' := 79) hC dX6_topple_78 (hP 20 _ rfl) (by omega) (by omega) rfl ?_
        refine x_aload_n (pc' := 80) hC dX6_topple_79 rfl rfl ?_
        refine x_getR (pc' := 83) (b := 19) hC kf_X6_39 dX6_topple_80 (hP 0 _ rfl) rfl rfl ?_
        refine x_iload_n (pc' := 84) hC dX6_topple_83 rfl rfl ?_
        refine x_callV (pc' := 87) (n := 1) hC (c_slips (K := m.toNat) (T := T) (r := (up r (2 + r (18 + m)) (r (2 + r (18 + m)) + v))) (sTri hP) ⟨hN2.1.frB (FrB.rf.u (k := 20) (b := 19) (by omega)) (by omega), hN2.2.1.fr (FrS.rf.u1 (b := 19)), hN2.2.2.wax (by omega) (by omega)⟩ hT (WR_wax9 hR (by omega) (by omega) (by omega)) hm9 (by omega)) ky_X4_slipsAtHisTurn kv_X4_slipsAtHisTurn kl_X6_168 dX6_topple_84 (hP 19 _ rfl) rfl rfl rfl rfl ⟨Nat.le_of_ble_eq_true rfl, Nat.le_of_ble_eq_true rfl⟩ (Nat.le_of_ble_eq_true rfl) ⟨Nat.le_refl _, Nat.le_refl _⟩ (Or.inl rfl) rfl (x_kv (fun μ84 h84 => ?_))
        refine x_ifb_eq (tgt := 92) (pc' := 90) hC dX6_topple_87 (by decide) rfl (fun c87 => ?_) (fun c87 => ?_)
        · rw [if_neg c87] at h4
          refine x_iinc (pc' := 95) hC dX6_topple_92 rfl (by decide) rfl rfl ?_
          refine x_goto (tgt := 39) hC dX6_topple_95 (by decide) ?_
          exact ih k1 _ _ hm9 (by omega) (by omega) ((h1.tr h63.1.I).tr ((FrI.rf.u (k := 20) (by omega)).tr h84.I)) h4 (by omega)
        · rw [if_pos c87] at h4
          refine x_iload_n (pc' := 91) hC dX6_topple_90 rfl rfl ?_
          exact x_iret hC dX6_topple_91 (xI.mk (by have z := ((h1.tr h63.1.I).tr ((FrI.rf.u (k := 20) (by omega)).tr h84.I)); exact ⟨h4, hA.scr z (by omega), z.mono (by omega) (by omega)⟩))
  refine x_aload_n (pc' := 1) hC dX6_topple_0 rfl rfl ?_
  refine x_getR (pc' := 4) (b := 12) hC kf_X6_26 dX6_topple_1 (hP 0 _ rfl) rfl rfl ?_
  refine x_iload_n (pc' := 5) hC dX6_topple_4 rfl rfl ?_
  refine x_callV (pc' := 8) (n := 1) hC (c_hasMinister (T := T) (sPl hP) hN.1 hT (by omega)) ky_X0_hasMinister kv_X0_hasMinister kl_X6_95 dX6_topple_5 (hP 12 _ rfl) rfl rfl rfl rfl ⟨Nat.le_of_ble_eq_true rfl, Nat.le_of_ble_eq_true rfl⟩ (Nat.le_of_ble_eq_true rfl) ⟨Nat.le_refl _, Nat.le_refl _⟩ (Or.inl rfl) rfl (x_kd ?_)
  refine x_ifb_ne (tgt := 13) (pc' := 11) hC dX6_topple_8 (by decide) rfl (fun c8 => ?_) (fun c8 => ?_)
  · have q3 := hR.2.1 m c8.1 c8.2
    refine x_aload_n (pc' := 14) hC dX6_topple_13 rfl rfl ?_
    refine x_getR (pc' := 17) (b := 14) hC kf_X6_35 dX6_topple_14 (hP 0 _ rfl) rfl rfl ?_
    refine x_getR (pc' := 20) (b := 16) hC kf_X6_103 dX6_topple_17 (hP 14 _ rfl) rfl rfl ?_
    refine x_iload_n (pc' := 21) hC dX6_topple_20 rfl rfl ?_
    refine x_iald (pc' := 22) hC dX6_topple_21 (hP 16 _ rfl) (by omega) (by decide) rfl ?_
    rw [hN.pc c8.1 (by omega)]
    refine x_istore_n (pc' := 23) hC dX6_topple_22 (by decide) rfl rfl ?_
    refine x_aload_n (pc' := 24) hC dX6_topple_23 rfl rfl ?_
    refine x_getR (pc' := 27) (b := 12) hC kf_X6_26 dX6_topple_24 (hP 0 _ rfl) rfl rfl ?_
    refine x_iload_n (pc' := 28) hC dX6_topple_27 rfl rfl ?_
    refine x_callV (pc' := 31) (n := 1) hC (c_hasStep (T := T) (sPl hP) hN.1 ⟨hT.1, hT.2.1⟩ (by omega)) ky_X0_hasStep kv_X0_hasStep kl_X6_116 dX6_topple_28 (hP 12 _ rfl) rfl rfl rfl rfl ⟨Nat.le_of_ble_eq_true rfl, Nat.le_of_ble_eq_true rfl⟩ (Nat.le_of_ble_eq_true rfl) ⟨Nat.le_refl _, Nat.le_refl _⟩ (Or.inl rfl) rfl (x_kd ?_)
    refine x_ifb_ne (tgt := 37) (pc' := 34) hC dX6_topple_31 (by decide) rfl (fun c31 => ?_) (fun c31 => ?_)
    · refine x_iconst (pc' := 38) hC dX6_topple_37 rfl ?_
      refine x_istore_n (pc' := 39) hC dX6_topple_38 (by decide) rfl rfl ?_
      exact loop 12 11 0 μ c8 (by omega) (by omega) FrI.rf (by unfold aTopple; rw [if_pos c8]) (by omega)
    · exact absurd q3 c31
  · refine x_iconst (pc' := 12) hC dX6_topple_11 rfl ?_
    exact x_iret hC dX6_topple_12 (xI.mk ⟨by unfold aTopple; rw [if_neg (by omega)], hA, FrI.rf⟩)
set_option maxRecDepth 100000 in
set_option maxHeartbeats 4000000 in
theorem c_govBy {g : xG} {l : Launch} {S : List xS} {μ : xM} {T r : Int → Int} {nt : Int} {tx : Int → Int} {un kp : List (Int → Int)} {sl : List (Int × Int)} {m n x v : Int} (hP : xPre S) (hA : RC μ T r nt tx un kp sl) (hF : WF T r un kp) (hm9 : 0 ≤ m ∧ m < T 3) (hn9 : 1 ≤ n ∧ n ≤ 9) (hx9 : 0 ≤ x ∧ x < T 0) (hv9 : 0 ≤ v ∧ v ≤ 9) : xCt g l yX6_governsByWax cX6_governsByWax 5 (some .boolean) 5 113 0 0 [vR g 0, vI m, vI n, vI x, vI v] S μ S (xI (fun a μ' => a = (if plotB T r m n v x = true then 1 else 0) ∧ FrI 19 24 μ μ')) := by
  refine x_enter (by decide) (Nat.le_of_ble_eq_true rfl) ?_
  intro zp ze zs zm za zb zh zc hC hz0
  have hT := hF.1
  have hR := hF.2.1.1
  have hy := hF.2.1.2
  have t0 := hT.1
  have t1 := hT.2.1
  have t2 := hT.2.2.1
  have t3 := hT.2.2.2.1
  have hN := hA.2.1
  have hm := hN.mi
  have hs := hN.sp
  have q4 := hR.1 x (by omega) (by omega)
  have e8 : plotB T r m n v x = (decide (r (2 + x) + v ≤ 9) && decide (gov T (goYears T n.toNat (up r (2 + x) (r (2 + x) + v))) = m)) := rfl
  refine x_aload_n (pc' := 1) hC dX6_governsByWax_0 rfl rfl ?_
  refine x_getR (pc' := 4) (b := 12) hC kf_X6_26 dX6_governsByWax_1 (hP 0 _ rfl) rfl rfl ?_
  refine x_iload_n (pc' := 5) hC dX6_governsByWax_4 rfl rfl ?_
  refine x_callV (pc' := 8) (n := 1) hC (c_hasStep (T := T) (sPl hP) hN.1 ⟨hT.1, hT.2.1⟩ (by omega)) ky_X0_hasStep kv_X0_hasStep kl_X6_116 dX6_governsByWax_5 (hP 12 _ rfl) rfl rfl rfl rfl ⟨Nat.le_of_ble_eq_true rfl, Nat.le_of_ble_eq_true rfl⟩ (Nat.le_of_ble_eq_true rfl) ⟨Nat.le_refl _, Nat.le_refl _⟩ (Or.inl rfl) rfl (x_kd ?_)
  refine x_ifb_eq (tgt := 28) (pc' := 11) hC dX6_governsByWax_8 (by decide) rfl (fun c8 => ?_) (fun c8 => ?_)
  · exact absurd hx9 c8
  · refine x_aload_n (pc' := 12) hC dX6_governsByWax_11 rfl rfl ?_
    refine x_getR (pc' := 15) (b := 14) hC kf_X6_35 dX6_governsByWax_12 (hP 0 _ rfl) rfl rfl ?_
    refine x_getR (pc' := 18) (b := 15) hC kf_X6_119 dX6_governsByWax_15 (hP 14 _ rfl) rfl rfl ?_
    refine x_iload_n (pc' := 19) hC dX6_governsByWax_18 rfl rfl ?_
    refine x_iald (pc' := 20) hC dX6_governsByWax_19 (hP 15 _ rfl) (by omega) (by decide) rfl ?_
    rw [hN.wx (by omega) (by omega)]
    refine x_iload (pc' := 22) hC dX6_governsByWax_20 rfl rfl ?_
    refine x_iadd (pc' := 23) hC dX6_governsByWax_22 rfl ?_
    refine x_bipush (pc' := 25) hC dX6_governsByWax_23 (by decide) rfl ?_
    refine x_icmp_le (tgt := 30) (pc' := 28) hC dX6_governsByWax_25 (by decide) rfl (by omega) (by omega) (fun c25 => ?_) (fun c25 => ?_)
    · refine x_aload_n (pc' := 31) hC dX6_governsByWax_30 rfl rfl ?_
      refine x_getR (pc' := 34) (b := 19) hC kf_X6_39 dX6_governsByWax_31 (hP 0 _ rfl) rfl rfl ?_
      refine x_aload_n (pc' := 35) hC dX6_governsByWax_34 rfl rfl ?_
      refine x_getR (pc' := 38) (b := 14) hC kf_X6_35 dX6_governsByWax_35 (hP 0 _ rfl) rfl rfl ?_
      refine x_callV (pc' := 41) (n := 1) hC (c_copy (sTri hP) (sNow hP) (by omega) hN.2.2) ky_X4_copy kv_X4_copy kl_X6_159 dX6_governsByWax_38 (hP 19 _ rfl) rfl rfl rfl rfl ⟨Nat.le_of_ble_eq_true rfl, Nat.le_of_ble_eq_true rfl⟩ (Nat.le_of_ble_eq_true rfl) ⟨Nat.le_refl _, Nat.le_refl _⟩ (Or.inl rfl) rfl (x_kn (fun μ38 h38 => ?_))
      have hN2 := xTrial hT hN h38
      refine x_aload_n (pc' := 42) hC dX6_governsByWax_41 rfl rfl ?_
      refine x_getR (pc' := 45) (b := 19) hC kf_X6_39 dX6_governsByWax_42 (hP 0 _ rfl) rfl rfl ?_
      refine x_getR (pc' := 48) (b := 20) hC kf_X6_119 dX6_governsByWax_45 (hP 19 _ rfl) rfl rfl ?_
      refine x_iload_n (pc' := 49) hC dX6_governsByWax_48 rfl rfl ?_
      refine x_dup2 (pc' := 50) hC dX6_governsByWax_49 rfl rfl rfl ?_
      refine x_iald (pc' := 51) hC dX6_governsByWax_50 (hP 20 _ rfl) (by omega) (by decide) rfl ?_
      rw [hN2.wx (by omega) (by omega)]
      refine x_iload (pc' := 53) hC dX6_governsByWax_51 rfl rfl ?_
      refine x_iadd (pc' := 54) hC dX6_governsByWax_53 rfl ?_
      refine x_iast (pc' := 55) hC dX6_governsByWax_54 (hP 20 _ rfl) (by omega) (by omega) rfl ?_
      refine x_aload_n (pc' := 56) hC dX6_governsByWax_55 rfl rfl ?_
      refine x_getR (pc' := 59) (b := 19) hC kf_X6_39 dX6_governsByWax_56 (hP 0 _ rfl) rfl rfl ?_
      refine x_iload_n (pc' := 60) hC dX6_governsByWax_59 rfl rfl ?_
      refine x_callV (pc' := 63) (n := 1) hC (c_goOn (N := n.toNat) (T := T) (r := up r (2 + x) (r (2 + x) + v)) (sTri hP) ⟨hN2.1.frB (FrB.rf.u (k := 20) (b := 19) (by omega)) (by omega), hN2.2.1.fr (FrS.rf.u1 (b := 19)), hN2.2.2.wax (by omega) (by omega)⟩ hT (WR_wax9 hR (by omega) (by omega) (by omega)) (by omega) (by omega)) ky_X4_goOn kv_X4_goOn kl_X6_138 dX6_governsByWax_60 (hP 19 _ rfl) rfl rfl rfl rfl ⟨Nat.le_of_ble_eq_true rfl, Nat.le_of_ble_eq_true rfl⟩ (Nat.le_of_ble_eq_true rfl) ⟨Nat.le_refl _, Nat.le_refl _⟩ (Or.inl rfl) rfl (x_kn (fun μ60 h60 => ?_))
      refine x_aload_n (pc' := 64) hC dX6_governsByWax_63 rfl rfl ?_
      refine x_getR (pc' := 67) (b := 19) hC kf_X6_39 dX6_governsByWax_64 (hP 0 _ rfl) rfl rfl ?_
      refine x_callV (pc' := 70) (n := 0) hC (c_governor (T := T) (r := goYears T n.toNat (up r (2 + x) (r (2 + x) + v))) (sTri hP) ⟨(hN2.1.frB (FrB.rf.u (k := 20) (b := 19) (by omega)) (by omega)).fr (by omega) h60.1, (hN2.2.1.fr (FrS.rf.u1 (b := 19))).fr h60.1, h60.2⟩ hT (WR_goYears hT _ _ (WR_wax9 hR (by omega) (by omega) (by omega)))) ky_X4_governor kv_X4_governor kl_X6_156 dX6_governsByWax_67 (hP 19 _ rfl) rfl rfl rfl rfl ⟨Nat.le_of_ble_eq_true rfl, Nat.le_of_ble_eq_true rfl⟩ (Nat.le_of_ble_eq_true rfl) ⟨Nat.le_refl _, Nat.le_refl _⟩ (Or.inl rfl) rfl (x_kd ?_)
      refine x_iload_n (pc' := 71) hC dX6_governsByWax_70 rfl rfl ?_
      have g9 := gov_in (T := T) (r := goYears T n.toNat (up r (2 + x) (r (2 + x) + v))) hT
      refine x_icmp_ne (tgt := 78) (pc' := 74) hC dX6_governsByWax_71 (by decide) rfl (by omega) (by omega) (fun c71 => ?_) (fun c71 => ?_)
      · refine x_iconst (pc' := 79) hC dX6_governsByWax_78 rfl ?_
        exact x_zret hC dX6_governsByWax_79 (by first | exact Or.inl rfl | exact Or.inr rfl | omega) (xI.mk (by first
      | exact ⟨by rw [e8, if_neg (by simp; omega)], FrI.rf⟩
      | exact ⟨by rw [e8]; first | rw [if_pos (by simp only [Bool.and_eq_true, decide_eq_true_eq]; omega)] | rw [if_neg (by simp only [Bool.and_eq_true, decide_eq_true_eq]; omega)], (h38.1.I.tr (FrI.rf.u (k := 20) (by omega))).tr h60.1.I⟩))
      · refine x_iconst (pc' := 75) hC dX6_governsByWax_74 rfl ?_
        refine x_goto (tgt := 79) hC dX6_governsByWax_75 (by decide) ?_
        exact x_zret hC dX6_governsByWax_79 (by first | exact Or.inl rfl | exact Or.inr rfl | omega) (xI.mk (by first
      | exact ⟨by rw [e8, if_neg (by simp; omega)], FrI.rf⟩
      | exact ⟨by rw [e8]; first | rw [if_pos (by simp only [Bool.and_eq_true, decide_eq_true_eq]; omega)] | rw [if_neg (by simp only [Bool.and_eq_true, decide_eq_true_eq]; omega)], (h38.1.I.tr (FrI.rf.u (k := 20) (by omega))).tr h60.1.I⟩))
    · refine x_iconst (pc' := 29) hC dX6_governsByWax_28 rfl ?_
      exact x_zret hC dX6_governsByWax_29 (by first | exact Or.inl rfl | exact Or.inr rfl | omega) (xI.mk (by first
      | exact ⟨by rw [e8, if_neg (by simp; omega)], FrI.rf⟩
      | exact ⟨by rw [e8]; first | rw [if_pos (by simp only [Bool.and_eq_true, decide_eq_true_eq]; omega)] | rw [if_neg (by simp only [Bool.and_eq_true, decide_eq_true_eq]; omega)], (h38.1.I.tr (FrI.rf.u (k := 20) (by omega))).tr h60.1.I⟩))
set_option maxRecDepth 100000 in
set_option maxHeartbeats 4000000 in
theorem k_plot {g : xG} {l : Launch} {S : List xS} {μ : xM} {T r : Int → Int} {nt : Int} {tx : Int → Int} {un kp : List (Int → Int)} {sl : List (Int × Int)} {m n w : Int} (hP : xPre S) (hA : RC μ T r nt tx un kp sl) (hF : WF T r un kp) (hm : -2147483648 ≤ m ∧ m < 2147483648) (hn : -2147483648 ≤ n ∧ n < 2147483648) (hw : -2147483648 ≤ w ∧ w < 2147483648) : xCt g l yX6_plot cX6_plot 6 (some .int) 6 137 0 0 [vR g 0, vI m, vI n, vI w] S μ S (xI (fun a μ' => a = aPlot T r m n w ∧ RC μ' T r nt tx un kp sl ∧ FrI 0 81 μ μ')) := by
  refine x_enter (by decide) (Nat.le_of_ble_eq_true rfl) ?_
  intro zp ze zs zm za zb zh zc hC hz0
  have hT := hF.1
  have hR := hF.2.1.1
  have hy := hF.2.1.2
  have t0 := hT.1
  have t1 := hT.2.1
  have t2 := hT.2.2.1
  have t3 := hT.2.2.2.1
  have hN := hA.2.1
  have hm := hN.mi
  have hs := hN.sp
  have loop : ∀ (zn : Nat) (k : Nat) (v : Int) (μ1 : xM) (b1 : 0 ≤ m ∧ m < T 3) (b2 : 1 ≤ n ∧ n ≤ 9) (b3 : 0 ≤ w ∧ w ≤ 1) (hv1 : v + k = 10) (hv2 : 1 ≤ v) (h1 : FrI 19 24 μ μ1) (h4 : pick (firstVX (plotB T r m n) (T 0).toNat k v) w = aPlot T r m n w), k < zn → xX g 6 zp l ze { frames := 6, cells := 0, slots := 0, locals := 137 } zs zm za zb zh zc 0 0 (MQ zb (xQ g S (xI (fun a μ' => a = aPlot T r m n w ∧ RC μ' T r nt tx un kp sl ∧ FrI 0 81 μ μ'))) za zs 0 0 (xA0 g)) S μ1 57 [some (vR g 0), some (vI m), some (vI n), some (vI w), some (vI v), none] [] := by
    intro zn
    induction zn with
    | zero => intros; rename_i hz; exact absurd hz (Nat.not_lt_zero _)
    | succ zn ih9 =>
      intro k v μ1 b1 b2 b3 hv1 hv2 h1 h4 hn
      have loop2 : ∀ (zn : Nat) (j : Nat) (x : Int) (μ2 : xM) (hx1 : x + j = T 0) (hx2 : 0 ≤ x) (h2 : FrI 19 24 μ μ2) (hv3 : v ≤ 9) (h5 : firstX (plotB T r m n v) j x = firstX (plotB T r m n v) (T 0).toNat 0), j < zn → xX g 6 zp l ze { frames := 6, cells := 0, slots := 0, locals := 137 } zs zm za zb zh zc 0 0 (MQ zb (xQ g S (xI (fun a μ' => a = aPlot T r m n w ∧ RC μ' T r nt tx un kp sl ∧ FrI 0 81 μ μ'))) za zs 0 0 (xA0 g)) S μ2 67 [some (vR g 0), some (vI m), some (vI n), some (vI w), some (vI v), some (vI x)] [] := by
        intro zn
        induction zn with
        | zero => intros; rename_i hz; exact absurd hz (Nat.not_lt_zero _)
        | succ zn ih =>
          intro j x μ2 hx1 hx2 h2 hv3 h5 hn
          obtain ⟨k1, rfl⟩ : ∃ k1 : Nat, k = k1 + 1 := ⟨k - 1, by omega⟩
          refine x_iload (pc' := 69) hC dX6_plot_67 rfl rfl ?_
          refine x_aload_n (pc' := 70) hC dX6_plot_69 rfl rfl ?_
          refine x_getR (pc' := 73) (b := 12) hC kf_X6_26 dX6_plot_70 (hP 0 _ rfl) rfl rfl ?_
          refine x_getI (j' := 2) (pc' := 76) hC kf_X6_175 dX6_plot_73 (hP 12 _ rfl) rfl rfl rfl ?_
          rw [(hA.scr h2 (by omega)).2.1.sp]
          refine x_icmp_ge (tgt := 110) (pc' := 79) hC dX6_plot_76 (by decide) rfl (by omega) (by omega) (fun c76 => ?_) (fun c76 => ?_)
          · have j0 : j = 0 := by omega
            subst j0
            rw [firstX] at h5
            rw [firstVX, if_pos h5.symm] at h4
            refine x_iinc (pc' := 113) hC dX6_plot_110 rfl (by decide) rfl rfl ?_
            refine x_goto (tgt := 57) hC dX6_plot_113 (by decide) ?_
            refine x_vs (vs' := [some (vR g 0), some (vI m), some (vI n), some (vI w), some (vI (v + 1)), none]) (by intro i v; match i with | 0 => exact id | 1 => exact id | 2 => exact id | 3 => exact id | 4 => exact id | 5 => (intro h; cases h) | i + 6 => (intro h; cases h)) ?_
            exact ih9 k1 _ _ b1 b2 b3 (by omega) (by omega) h2 h4 (by omega)
          · obtain ⟨j1, rfl⟩ : ∃ j1 : Nat, j = j1 + 1 := ⟨j - 1, by omega⟩
            rw [firstX] at h5
            refine x_aload_n (pc' := 80) hC dX6_plot_79 rfl rfl ?_
            refine x_iload_n (pc' := 81) hC dX6_plot_80 rfl rfl ?_
            refine x_iload_n (pc' := 82) hC dX6_plot_81 rfl rfl ?_
            refine x_iload (pc' := 84) hC dX6_plot_82 rfl rfl ?_
            refine x_iload (pc' := 86) hC dX6_plot_84 rfl rfl ?_
            refine x_callV (pc' := 89) (n := 4) hC (c_govBy hP (hA.scr h2 (by omega)) hF b1 b2 ⟨by omega, by omega⟩ (by omega)) ky_X6_governsByWax kv_X6_governsByWax kl_X6_171 dX6_plot_86 (hP 0 _ rfl) rfl rfl rfl rfl ⟨Nat.le_of_ble_eq_true rfl, Nat.le_of_ble_eq_true rfl⟩ (Nat.le_of_ble_eq_true rfl) ⟨Nat.le_refl _, Nat.le_refl _⟩ (Or.inl rfl) rfl (x_kv (fun μ86 h86 => ?_))
            refine x_ifb_eq (tgt := 104) (pc' := 92) hC dX6_plot_89 (by decide) rfl (fun c89 => ?_) (fun c89 => ?_)
            · rw [if_neg c89] at h5
              refine x_iinc (pc' := 107) hC dX6_plot_104 rfl (by decide) rfl rfl ?_
              refine x_goto (tgt := 67) hC dX6_plot_107 (by decide) ?_
              exact ih j1 _ _ (by omega) (by omega) (h2.tr h86) (by omega) h5 (by omega)
            · rw [if_pos c89] at h5
              rw [firstVX, ← h5, if_neg (by omega)] at h4
              refine x_iload_n (pc' := 93) hC dX6_plot_92 rfl rfl ?_
              refine x_if_ne (tgt := 101) (pc' := 96) hC dX6_plot_93 (by decide) rfl (by omega) (fun c93 => ?_) (fun c93 => ?_)
              · refine x_iload (pc' := 103) hC dX6_plot_101 rfl rfl ?_
                exact x_iret hC dX6_plot_103 (xI.mk ⟨by rw [← h4]; unfold pick; rw [if_neg (by omega)]; first | rw [if_neg c93] | rw [if_pos (by omega)], hA.scr (h2.tr h86) (by omega), (h2.tr h86).mono (by omega) (by omega)⟩)
              · refine x_iload (pc' := 98) hC dX6_plot_96 rfl rfl ?_
                refine x_goto (tgt := 103) hC dX6_plot_98 (by decide) ?_
                exact x_iret hC dX6_plot_103 (xI.mk ⟨by rw [← h4]; unfold pick; rw [if_neg (by omega)]; first | rw [if_neg c93] | rw [if_pos (by omega)], hA.scr (h2.tr h86) (by omega), (h2.tr h86).mono (by omega) (by omega)⟩)
      refine x_iload (pc' := 59) hC dX6_plot_57 rfl rfl ?_
      refine x_bipush (pc' := 61) hC dX6_plot_59 (by decide) rfl ?_
      refine x_icmp_gt (tgt := 116) (pc' := 64) hC dX6_plot_61 (by decide) rfl (by omega) (by omega) (fun c61 => ?_) (fun c61 => ?_)
      · refine x_bipush (pc' := 118) hC dX6_plot_116 (by decide) rfl ?_
        exact x_iret hC dX6_plot_118 (xI.mk ⟨by rw [← h4, show k = 0 by omega]; rfl, hA.scr h1 (by omega), h1.mono (by omega) (by omega)⟩)
      · refine x_iconst (pc' := 65) hC dX6_plot_64 rfl ?_
        refine x_istore (pc' := 67) hC dX6_plot_65 (by decide) rfl rfl ?_
        exact loop2 ((T 0).toNat + 1) (T 0).toNat _ _ (by omega) (by omega) h1 (by omega) rfl (by omega)
  refine x_aload_n (pc' := 1) hC dX6_plot_0 rfl rfl ?_
  refine x_getR (pc' := 4) (b := 12) hC kf_X6_26 dX6_plot_1 (hP 0 _ rfl) rfl rfl ?_
  refine x_iload_n (pc' := 5) hC dX6_plot_4 rfl rfl ?_
  refine x_callV (pc' := 8) (n := 1) hC (c_hasMinister (T := T) (sPl hP) hN.1 hT (by omega)) ky_X0_hasMinister kv_X0_hasMinister kl_X6_95 dX6_plot_5 (hP 12 _ rfl) rfl rfl rfl rfl ⟨Nat.le_of_ble_eq_true rfl, Nat.le_of_ble_eq_true rfl⟩ (Nat.le_of_ble_eq_true rfl) ⟨Nat.le_refl _, Nat.le_refl _⟩ (Or.inl rfl) rfl (x_kd ?_)
  refine x_ifb_eq (tgt := 30) (pc' := 11) hC dX6_plot_8 (by decide) rfl (fun c8 => ?_) (fun c8 => ?_)
  · refine x_iconst (pc' := 31) hC dX6_plot_30 rfl ?_
    exact x_iret hC dX6_plot_31 (xI.mk ⟨by unfold aPlot; rw [if_neg (by omega)], hA, FrI.rf⟩)
  · refine x_iload_n (pc' := 12) hC dX6_plot_11 rfl rfl ?_
    refine x_iconst (pc' := 13) hC dX6_plot_12 rfl ?_
    refine x_bipush (pc' := 15) hC dX6_plot_13 (by decide) rfl ?_
    refine x_callS (pc' := 18) (n := 3) hC (c_within (by omega) (by omega) (by omega)) ky_X6_within ks_X6_within kl_X6_84 dX6_plot_15 rfl rfl ⟨Nat.le_of_ble_eq_true rfl, Nat.le_of_ble_eq_true rfl⟩ (Nat.le_of_ble_eq_true rfl) ⟨Nat.le_refl _, Nat.le_refl _⟩ (Or.inl rfl) rfl (x_kd ?_)
    refine x_ifb_eq (tgt := 30) (pc' := 21) hC dX6_plot_18 (by decide) rfl (fun c18 => ?_) (fun c18 => ?_)
    · refine x_iconst (pc' := 31) hC dX6_plot_30 rfl ?_
      exact x_iret hC dX6_plot_31 (xI.mk ⟨by unfold aPlot; rw [if_neg (by omega)], hA, FrI.rf⟩)
    · refine x_iload_n (pc' := 22) hC dX6_plot_21 rfl rfl ?_
      refine x_iconst (pc' := 23) hC dX6_plot_22 rfl ?_
      refine x_iconst (pc' := 24) hC dX6_plot_23 rfl ?_
      refine x_callS (pc' := 27) (n := 3) hC (c_within (by omega) (by omega) (by omega)) ky_X6_within ks_X6_within kl_X6_84 dX6_plot_24 rfl rfl ⟨Nat.le_of_ble_eq_true rfl, Nat.le_of_ble_eq_true rfl⟩ (Nat.le_of_ble_eq_true rfl) ⟨Nat.le_refl _, Nat.le_refl _⟩ (Or.inl rfl) rfl (x_kd ?_)
      refine x_ifb_ne (tgt := 32) (pc' := 30) hC dX6_plot_27 (by decide) rfl (fun c27 => ?_) (fun c27 => ?_)
      · refine x_aload_n (pc' := 33) hC dX6_plot_32 rfl rfl ?_
        refine x_iload_n (pc' := 34) hC dX6_plot_33 rfl rfl ?_
        refine x_iload_n (pc' := 35) hC dX6_plot_34 rfl rfl ?_
        refine x_iconst (pc' := 36) hC dX6_plot_35 rfl ?_
        refine x_iconst (pc' := 37) hC dX6_plot_36 rfl ?_
        refine x_callV (pc' := 40) (n := 4) hC (c_govBy hP hA hF c8 c18 ⟨by omega, by omega⟩ (by omega)) ky_X6_governsByWax kv_X6_governsByWax kl_X6_171 dX6_plot_37 (hP 0 _ rfl) rfl rfl rfl rfl ⟨Nat.le_of_ble_eq_true rfl, Nat.le_of_ble_eq_true rfl⟩ (Nat.le_of_ble_eq_true rfl) ⟨Nat.le_refl _, Nat.le_refl _⟩ (Or.inl rfl) rfl (x_kv (fun μ37 h37 => ?_))
        refine x_ifb_eq (tgt := 54) (pc' := 43) hC dX6_plot_40 (by decide) rfl (fun c40 => ?_) (fun c40 => ?_)
        · refine x_iconst (pc' := 55) hC dX6_plot_54 rfl ?_
          refine x_istore (pc' := 57) hC dX6_plot_55 (by decide) rfl rfl ?_
          refine x_vs (vs' := [some (vR g 0), some (vI m), some (vI n), some (vI w), some (vI 1), none]) (by intro i v; match i with | 0 => exact id | 1 => exact id | 2 => exact id | 3 => exact id | 4 => exact id | 5 => (intro h; cases h) | i + 6 => (intro h; cases h)) ?_
          exact loop 10 9 _ _ c8 c18 c27 (by omega) (by omega) h37 (by unfold aPlot; rw [if_pos ⟨c8, c18, c27⟩, if_neg c40]) (by omega)
        · refine x_iload_n (pc' := 44) hC dX6_plot_43 rfl rfl ?_
          refine x_if_ne (tgt := 51) (pc' := 47) hC dX6_plot_44 (by decide) rfl (by omega) (fun c44 => ?_) (fun c44 => ?_)
          · refine x_bipush (pc' := 53) hC dX6_plot_51 (by decide) rfl ?_
            exact x_iret hC dX6_plot_53 (xI.mk ⟨by unfold aPlot; rw [if_pos ⟨c8, c18, c27⟩, if_pos c40]; first | rw [if_neg c44] | rw [if_pos (by omega)], hA.scr h37 (by omega), h37.mono (by omega) (by omega)⟩)
          · refine x_iconst (pc' := 48) hC dX6_plot_47 rfl ?_
            refine x_goto (tgt := 53) hC dX6_plot_48 (by decide) ?_
            exact x_iret hC dX6_plot_53 (xI.mk ⟨by unfold aPlot; rw [if_pos ⟨c8, c18, c27⟩, if_pos c40]; first | rw [if_neg c44] | rw [if_pos (by omega)], hA.scr h37 (by omega), h37.mono (by omega) (by omega)⟩)
      · refine x_iconst (pc' := 31) hC dX6_plot_30 rfl ?_
        exact x_iret hC dX6_plot_31 (xI.mk ⟨by unfold aPlot; rw [if_neg (by omega)], hA, FrI.rf⟩)
