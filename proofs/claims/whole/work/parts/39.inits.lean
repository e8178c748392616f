set_option maxRecDepth 100000 in
set_option maxHeartbeats 4000000 in
theorem c_layOut0 {g : xG} {l : Launch} {S : List xS} {μ : xM} {T r : Int → Int} {nt : Int} {tx : Int → Int} {un kp : List (Int → Int)} {sl : List (Int × Int)} (hP : xPre S) (hA : RC μ T r nt tx un kp sl) : xCt g l yX6_layOut cX6_layOut 1 (some .boolean) 5 106 0 0 [vR g 0] S μ S (xI (fun a μ' => a = (if okLay nt tx then 1 else 0) ∧ (okLay nt tx → RC μ' (prsA nt tx).2.1 (prsA nt tx).2.2 nt tx [] [] []) ∧ (¬ okLay nt tx → RC μ' T r nt tx un kp sl) ∧ FrI 0 81 μ μ')) := by
  refine x_enter (by decide) (Nat.le_of_ble_eq_true rfl) ?_
  intro zp ze zs zm za zb zh zc hC hz0
  obtain ⟨os, hPT⟩ := prsA_PT nt tx
  refine x_aload_n (pc' := 1) hC dX6_layOut_0 rfl rfl ?_
  refine x_getR (pc' := 4) (b := 3) hC kf_X6_19 dX6_layOut_1 (hP 0 _ rfl) rfl rfl ?_
  refine x_aload_n (pc' := 5) hC dX6_layOut_4 rfl rfl ?_
  refine x_getR (pc' := 8) (b := 1) hC kf_X6_10 dX6_layOut_5 (hP 0 _ rfl) rfl rfl ?_
  refine x_callV (pc' := 11) (n := 1) hC (c_firstFault hP hA.1) ky_X1_firstFault kv_X1_firstFault kl_X6_88 dX6_layOut_8 (hP 3 _ rfl) rfl rfl rfl rfl ⟨Nat.le_of_ble_eq_true rfl, Nat.le_of_ble_eq_true rfl⟩ (Nat.le_of_ble_eq_true rfl) ⟨Nat.le_refl _, Nat.le_refl _⟩ (Or.inl rfl) rfl (x_ki (fun a8 μ8 h8 => ?_))
  refine x_bipush (pc' := 13) hC dX6_layOut_11 (by decide) rfl ?_
  refine x_icmp_ne (tgt := 29) (pc' := 16) hC dX6_layOut_13 (by decide) rfl (by have := h8.2.2.2; omega) (by omega) (fun c13 => ?_) (fun c13 => ?_)
  · have b1 : ¬ okLay nt tx := fun z => c13 (h8.1.trans z.1)
    refine x_iconst (pc' := 30) hC dX6_layOut_29 rfl ?_
    exact x_zret hC dX6_layOut_30 (by first | exact Or.inl rfl | exact Or.inr rfl | omega) (xI.mk ⟨(if_neg b1).symm, fun z => absurd z b1, fun _ => hA.scr h8.2.1 (by omega), h8.2.1.mono (by omega) (by omega)⟩)
  · refine x_aload_n (pc' := 17) hC dX6_layOut_16 rfl rfl ?_
    refine x_getR (pc' := 20) (b := 3) hC kf_X6_19 dX6_layOut_17 (hP 0 _ rfl) rfl rfl ?_
    refine x_getR (pc' := 23) (b := 4) hC kf_X6_222 dX6_layOut_20 (hP 3 _ rfl) rfl rfl ?_
    refine x_getI (j' := 1) (pc' := 26) hC kf_X6_92 dX6_layOut_23 (hP 4 _ rfl) rfl rfl rfl ?_
    rw [(h8.2.2.1 (by omega)).mi]
    refine x_if_ne (tgt := 31) (pc' := 29) hC dX6_layOut_26 (by decide) rfl (by have := hPT.2.1; omega) (fun c26 => ?_) (fun c26 => ?_)
    · have b1 : okLay nt tx := ⟨by rw [← h8.1]; omega, c26⟩
      have b2 := h8.2.2.1 (by omega)
      have b3 := hPT.2.1
      refine x_aload_n (pc' := 32) hC dX6_layOut_31 rfl rfl ?_
      refine x_getR (pc' := 35) (b := 12) hC kf_X6_26 dX6_layOut_32 (hP 0 _ rfl) rfl rfl ?_
      refine x_aload_n (pc' := 36) hC dX6_layOut_35 rfl rfl ?_
      refine x_getR (pc' := 39) (b := 3) hC kf_X6_19 dX6_layOut_36 (hP 0 _ rfl) rfl rfl ?_
      refine x_getR (pc' := 42) (b := 4) hC kf_X6_222 dX6_layOut_39 (hP 3 _ rfl) rfl rfl ?_
      refine x_callV (pc' := 45) (n := 1) hC (c_copyP (sPl hP) (sPlR hP) (by omega) hPT.2.1.2 (h8.2.2.1 (by omega)).1) ky_X0_copy kv_X0_copy kl_X6_223 dX6_layOut_42 (hP 12 _ rfl) rfl rfl rfl rfl ⟨Nat.le_of_ble_eq_true rfl, Nat.le_of_ble_eq_true rfl⟩ (Nat.le_of_ble_eq_true rfl) ⟨Nat.le_refl _, Nat.le_refl _⟩ (Or.inl rfl) rfl (x_kn (fun μ42 h42 => ?_))
      refine x_aload_n (pc' := 46) hC dX6_layOut_45 rfl rfl ?_
      refine x_getR (pc' := 49) (b := 14) hC kf_X6_35 dX6_layOut_46 (hP 0 _ rfl) rfl rfl ?_
      refine x_aload_n (pc' := 50) hC dX6_layOut_49 rfl rfl ?_
      refine x_getR (pc' := 53) (b := 3) hC kf_X6_19 dX6_layOut_50 (hP 0 _ rfl) rfl rfl ?_
      refine x_getR (pc' := 56) (b := 6) hC kf_X6_225 dX6_layOut_53 (hP 3 _ rfl) rfl rfl ?_
      refine x_callV (pc' := 59) (n := 1) hC (c_copy (sNow hP) (sRea hP) (by omega) ((h8.2.2.1 (by omega)).2.2.frI h42.1 (by omega))) ky_X4_copy kv_X4_copy kl_X6_159 dX6_layOut_56 (hP 14 _ rfl) rfl rfl rfl rfl ⟨Nat.le_of_ble_eq_true rfl, Nat.le_of_ble_eq_true rfl⟩ (Nat.le_of_ble_eq_true rfl) ⟨Nat.le_refl _, Nat.le_refl _⟩ (Or.inl rfl) rfl (x_kn (fun μ56 h56 => ?_))
      refine x_aload_n (pc' := 60) hC dX6_layOut_59 rfl rfl ?_
      refine x_getR (pc' := 63) (b := 78) hC kf_X6_57 dX6_layOut_60 (hP 0 _ rfl) rfl rfl ?_
      refine x_iconst (pc' := 64) hC dX6_layOut_63 rfl ?_
      refine x_putI (j' := 2) (pc' := 67) hC kf_X6_192 dX6_layOut_64 (hP 78 _ rfl) rfl rfl rfl rfl rfl ?_
      refine x_aload_n (pc' := 68) hC dX6_layOut_67 rfl rfl ?_
      refine x_getR (pc' := 71) (b := 24) hC kf_X6_47 dX6_layOut_68 (hP 0 _ rfl) rfl rfl ?_
      refine x_iconst (pc' := 72) hC dX6_layOut_71 rfl ?_
      refine x_putI (j' := 1) (pc' := 75) hC kf_X6_153 dX6_layOut_72 (hP 24 _ rfl) rfl rfl rfl rfl rfl ?_
      refine x_aload_n (pc' := 76) hC dX6_layOut_75 rfl rfl ?_
      refine x_getR (pc' := 79) (b := 66) hC kf_X6_51 dX6_layOut_76 (hP 0 _ rfl) rfl rfl ?_
      refine x_iconst (pc' := 80) hC dX6_layOut_79 rfl ?_
      refine x_putI (j' := 1) (pc' := 83) hC kf_X6_153 dX6_layOut_80 (hP 66 _ rfl) rfl rfl rfl rfl rfl ?_
      refine x_iconst (pc' := 84) hC dX6_layOut_83 rfl ?_
      exact x_zret hC dX6_layOut_84 (by first | exact Or.inl rfl | exact Or.inr rfl | omega) (xI.mk (by
      have f : FrI 3 19 μ μ56 := ((h8.2.1.mono (by omega) (by omega)).tr (h42.1.mono (by omega) (by omega))).tr (h56.1.I.mono (by omega) (by omega))
      refine ⟨(if_pos b1).symm, fun _ => hA.lay f ⟨h42.2.frI h56.1.I (by omega), fun m m0 m1 => ?_, h56.2.1⟩, fun z => absurd b1 z, (((f.mono (by omega) (by omega)).u (by omega)).u (by omega)).u (by omega)⟩
      rw [h56.2.2 m m0 (by omega), h42.1 _ _ (by omega)]
      exact b2.2.1 m m0 m1))
    · have b1 : ¬ okLay nt tx := fun z => z.2 (by omega)
      refine x_iconst (pc' := 30) hC dX6_layOut_29 rfl ?_
      exact x_zret hC dX6_layOut_30 (by first | exact Or.inl rfl | exact Or.inr rfl | omega) (xI.mk ⟨(if_neg b1).symm, fun z => absurd z b1, fun _ => hA.scr h8.2.1 (by omega), h8.2.1.mono (by omega) (by omega)⟩)

theorem tx_ok : okLay 69 xTxt := by decide +kernel
def Tc : Int → Int := (prsA 69 xTxt).2.1
def rc : Int → Int := (prsA 69 xTxt).2.2
theorem Ring_0 {μ : xM} {c M : Nat} {T : Int → Int} (hM : 0 < M) (h1 : μ c 1 = 0) (h2 : μ c 2 = 0) : Ring μ c M [] T := ⟨h1, by simp, 0, h2, hM, fun i u hu => by simp at hu⟩
theorem Tx_up {k : Int} : up xTxt k (xTxt k) = xTxt := up_self
set_option maxRecDepth 100000 in
set_option maxHeartbeats 8000000 in
theorem c_iniB {g : xG} {l : Launch} {μ : xM} : xCt g l yX6_init cX6_init 2 none 6 126 80 837 [vR g 0] ([] ++ [.inl (6, o0B)]) μ xSC (xN (fun μ' => RC μ' Tc rc 0 xTxt [] [] [])) := by
  refine x_enter (by decide) (Nat.le_of_ble_eq_true rfl) ?_
  intro zp ze zs zm za zb zh zc hC hz0
  have hz2 : zs.heap.size = g.1 + (0 + 1) := hz0.resolve_left (by decide)
  have hP : xPre xSC := fun _ _ h => h
  have loop : ∀ (zn k : Nat) (μ1 : xM) (hk9 : k ≤ 69) (hA : RC μ1 T00 r00 (k : Int) xTxt [] [] []), 69 - k < zn → xX g 2 zp l ze { frames := 6, cells := 80, slots := 837, locals := 126 } zs zm za zb zh zc 80 837 (MQ zb (xQ g xSC (xN (fun μ' => RC μ' Tc rc 0 xTxt [] [] []))) za zs 80 837 (xA0 g)) xSC μ1 113 [some (vR g 0), some (vI (k : Int))] [] := by
    intro zn
    induction zn with
    | zero => intros; rename_i hz; exact absurd hz (Nat.not_lt_zero _)
    | succ zn ih =>
      intro k μ1 hk9 hA hlt
      refine x_iload_n (pc' := 114) hC dX6_init_113 rfl rfl ?_
      refine x_ldcS (pc' := 116) hC rfl dX6_init_114 rfl ?_
      refine x_callK (pc' := 119) (n := 0) (As := []) (rest := [vI (k : Int)]) hC j_len ky_J0_length_8abf5 kv_J0_length_8abf5 rfl kl_X6_63 dX6_init_116 rfl rfl ⟨Nat.le_of_ble_eq_true rfl, Nat.le_of_ble_eq_true rfl⟩ (Nat.le_of_ble_eq_true rfl) ⟨Nat.le_of_ble_eq_true rfl, Nat.le_of_ble_eq_true rfl⟩ (Or.inl rfl) rfl (x_kd ?_)
      refine x_icmp_ge (tgt := 142) (pc' := 122) hC dX6_init_119 (by decide) rfl (by omega) (by omega) (fun c => ?_) (fun c => ?_)
      · have ek : k = 69 := by omega
        subst ek
        refine x_aload_n (pc' := 143) hC dX6_init_142 rfl rfl ?_
        refine x_callV (pc' := 146) (n := 0) hC (c_layOut0 hP hA) ky_X6_layOut kv_X6_layOut kl_X6_77 dX6_init_143 (hP 0 _ rfl) rfl rfl rfl rfl ⟨Nat.le_of_ble_eq_true rfl, Nat.le_of_ble_eq_true rfl⟩ (Nat.le_of_ble_eq_true rfl) ⟨Nat.le_of_ble_eq_true rfl, Nat.le_of_ble_eq_true rfl⟩ (Or.inl rfl) rfl (x_kv (fun μ2 h2 => ?_))
        refine x_pop (pc' := 147) hC dX6_init_146 rfl rfl ?_
        refine x_aload_n (pc' := 148) hC dX6_init_147 rfl rfl ?_
        refine x_getR (pc' := 151) (b := 1) hC kf_X6_10 dX6_init_148 (hP 0 _ rfl) rfl rfl ?_
        refine x_iconst (pc' := 152) hC dX6_init_151 rfl ?_
        refine x_putI (j' := 1) (pc' := 155) hC kf_X6_81 dX6_init_152 (hP 1 _ rfl) rfl rfl rfl rfl rfl ?_
        refine x_vret hC dX6_init_155 (xN.mk ?_)
        obtain ⟨a1, a2, a3, a4, a5⟩ := h2.1 tx_ok
        have f : FrI 1 3 μ2 (xU μ2 1 1 0) := FrI.rf.u (by omega)
        exact ⟨⟨xU_at2, by omega, by omega, fun j a b => absurd b (by omega)⟩, a2.frI f (by omega) (by omega), a3.frI (Or.inr rfl) f (by omega), a4.frI (Or.inl rfl) f (by omega), a5.frI f (by omega)⟩
      · have hx := xTxt_rg (i := (k : Int)) ⟨by omega, by omega⟩
        refine x_aload_n (pc' := 123) hC dX6_init_122 rfl rfl ?_
        refine x_getR (pc' := 126) (b := 1) hC kf_X6_10 dX6_init_123 (hP 0 _ rfl) rfl rfl ?_
        refine x_ldcS (pc' := 128) hC rfl dX6_init_126 rfl ?_
        refine x_iload_n (pc' := 129) hC dX6_init_128 rfl rfl ?_
        refine x_callK (pc' := 132) (n := 1) (As := [vI (k : Int)]) (rest := [vR g 1]) hC (j_cha ⟨by omega, by omega⟩) ky_J0_charAt_5068e kv_J0_charAt_5068e rfl kl_X6_69 dX6_init_129 rfl rfl ⟨Nat.le_of_ble_eq_true rfl, Nat.le_of_ble_eq_true rfl⟩ (Nat.le_of_ble_eq_true rfl) ⟨Nat.le_of_ble_eq_true rfl, Nat.le_of_ble_eq_true rfl⟩ (Or.inl rfl) rfl (x_kd ?_)
        refine x_callV (pc' := 135) (n := 1) hC (c_textAdd hP hA.1 hx.2) ky_X5_add kv_X5_add kl_X6_73 dX6_init_132 (hP 1 _ rfl) rfl rfl rfl rfl ⟨Nat.le_of_ble_eq_true rfl, Nat.le_of_ble_eq_true rfl⟩ (Nat.le_of_ble_eq_true rfl) ⟨Nat.le_of_ble_eq_true rfl, Nat.le_of_ble_eq_true rfl⟩ (Or.inl rfl) rfl (x_kv (fun μ2 h2 => ?_))
        refine x_pop (pc' := 136) hC dX6_init_135 rfl rfl ?_
        refine x_iinc (pc' := 139) hC dX6_init_136 rfl (by decide) rfl rfl ?_
        refine x_goto (tgt := 113) hC dX6_init_139 (by decide) ?_
        have z := h2.2.1 (by omega)
        rw [Tx_up] at z
        exact ih (k + 1) μ2 (by omega) ⟨z, hA.2.1.frI h2.1 (by omega) (by omega), hA.2.2.1.frI (Or.inr rfl) h2.1 (by omega), hA.2.2.2.1.frI (Or.inl rfl) h2.1 (by omega), hA.2.2.2.2.frI h2.1 (by omega)⟩ (by omega)
  refine x_aload_n (pc' := 1) hC dX6_init_0 rfl rfl ?_
  refine x_objInit (pc' := 4) hC kl_X6_1 dX6_init_1 ⟨Nat.le_of_ble_eq_true rfl, Nat.le_of_ble_eq_true rfl⟩ rfl ?_
  refine x_aload_n (pc' := 5) hC dX6_init_4 rfl rfl ?_
  refine x_newO (k := 1) (fs := o0T) (pc' := 8) hC kC5 kk_X6_7 dX6_init_5 zf5 rfl (by rw [hz2]) ⟨Nat.le_of_ble_eq_true rfl, Nat.le_of_ble_eq_true rfl⟩ rfl ?_
  refine x_dup (pc' := 9) hC dX6_init_8 rfl rfl ?_
  refine x_S (S' := (([] : List xS) ++ [.inl (6, [some none, some none, some none, some none, some none, some none, some none, some none])]) ++ [.inl (5, o0T)]) rfl ?_
  refine x_callIN (pc' := 12) (n := 0) hC (c_iniT (P := ([] : List xS) ++ [.inl (6, [some none, some none, some none, some none, some none, some none, some none, some none])]) (k := 1) rfl) ky_X5_init km_X5_init rfl (show Cond.methodLinkNest RX6 9 yX5_init RX6 ∈ xNest by simp [xNest]) dX6_init_9 rfl rfl ⟨Nat.le_of_ble_eq_true rfl, Nat.le_of_ble_eq_true rfl⟩ (Nat.le_of_ble_eq_true rfl) ⟨Nat.le_of_ble_eq_true rfl, Nat.le_of_ble_eq_true rfl⟩ (Or.inr (by rw [hz2]; rfl)) rfl (x_kn (fun μ9 h9 => ?_))
  refine x_S (S' := ([] : List xS) ++ [.inl (6, [some none, some none, some none, some none, some none, some none, some none, some none]), .inl (5, [some (some 2), none]), .inr (.inl (true, 200))]) rfl ?_
  refine x_putR (b := 1) (j := 0) (pc' := 15) hC rfl kf_X6_10 ⟨_, rfl, rfl⟩ dX6_init_12 rfl (Nat.le_of_ble_eq_true rfl) (fun _ => rfl) (fun _ => rfl) rfl ?_
  refine x_S (S' := ([] : List xS) ++ [.inl (6, [some (some 1), some none, some none, some none, some none, some none, some none, some none]), .inl (5, [some (some 2), none]), .inr (.inl (true, 200))]) rfl ?_
  refine x_aload_n (pc' := 16) hC dX6_init_15 rfl rfl ?_
  refine x_newO (k := 3) (fs := o0R) (pc' := 19) hC kC1 kk_X6_16 dX6_init_16 zf1 rfl (by rw [hz2]) ⟨Nat.le_of_ble_eq_true rfl, Nat.le_of_ble_eq_true rfl⟩ rfl ?_
  refine x_dup (pc' := 20) hC dX6_init_19 rfl rfl ?_
  refine x_S (S' := (([] : List xS) ++ [.inl (6, [some (some 1), some none, some none, some none, some none, some none, some none, some none]), .inl (5, [some (some 2), none]), .inr (.inl (true, 200))]) ++ [.inl (1, o0R)]) rfl ?_
  refine x_callIN (pc' := 23) (n := 0) hC (c_iniR (P := ([] : List xS) ++ [.inl (6, [some (some 1), some none, some none, some none, some none, some none, some none, some none]), .inl (5, [some (some 2), none]), .inr (.inl (true, 200))]) (k := 3) rfl) ky_X1_init km_X1_init rfl (show Cond.methodLinkNest RX6 18 yX1_init RX6 ∈ xNest by simp [xNest]) dX6_init_20 rfl rfl ⟨Nat.le_of_ble_eq_true rfl, Nat.le_of_ble_eq_true rfl⟩ (Nat.le_of_ble_eq_true rfl) ⟨Nat.le_of_ble_eq_true rfl, Nat.le_of_ble_eq_true rfl⟩ (Or.inr (by rw [hz2]; rfl)) rfl (x_kn (fun μ20 h20 => ?_))
  refine x_S (S' := ([] : List xS) ++ [.inl (6, [some (some 1), some none, some none, some none, some none, some none, some none, some none]), .inl (5, [some (some 2), none]), .inr (.inl (true, 200)), .inl (1, [some (some 4), some (some 6), some (some 11), none, none]), sPln 4, sArr 7, sStd (6) (4), sArr 16, sArr 7, sArr 7, sArr 7, sArr 3]) rfl ?_
  refine x_putR (b := 3) (j := 1) (pc' := 26) hC rfl kf_X6_19 ⟨_, rfl, rfl⟩ dX6_init_23 rfl (Nat.le_of_ble_eq_true rfl) (fun _ => rfl) (fun _ => rfl) rfl ?_
  refine x_S (S' := ([] : List xS) ++ [.inl (6, [some (some 1), some (some 3), some none, some none, some none, some none, some none, some none]), .inl (5, [some (some 2), none]), .inr (.inl (true, 200)), .inl (1, [some (some 4), some (some 6), some (some 11), none, none]), sPln 4, sArr 7, sStd (6) (4), sArr 16, sArr 7, sArr 7, sArr 7, sArr 3]) rfl ?_
  refine x_aload_n (pc' := 27) hC dX6_init_26 rfl rfl ?_
  refine x_newO (k := 12) (fs := o0P) (pc' := 30) hC kC0 kk_X6_23 dX6_init_27 zf0 rfl (by rw [hz2]) ⟨Nat.le_of_ble_eq_true rfl, Nat.le_of_ble_eq_true rfl⟩ rfl ?_
  refine x_dup (pc' := 31) hC dX6_init_30 rfl rfl ?_
  refine x_S (S' := (([] : List xS) ++ [.inl (6, [some (some 1), some (some 3), some none, some none, some none, some none, some none, some none]), .inl (5, [some (some 2), none]), .inr (.inl (true, 200)), .inl (1, [some (some 4), some (some 6), some (some 11), none, none]), sPln 4, sArr 7, sStd (6) (4), sArr 16, sArr 7, sArr 7, sArr 7, sArr 3]) ++ [.inl (0, o0P)]) rfl ?_
  refine x_callIN (pc' := 34) (n := 0) hC (c_iniP (P := ([] : List xS) ++ [.inl (6, [some (some 1), some (some 3), some none, some none, some none, some none, some none, some none]), .inl (5, [some (some 2), none]), .inr (.inl (true, 200)), .inl (1, [some (some 4), some (some 6), some (some 11), none, none]), sPln 4, sArr 7, sStd (6) (4), sArr 16, sArr 7, sArr 7, sArr 7, sArr 3]) (k := 12) rfl) ky_X0_init km_X0_init rfl (show Cond.methodLinkNest RX6 25 yX0_init RX6 ∈ xNest by simp [xNest]) dX6_init_31 rfl rfl ⟨Nat.le_of_ble_eq_true rfl, Nat.le_of_ble_eq_true rfl⟩ (Nat.le_of_ble_eq_true rfl) ⟨Nat.le_of_ble_eq_true rfl, Nat.le_of_ble_eq_true rfl⟩ (Or.inr (by rw [hz2]; rfl)) rfl (x_kn (fun μ31 h31 => ?_))
  refine x_S (S' := ([] : List xS) ++ [.inl (6, [some (some 1), some (some 3), some none, some none, some none, some none, some none, some none]), .inl (5, [some (some 2), none]), .inr (.inl (true, 200)), .inl (1, [some (some 4), some (some 6), some (some 11), none, none]), sPln 4, sArr 7, sStd (6) (4), sArr 16, sArr 7, sArr 7, sArr 7, sArr 3, sPln 12, sArr 7]) rfl ?_
  refine x_putR (b := 12) (j := 2) (pc' := 37) hC rfl kf_X6_26 ⟨_, rfl, rfl⟩ dX6_init_34 rfl (Nat.le_of_ble_eq_true rfl) (fun _ => rfl) (fun _ => rfl) rfl ?_
  refine x_S (S' := ([] : List xS) ++ [.inl (6, [some (some 1), some (some 3), some (some 12), some none, some none, some none, some none, some none]), .inl (5, [some (some 2), none]), .inr (.inl (true, 200)), .inl (1, [some (some 4), some (some 6), some (some 11), none, none]), sPln 4, sArr 7, sStd (6) (4), sArr 16, sArr 7, sArr 7, sArr 7, sArr 3, sPln 12, sArr 7]) rfl ?_
  refine x_aload_n (pc' := 38) hC dX6_init_37 rfl rfl ?_
  refine x_newO (k := 14) (fs := o0D) (pc' := 41) hC kC4 kk_X6_30 dX6_init_38 zf4 rfl (by rw [hz2]) ⟨Nat.le_of_ble_eq_true rfl, Nat.le_of_ble_eq_true rfl⟩ rfl ?_
  refine x_dup (pc' := 42) hC dX6_init_41 rfl rfl ?_
  refine x_aload_n (pc' := 43) hC dX6_init_42 rfl rfl ?_
  refine x_getR (pc' := 46) (b := 12) hC kf_X6_26 dX6_init_43 rfl rfl rfl ?_
  refine x_S (S' := (([] : List xS) ++ [.inl (6, [some (some 1), some (some 3), some (some 12), some none, some none, some none, some none, some none]), .inl (5, [some (some 2), none]), .inr (.inl (true, 200)), .inl (1, [some (some 4), some (some 6), some (some 11), none, none]), sPln 4, sArr 7, sStd (6) (4), sArr 16, sArr 7, sArr 7, sArr 7, sArr 3, sPln 12, sArr 7]) ++ [.inl (4, o0D)]) rfl ?_
  refine x_callI (pc' := 49) (n := 1) hC (c_iniD (P := ([] : List xS) ++ [.inl (6, [some (some 1), some (some 3), some (some 12), some none, some none, some none, some none, some none]), .inl (5, [some (some 2), none]), .inr (.inl (true, 200)), .inl (1, [some (some 4), some (some 6), some (some 11), none, none]), sPln 4, sArr 7, sStd (6) (4), sArr 16, sArr 7, sArr 7, sArr 7, sArr 3, sPln 12, sArr 7]) (k := 14) (pl := 12) rfl) ky_X4_init km_X4_init rfl kl_X6_32 dX6_init_46 rfl rfl ⟨Nat.le_of_ble_eq_true rfl, Nat.le_of_ble_eq_true rfl⟩ (Nat.le_of_ble_eq_true rfl) ⟨Nat.le_of_ble_eq_true rfl, Nat.le_of_ble_eq_true rfl⟩ (Or.inr (by rw [hz2]; rfl)) rfl (x_kn (fun μ46 h46 => ?_))
  refine x_S (S' := ([] : List xS) ++ [.inl (6, [some (some 1), some (some 3), some (some 12), some none, some none, some none, some none, some none]), .inl (5, [some (some 2), none]), .inr (.inl (true, 200)), .inl (1, [some (some 4), some (some 6), some (some 11), none, none]), sPln 4, sArr 7, sStd (6) (4), sArr 16, sArr 7, sArr 7, sArr 7, sArr 3, sPln 12, sArr 7, sStd (14) (12), sArr 16, sArr 7, sArr 7, sArr 7]) rfl ?_
  refine x_putR (b := 14) (j := 3) (pc' := 52) hC rfl kf_X6_35 ⟨_, rfl, rfl⟩ dX6_init_49 rfl (Nat.le_of_ble_eq_true rfl) (fun _ => rfl) (fun _ => rfl) rfl ?_
  refine x_S (S' := ([] : List xS) ++ [.inl (6, [some (some 1), some (some 3), some (some 12), some (some 14), some none, some none, some none, some none]), .inl (5, [some (some 2), none]), .inr (.inl (true, 200)), .inl (1, [some (some 4), some (some 6), some (some 11), none, none]), sPln 4, sArr 7, sStd (6) (4), sArr 16, sArr 7, sArr 7, sArr 7, sArr 3, sPln 12, sArr 7, sStd (14) (12), sArr 16, sArr 7, sArr 7, sArr 7]) rfl ?_
  refine x_aload_n (pc' := 53) hC dX6_init_52 rfl rfl ?_
  refine x_newO (k := 19) (fs := o0D) (pc' := 56) hC kC4 kk_X6_30 dX6_init_53 zf4 rfl (by rw [hz2]) ⟨Nat.le_of_ble_eq_true rfl, Nat.le_of_ble_eq_true rfl⟩ rfl ?_
  refine x_dup (pc' := 57) hC dX6_init_56 rfl rfl ?_
  refine x_aload_n (pc' := 58) hC dX6_init_57 rfl rfl ?_
  refine x_getR (pc' := 61) (b := 12) hC kf_X6_26 dX6_init_58 rfl rfl rfl ?_
  refine x_S (S' := (([] : List xS) ++ [.inl (6, [some (some 1), some (some 3), some (some 12), some (some 14), some none, some none, some none, some none]), .inl (5, [some (some 2), none]), .inr (.inl (true, 200)), .inl (1, [some (some 4), some (some 6), some (some 11), none, none]), sPln 4, sArr 7, sStd (6) (4), sArr 16, sArr 7, sArr 7, sArr 7, sArr 3, sPln 12, sArr 7, sStd (14) (12), sArr 16, sArr 7, sArr 7, sArr 7]) ++ [.inl (4, o0D)]) rfl ?_
  refine x_callI (pc' := 64) (n := 1) hC (c_iniD (P := ([] : List xS) ++ [.inl (6, [some (some 1), some (some 3), some (some 12), some (some 14), some none, some none, some none, some none]), .inl (5, [some (some 2), none]), .inr (.inl (true, 200)), .inl (1, [some (some 4), some (some 6), some (some 11), none, none]), sPln 4, sArr 7, sStd (6) (4), sArr 16, sArr 7, sArr 7, sArr 7, sArr 3, sPln 12, sArr 7, sStd (14) (12), sArr 16, sArr 7, sArr 7, sArr 7]) (k := 19) (pl := 12) rfl) ky_X4_init km_X4_init rfl kl_X6_32 dX6_init_61 rfl rfl ⟨Nat.le_of_ble_eq_true rfl, Nat.le_of_ble_eq_true rfl⟩ (Nat.le_of_ble_eq_true rfl) ⟨Nat.le_of_ble_eq_true rfl, Nat.le_of_ble_eq_true rfl⟩ (Or.inr (by rw [hz2]; rfl)) rfl (x_kn (fun μ61 h61 => ?_))
  refine x_S (S' := ([] : List xS) ++ [.inl (6, [some (some 1), some (some 3), some (some 12), some (some 14), some none, some none, some none, some none]), .inl (5, [some (some 2), none]), .inr (.inl (true, 200)), .inl (1, [some (some 4), some (some 6), some (some 11), none, none]), sPln 4, sArr 7, sStd (6) (4), sArr 16, sArr 7, sArr 7, sArr 7, sArr 3, sPln 12, sArr 7, sStd (14) (12), sArr 16, sArr 7, sArr 7, sArr 7, sStd (19) (12), sArr 16, sArr 7, sArr 7, sArr 7]) rfl ?_
  refine x_putR (b := 19) (j := 4) (pc' := 67) hC rfl kf_X6_39 ⟨_, rfl, rfl⟩ dX6_init_64 rfl (Nat.le_of_ble_eq_true rfl) (fun _ => rfl) (fun _ => rfl) rfl ?_
  refine x_S (S' := ([] : List xS) ++ [.inl (6, [some (some 1), some (some 3), some (some 12), some (some 14), some (some 19), some none, some none, some none]), .inl (5, [some (some 2), none]), .inr (.inl (true, 200)), .inl (1, [some (some 4), some (some 6), some (some 11), none, none]), sPln 4, sArr 7, sStd (6) (4), sArr 16, sArr 7, sArr 7, sArr 7, sArr 3, sPln 12, sArr 7, sStd (14) (12), sArr 16, sArr 7, sArr 7, sArr 7, sStd (19) (12), sArr 16, sArr 7, sArr 7, sArr 7]) rfl ?_
  refine x_aload_n (pc' := 68) hC dX6_init_67 rfl rfl ?_
  refine x_newO (k := 24) (fs := o0F) (pc' := 71) hC kC2 kk_X6_42 dX6_init_68 zf2 rfl (by rw [hz2]) ⟨Nat.le_of_ble_eq_true rfl, Nat.le_of_ble_eq_true rfl⟩ rfl ?_
  refine x_dup (pc' := 72) hC dX6_init_71 rfl rfl ?_
  refine x_aload_n (pc' := 73) hC dX6_init_72 rfl rfl ?_
  refine x_getR (pc' := 76) (b := 12) hC kf_X6_26 dX6_init_73 rfl rfl rfl ?_
  refine x_bipush (pc' := 78) hC dX6_init_76 (by decide) rfl ?_
  refine x_S (S' := (([] : List xS) ++ [.inl (6, [some (some 1), some (some 3), some (some 12), some (some 14), some (some 19), some none, some none, some none]), .inl (5, [some (some 2), none]), .inr (.inl (true, 200)), .inl (1, [some (some 4), some (some 6), some (some 11), none, none]), sPln 4, sArr 7, sStd (6) (4), sArr 16, sArr 7, sArr 7, sArr 7, sArr 3, sPln 12, sArr 7, sStd (14) (12), sArr 16, sArr 7, sArr 7, sArr 7, sStd (19) (12), sArr 16, sArr 7, sArr 7, sArr 7]) ++ [.inl (2, o0F)]) rfl ?_
  refine x_callI (pc' := 81) (n := 2) hC (c_iniF (P := ([] : List xS) ++ [.inl (6, [some (some 1), some (some 3), some (some 12), some (some 14), some (some 19), some none, some none, some none]), .inl (5, [some (some 2), none]), .inr (.inl (true, 200)), .inl (1, [some (some 4), some (some 6), some (some 11), none, none]), sPln 4, sArr 7, sStd (6) (4), sArr 16, sArr 7, sArr 7, sArr 7, sArr 3, sPln 12, sArr 7, sStd (14) (12), sArr 16, sArr 7, sArr 7, sArr 7, sStd (19) (12), sArr 16, sArr 7, sArr 7, sArr 7]) (k := 24) (M := 8) (pl := 12) rfl (by decide)) ky_X2_init km_X2_init rfl kl_X6_44 dX6_init_78 rfl rfl ⟨Nat.le_of_ble_eq_true rfl, Nat.le_of_ble_eq_true rfl⟩ (Nat.le_of_ble_eq_true rfl) ⟨Nat.le_of_ble_eq_true rfl, Nat.le_of_ble_eq_true rfl⟩ (Or.inr (by rw [hz2]; rfl)) rfl (x_kn (fun μ78 h78 => ?_))
  refine x_S (S' := ([] : List xS) ++ [.inl (6, [some (some 1), some (some 3), some (some 12), some (some 14), some (some 19), some none, some none, some none]), .inl (5, [some (some 2), none]), .inr (.inl (true, 200)), .inl (1, [some (some 4), some (some 6), some (some 11), none, none]), sPln 4, sArr 7, sStd (6) (4), sArr 16, sArr 7, sArr 7, sArr 7, sArr 3, sPln 12, sArr 7, sStd (14) (12), sArr 16, sArr 7, sArr 7, sArr 7, sStd (19) (12), sArr 16, sArr 7, sArr 7, sArr 7, .inl (2, [some (some 25), none, none]), .inr (.inr [some 26, some 31, some 36, some 41, some 46, some 51, some 56, some 61]), sStd (26) (12), sArr 16, sArr 7, sArr 7, sArr 7, sStd (31) (12), sArr 16, sArr 7, sArr 7, sArr 7, sStd (36) (12), sArr 16, sArr 7, sArr 7, sArr 7, sStd (41) (12), sArr 16, sArr 7, sArr 7, sArr 7, sStd (46) (12), sArr 16, sArr 7, sArr 7, sArr 7, sStd (51) (12), sArr 16, sArr 7, sArr 7, sArr 7, sStd (56) (12), sArr 16, sArr 7, sArr 7, sArr 7, sStd (61) (12), sArr 16, sArr 7, sArr 7, sArr 7]) rfl ?_
  refine x_putR (b := 24) (j := 5) (pc' := 84) hC rfl kf_X6_47 ⟨_, rfl, rfl⟩ dX6_init_81 rfl (Nat.le_of_ble_eq_true rfl) (fun _ => rfl) (fun _ => rfl) rfl ?_
  refine x_S (S' := ([] : List xS) ++ [.inl (6, [some (some 1), some (some 3), some (some 12), some (some 14), some (some 19), some (some 24), some none, some none]), .inl (5, [some (some 2), none]), .inr (.inl (true, 200)), .inl (1, [some (some 4), some (some 6), some (some 11), none, none]), sPln 4, sArr 7, sStd (6) (4), sArr 16, sArr 7, sArr 7, sArr 7, sArr 3, sPln 12, sArr 7, sStd (14) (12), sArr 16, sArr 7, sArr 7, sArr 7, sStd (19) (12), sArr 16, sArr 7, sArr 7, sArr 7, .inl (2, [some (some 25), none, none]), .inr (.inr [some 26, some 31, some 36, some 41, some 46, some 51, some 56, some 61]), sStd (26) (12), sArr 16, sArr 7, sArr 7, sArr 7, sStd (31) (12), sArr 16, sArr 7, sArr 7, sArr 7, sStd (36) (12), sArr 16, sArr 7, sArr 7, sArr 7, sStd (41) (12), sArr 16, sArr 7, sArr 7, sArr 7, sStd (46) (12), sArr 16, sArr 7, sArr 7, sArr 7, sStd (51) (12), sArr 16, sArr 7, sArr 7, sArr 7, sStd (56) (12), sArr 16, sArr 7, sArr 7, sArr 7, sStd (61) (12), sArr 16, sArr 7, sArr 7, sArr 7]) rfl ?_
  refine x_aload_n (pc' := 85) hC dX6_init_84 rfl rfl ?_
  refine x_newO (k := 66) (fs := o0F) (pc' := 88) hC kC2 kk_X6_42 dX6_init_85 zf2 rfl (by rw [hz2]) ⟨Nat.le_of_ble_eq_true rfl, Nat.le_of_ble_eq_true rfl⟩ rfl ?_
  refine x_dup (pc' := 89) hC dX6_init_88 rfl rfl ?_
  refine x_aload_n (pc' := 90) hC dX6_init_89 rfl rfl ?_
  refine x_getR (pc' := 93) (b := 12) hC kf_X6_26 dX6_init_90 rfl rfl rfl ?_
  refine x_iconst (pc' := 94) hC dX6_init_93 rfl ?_
  refine x_S (S' := (([] : List xS) ++ [.inl (6, [some (some 1), some (some 3), some (some 12), some (some 14), some (some 19), some (some 24), some none, some none]), .inl (5, [some (some 2), none]), .inr (.inl (true, 200)), .inl (1, [some (some 4), some (some 6), some (some 11), none, none]), sPln 4, sArr 7, sStd (6) (4), sArr 16, sArr 7, sArr 7, sArr 7, sArr 3, sPln 12, sArr 7, sStd (14) (12), sArr 16, sArr 7, sArr 7, sArr 7, sStd (19) (12), sArr 16, sArr 7, sArr 7, sArr 7, .inl (2, [some (some 25), none, none]), .inr (.inr [some 26, some 31, some 36, some 41, some 46, some 51, some 56, some 61]), sStd (26) (12), sArr 16, sArr 7, sArr 7, sArr 7, sStd (31) (12), sArr 16, sArr 7, sArr 7, sArr 7, sStd (36) (12), sArr 16, sArr 7, sArr 7, sArr 7, sStd (41) (12), sArr 16, sArr 7, sArr 7, sArr 7, sStd (46) (12), sArr 16, sArr 7, sArr 7, sArr 7, sStd (51) (12), sArr 16, sArr 7, sArr 7, sArr 7, sStd (56) (12), sArr 16, sArr 7, sArr 7, sArr 7, sStd (61) (12), sArr 16, sArr 7, sArr 7, sArr 7]) ++ [.inl (2, o0F)]) rfl ?_
  refine x_callI (pc' := 97) (n := 2) hC (c_iniF (P := ([] : List xS) ++ [.inl (6, [some (some 1), some (some 3), some (some 12), some (some 14), some (some 19), some (some 24), some none, some none]), .inl (5, [some (some 2), none]), .inr (.inl (true, 200)), .inl (1, [some (some 4), some (some 6), some (some 11), none, none]), sPln 4, sArr 7, sStd (6) (4), sArr 16, sArr 7, sArr 7, sArr 7, sArr 3, sPln 12, sArr 7, sStd (14) (12), sArr 16, sArr 7, sArr 7, sArr 7, sStd (19) (12), sArr 16, sArr 7, sArr 7, sArr 7, .inl (2, [some (some 25), none, none]), .inr (.inr [some 26, some 31, some 36, some 41, some 46, some 51, some 56, some 61]), sStd (26) (12), sArr 16, sArr 7, sArr 7, sArr 7, sStd (31) (12), sArr 16, sArr 7, sArr 7, sArr 7, sStd (36) (12), sArr 16, sArr 7, sArr 7, sArr 7, sStd (41) (12), sArr 16, sArr 7, sArr 7, sArr 7, sStd (46) (12), sArr 16, sArr 7, sArr 7, sArr 7, sStd (51) (12), sArr 16, sArr 7, sArr 7, sArr 7, sStd (56) (12), sArr 16, sArr 7, sArr 7, sArr 7, sStd (61) (12), sArr 16, sArr 7, sArr 7, sArr 7]) (k := 66) (M := 2) (pl := 12) rfl (by decide)) ky_X2_init km_X2_init rfl kl_X6_44 dX6_init_94 rfl rfl ⟨Nat.le_of_ble_eq_true rfl, Nat.le_of_ble_eq_true rfl⟩ (Nat.le_of_ble_eq_true rfl) ⟨Nat.le_of_ble_eq_true rfl, Nat.le_of_ble_eq_true rfl⟩ (Or.inr (by rw [hz2]; rfl)) rfl (x_kn (fun μ94 h94 => ?_))
  refine x_S (S' := ([] : List xS) ++ [.inl (6, [some (some 1), some (some 3), some (some 12), some (some 14), some (some 19), some (some 24), some none, some none]), .inl (5, [some (some 2), none]), .inr (.inl (true, 200)), .inl (1, [some (some 4), some (some 6), some (some 11), none, none]), sPln 4, sArr 7, sStd (6) (4), sArr 16, sArr 7, sArr 7, sArr 7, sArr 3, sPln 12, sArr 7, sStd (14) (12), sArr 16, sArr 7, sArr 7, sArr 7, sStd (19) (12), sArr 16, sArr 7, sArr 7, sArr 7, .inl (2, [some (some 25), none, none]), .inr (.inr [some 26, some 31, some 36, some 41, some 46, some 51, some 56, some 61]), sStd (26) (12), sArr 16, sArr 7, sArr 7, sArr 7, sStd (31) (12), sArr 16, sArr 7, sArr 7, sArr 7, sStd (36) (12), sArr 16, sArr 7, sArr 7, sArr 7, sStd (41) (12), sArr 16, sArr 7, sArr 7, sArr 7, sStd (46) (12), sArr 16, sArr 7, sArr 7, sArr 7, sStd (51) (12), sArr 16, sArr 7, sArr 7, sArr 7, sStd (56) (12), sArr 16, sArr 7, sArr 7, sArr 7, sStd (61) (12), sArr 16, sArr 7, sArr 7, sArr 7, .inl (2, [some (some 67), none, none]), .inr (.inr [some 68, some 73]), sStd (68) (12), sArr 16, sArr 7, sArr 7, sArr 7, sStd (73) (12), sArr 16, sArr 7, sArr 7, sArr 7]) rfl ?_
  refine x_putR (b := 66) (j := 6) (pc' := 100) hC rfl kf_X6_51 ⟨_, rfl, rfl⟩ dX6_init_97 rfl (Nat.le_of_ble_eq_true rfl) (fun _ => rfl) (fun _ => rfl) rfl ?_
  refine x_S (S' := ([] : List xS) ++ [.inl (6, [some (some 1), some (some 3), some (some 12), some (some 14), some (some 19), some (some 24), some (some 66), some none]), .inl (5, [some (some 2), none]), .inr (.inl (true, 200)), .inl (1, [some (some 4), some (some 6), some (some 11), none, none]), sPln 4, sArr 7, sStd (6) (4), sArr 16, sArr 7, sArr 7, sArr 7, sArr 3, sPln 12, sArr 7, sStd (14) (12), sArr 16, sArr 7, sArr 7, sArr 7, sStd (19) (12), sArr 16, sArr 7, sArr 7, sArr 7, .inl (2, [some (some 25), none, none]), .inr (.inr [some 26, some 31, some 36, some 41, some 46, some 51, some 56, some 61]), sStd (26) (12), sArr 16, sArr 7, sArr 7, sArr 7, sStd (31) (12), sArr 16, sArr 7, sArr 7, sArr 7, sStd (36) (12), sArr 16, sArr 7, sArr 7, sArr 7, sStd (41) (12), sArr 16, sArr 7, sArr 7, sArr 7, sStd (46) (12), sArr 16, sArr 7, sArr 7, sArr 7, sStd (51) (12), sArr 16, sArr 7, sArr 7, sArr 7, sStd (56) (12), sArr 16, sArr 7, sArr 7, sArr 7, sStd (61) (12), sArr 16, sArr 7, sArr 7, sArr 7, .inl (2, [some (some 67), none, none]), .inr (.inr [some 68, some 73]), sStd (68) (12), sArr 16, sArr 7, sArr 7, sArr 7, sStd (73) (12), sArr 16, sArr 7, sArr 7, sArr 7]) rfl ?_
  refine x_aload_n (pc' := 101) hC dX6_init_100 rfl rfl ?_
  refine x_newO (k := 78) (fs := o0S) (pc' := 104) hC kC3 kk_X6_54 dX6_init_101 zf3 rfl (by rw [hz2]) ⟨Nat.le_of_ble_eq_true rfl, Nat.le_of_ble_eq_true rfl⟩ rfl ?_
  refine x_dup (pc' := 105) hC dX6_init_104 rfl rfl ?_
  refine x_S (S' := (([] : List xS) ++ [.inl (6, [some (some 1), some (some 3), some (some 12), some (some 14), some (some 19), some (some 24), some (some 66), some none]), .inl (5, [some (some 2), none]), .inr (.inl (true, 200)), .inl (1, [some (some 4), some (some 6), some (some 11), none, none]), sPln 4, sArr 7, sStd (6) (4), sArr 16, sArr 7, sArr 7, sArr 7, sArr 3, sPln 12, sArr 7, sStd (14) (12), sArr 16, sArr 7, sArr 7, sArr 7, sStd (19) (12), sArr 16, sArr 7, sArr 7, sArr 7, .inl (2, [some (some 25), none, none]), .inr (.inr [some 26, some 31, some 36, some 41, some 46, some 51, some 56, some 61]), sStd (26) (12), sArr 16, sArr 7, sArr 7, sArr 7, sStd (31) (12), sArr 16, sArr 7, sArr 7, sArr 7, sStd (36) (12), sArr 16, sArr 7, sArr 7, sArr 7, sStd (41) (12), sArr 16, sArr 7, sArr 7, sArr 7, sStd (46) (12), sArr 16, sArr 7, sArr 7, sArr 7, sStd (51) (12), sArr 16, sArr 7, sArr 7, sArr 7, sStd (56) (12), sArr 16, sArr 7, sArr 7, sArr 7, sStd (61) (12), sArr 16, sArr 7, sArr 7, sArr 7, .inl (2, [some (some 67), none, none]), .inr (.inr [some 68, some 73]), sStd (68) (12), sArr 16, sArr 7, sArr 7, sArr 7, sStd (73) (12), sArr 16, sArr 7, sArr 7, sArr 7]) ++ [.inl (3, o0S)]) rfl ?_
  refine x_callIN (pc' := 108) (n := 0) hC (c_iniS (P := ([] : List xS) ++ [.inl (6, [some (some 1), some (some 3), some (some 12), some (some 14), some (some 19), some (some 24), some (some 66), some none]), .inl (5, [some (some 2), none]), .inr (.inl (true, 200)), .inl (1, [some (some 4), some (some 6), some (some 11), none, none]), sPln 4, sArr 7, sStd (6) (4), sArr 16, sArr 7, sArr 7, sArr 7, sArr 3, sPln 12, sArr 7, sStd (14) (12), sArr 16, sArr 7, sArr 7, sArr 7, sStd (19) (12), sArr 16, sArr 7, sArr 7, sArr 7, .inl (2, [some (some 25), none, none]), .inr (.inr [some 26, some 31, some 36, some 41, some 46, some 51, some 56, some 61]), sStd (26) (12), sArr 16, sArr 7, sArr 7, sArr 7, sStd (31) (12), sArr 16, sArr 7, sArr 7, sArr 7, sStd (36) (12), sArr 16, sArr 7, sArr 7, sArr 7, sStd (41) (12), sArr 16, sArr 7, sArr 7, sArr 7, sStd (46) (12), sArr 16, sArr 7, sArr 7, sArr 7, sStd (51) (12), sArr 16, sArr 7, sArr 7, sArr 7, sStd (56) (12), sArr 16, sArr 7, sArr 7, sArr 7, sStd (61) (12), sArr 16, sArr 7, sArr 7, sArr 7, .inl (2, [some (some 67), none, none]), .inr (.inr [some 68, some 73]), sStd (68) (12), sArr 16, sArr 7, sArr 7, sArr 7, sStd (73) (12), sArr 16, sArr 7, sArr 7, sArr 7]) (k := 78) rfl) ky_X3_init km_X3_init rfl (show Cond.methodLinkNest RX6 56 yX3_init RX6 ∈ xNest by simp [xNest]) dX6_init_105 rfl rfl ⟨Nat.le_of_ble_eq_true rfl, Nat.le_of_ble_eq_true rfl⟩ (Nat.le_of_ble_eq_true rfl) ⟨Nat.le_of_ble_eq_true rfl, Nat.le_of_ble_eq_true rfl⟩ (Or.inr (by rw [hz2]; rfl)) rfl (x_kn (fun μ105 h105 => ?_))
  refine x_S (S' := ([] : List xS) ++ [.inl (6, [some (some 1), some (some 3), some (some 12), some (some 14), some (some 19), some (some 24), some (some 66), some none]), .inl (5, [some (some 2), none]), .inr (.inl (true, 200)), .inl (1, [some (some 4), some (some 6), some (some 11), none, none]), sPln 4, sArr 7, sStd (6) (4), sArr 16, sArr 7, sArr 7, sArr 7, sArr 3, sPln 12, sArr 7, sStd (14) (12), sArr 16, sArr 7, sArr 7, sArr 7, sStd (19) (12), sArr 16, sArr 7, sArr 7, sArr 7, .inl (2, [some (some 25), none, none]), .inr (.inr [some 26, some 31, some 36, some 41, some 46, some 51, some 56, some 61]), sStd (26) (12), sArr 16, sArr 7, sArr 7, sArr 7, sStd (31) (12), sArr 16, sArr 7, sArr 7, sArr 7, sStd (36) (12), sArr 16, sArr 7, sArr 7, sArr 7, sStd (41) (12), sArr 16, sArr 7, sArr 7, sArr 7, sStd (46) (12), sArr 16, sArr 7, sArr 7, sArr 7, sStd (51) (12), sArr 16, sArr 7, sArr 7, sArr 7, sStd (56) (12), sArr 16, sArr 7, sArr 7, sArr 7, sStd (61) (12), sArr 16, sArr 7, sArr 7, sArr 7, .inl (2, [some (some 67), none, none]), .inr (.inr [some 68, some 73]), sStd (68) (12), sArr 16, sArr 7, sArr 7, sArr 7, sStd (73) (12), sArr 16, sArr 7, sArr 7, sArr 7, .inl (3, [some (some 79), some (some 80), none]), sArr 6, sArr 6]) rfl ?_
  refine x_putR (b := 78) (j := 7) (pc' := 111) hC rfl kf_X6_57 ⟨_, rfl, rfl⟩ dX6_init_108 rfl (Nat.le_of_ble_eq_true rfl) (fun _ => rfl) (fun _ => rfl) rfl ?_
  refine x_S (S' := ([] : List xS) ++ [.inl (6, [some (some 1), some (some 3), some (some 12), some (some 14), some (some 19), some (some 24), some (some 66), some (some 78)]), .inl (5, [some (some 2), none]), .inr (.inl (true, 200)), .inl (1, [some (some 4), some (some 6), some (some 11), none, none]), sPln 4, sArr 7, sStd (6) (4), sArr 16, sArr 7, sArr 7, sArr 7, sArr 3, sPln 12, sArr 7, sStd (14) (12), sArr 16, sArr 7, sArr 7, sArr 7, sStd (19) (12), sArr 16, sArr 7, sArr 7, sArr 7, .inl (2, [some (some 25), none, none]), .inr (.inr [some 26, some 31, some 36, some 41, some 46, some 51, some 56, some 61]), sStd (26) (12), sArr 16, sArr 7, sArr 7, sArr 7, sStd (31) (12), sArr 16, sArr 7, sArr 7, sArr 7, sStd (36) (12), sArr 16, sArr 7, sArr 7, sArr 7, sStd (41) (12), sArr 16, sArr 7, sArr 7, sArr 7, sStd (46) (12), sArr 16, sArr 7, sArr 7, sArr 7, sStd (51) (12), sArr 16, sArr 7, sArr 7, sArr 7, sStd (56) (12), sArr 16, sArr 7, sArr 7, sArr 7, sStd (61) (12), sArr 16, sArr 7, sArr 7, sArr 7, .inl (2, [some (some 67), none, none]), .inr (.inr [some 68, some 73]), sStd (68) (12), sArr 16, sArr 7, sArr 7, sArr 7, sStd (73) (12), sArr 16, sArr 7, sArr 7, sArr 7, .inl (3, [some (some 79), some (some 80), none]), sArr 6, sArr 6]) rfl ?_
  refine x_S (S' := xSC) rfl ?_
  refine x_iconst (pc' := 112) hC dX6_init_111 rfl ?_
  refine x_istore_n (pc' := 113) hC dX6_init_112 (by decide) rfl rfl ?_
  refine x_cs (cells' := 80) (slots' := 837) rfl rfl ?_
  have f105 : FrI 78 81 μ94 μ105 := (FrI.rf.z (by omega)).tr (h105.1.mono (by omega) (by omega))
  have f94 : FrI 66 81 μ78 μ105 := ((FrI.rf.z (by omega)).tr (h94.1.mono (by omega) (by omega))).tr (f105.mono (by omega) (by omega))
  have f78 : FrI 24 81 μ61 μ105 := ((FrI.rf.z (by omega)).tr (h78.1.mono (by omega) (by omega))).tr (f94.mono (by omega) (by omega))
  have f61 : FrI 19 81 μ46 μ105 := ((FrI.rf.z (by omega)).tr (h61.1.mono (by omega) (by omega))).tr (f78.mono (by omega) (by omega))
  have f46 : FrI 14 81 μ31 μ105 := ((FrI.rf.z (by omega)).tr (h46.1.mono (by omega) (by omega))).tr (f61.mono (by omega) (by omega))
  have f25 : FrI 12 81 μ20 μ105 := ((FrI.rf.z (by omega)).tr (h31.1.mono (by omega) (by omega))).tr (f46.mono (by omega) (by omega))
  have f18 : FrI 3 81 μ9 μ105 := ((FrI.rf.z (by omega)).tr (h20.mono (by omega) (by omega))).tr (f25.mono (by omega) (by omega))
  have e3 : T00 3 = 0 := by decide
  exact loop 70 0 _ (by omega) ⟨⟨by rw [f18 _ _ (by omega)]; exact h9.2, by omega, by omega, fun j a b => absurd b (by omega)⟩, ⟨h31.2.frI f46 (by omega), fun m a b => absurd b (by omega), h46.2.1.frI f61 (by omega)⟩, Ring_0 (by decide) (by rw [f94 _ _ (by omega)]; exact h78.2.1) (by rw [f94 _ _ (by omega)]; exact h78.2.2), Ring_0 (by decide) (by rw [f105 _ _ (by omega)]; exact h94.2.1) (by rw [f105 _ _ (by omega)]; exact h94.2.2), ⟨h105.2, by simp, fun i q hq => by simp at hq⟩⟩ (by omega)
set_option maxRecDepth 100000 in
set_option maxHeartbeats 8000000 in
theorem c_iniM {g : xG} {l : Launch} {P : List xS} {μ : xM} (hk : P.length = 81) (h0 : μ 81 0 = 0) : xCt g l yX7_init cX7_init 1 none 1 24 10 667 [vR g 81] (P ++ [.inl (7, o0M)]) μ (P ++ xSM) (xN (fun μ' => FrI 81 92 μ μ' ∧ RM μ' Tc rc 0 xTxt [] [] [])) := by
  refine x_enter (by decide) (Nat.le_of_ble_eq_true rfl) ?_
  intro zp ze zs zm za zb zh zc hC hz0
  have hz1 := hz0.resolve_left (by decide)
  rw [List.length_append, hk] at hz1
  have hz2 : zs.heap.size = g.1 + (81 + 1) := hz1
  have hM : xPreM (P ++ xSM) := fun k sh h => by
    rw [List.getElem?_append_right (by omega), show 81 + k - P.length = k by omega]; exact h
  refine x_aload_n (pc' := 1) hC dX7_init_0 rfl rfl ?_
  refine x_objInit (pc' := 4) hC kl_X7_1 dX7_init_1 ⟨Nat.le_of_ble_eq_true rfl, Nat.le_of_ble_eq_true rfl⟩ rfl ?_
  refine x_aload_n (pc' := 5) hC dX7_init_4 rfl rfl ?_
  refine x_sipush (pc' := 8) hC dX7_init_5 (by decide) rfl ?_
  refine x_newI (n := 200) (k := 82) (pc' := 10) hC dX7_init_8 rfl (by decide) (by rw [List.length_append, hk]; rfl) (by omega) ⟨Nat.le_of_ble_eq_true rfl, Nat.le_of_ble_eq_true rfl⟩ rfl ?_
  refine x_S (S' := P ++ [.inl (7, [none, some none, some none, some none, none, some none, some none, some none, some none, none, some none, none, some none, none, none, some none]), .inr (.inl (false, 200))]) (by simp only [List.append_assoc, List.cons_append, List.nil_append]) ?_
  refine x_putR (b := 82) (j := 1) (pc' := 13) hC rfl kf_X7_7 ⟨_, rfl, rfl⟩ dX7_init_10 (xget0 hk) (Nat.le_of_ble_eq_true rfl) (fun _ => rfl) (fun _ => rfl) rfl ?_
  refine x_S (S' := P ++ [.inl (7, [none, some (some 82), some none, some none, none, some none, some none, some none, some none, none, some none, none, some none, none, none, some none]), .inr (.inl (false, 200))]) (xset0 hk) ?_
  refine x_aload_n (pc' := 14) hC dX7_init_13 rfl rfl ?_
  refine x_bipush (pc' := 16) hC dX7_init_14 (by decide) rfl ?_
  refine x_newI (n := 18) (k := 83) (pc' := 18) hC dX7_init_16 rfl (by decide) (by rw [List.length_append, hk]; rfl) (by omega) ⟨Nat.le_of_ble_eq_true rfl, Nat.le_of_ble_eq_true rfl⟩ rfl ?_
  refine x_S (S' := P ++ [.inl (7, [none, some (some 82), some none, some none, none, some none, some none, some none, some none, none, some none, none, some none, none, none, some none]), .inr (.inl (false, 200)), .inr (.inl (false, 18))]) (by simp only [List.append_assoc, List.cons_append, List.nil_append]) ?_
  refine x_putR (b := 83) (j := 2) (pc' := 21) hC rfl kf_X7_13 ⟨_, rfl, rfl⟩ dX7_init_18 (xget0 hk) (Nat.le_of_ble_eq_true rfl) (fun _ => rfl) (fun _ => rfl) rfl ?_
  refine x_S (S' := P ++ [.inl (7, [none, some (some 82), some (some 83), some none, none, some none, some none, some none, some none, none, some none, none, some none, none, none, some none]), .inr (.inl (false, 200)), .inr (.inl (false, 18))]) (xset0 hk) ?_
  refine x_aload_n (pc' := 22) hC dX7_init_21 rfl rfl ?_
  refine x_bipush (pc' := 24) hC dX7_init_22 (by decide) rfl ?_
  refine x_newI (n := 18) (k := 84) (pc' := 26) hC dX7_init_24 rfl (by decide) (by rw [List.length_append, hk]; rfl) (by omega) ⟨Nat.le_of_ble_eq_true rfl, Nat.le_of_ble_eq_true rfl⟩ rfl ?_
  refine x_S (S' := P ++ [.inl (7, [none, some (some 82), some (some 83), some none, none, some none, some none, some none, some none, none, some none, none, some none, none, none, some none]), .inr (.inl (false, 200)), .inr (.inl (false, 18)), .inr (.inl (false, 18))]) (by simp only [List.append_assoc, List.cons_append, List.nil_append]) ?_
  refine x_putR (b := 84) (j := 3) (pc' := 29) hC rfl kf_X7_16 ⟨_, rfl, rfl⟩ dX7_init_26 (xget0 hk) (Nat.le_of_ble_eq_true rfl) (fun _ => rfl) (fun _ => rfl) rfl ?_
  refine x_S (S' := P ++ [.inl (7, [none, some (some 82), some (some 83), some (some 84), none, some none, some none, some none, some none, none, some none, none, some none, none, none, some none]), .inr (.inl (false, 200)), .inr (.inl (false, 18)), .inr (.inl (false, 18))]) (xset0 hk) ?_
  refine x_aload_n (pc' := 30) hC dX7_init_29 rfl rfl ?_
  refine x_bipush (pc' := 32) hC dX7_init_30 (by decide) rfl ?_
  refine x_newI (n := 32) (k := 85) (pc' := 34) hC dX7_init_32 rfl (by decide) (by rw [List.length_append, hk]; rfl) (by omega) ⟨Nat.le_of_ble_eq_true rfl, Nat.le_of_ble_eq_true rfl⟩ rfl ?_
  refine x_S (S' := P ++ [.inl (7, [none, some (some 82), some (some 83), some (some 84), none, some none, some none, some none, some none, none, some none, none, some none, none, none, some none]), .inr (.inl (false, 200)), .inr (.inl (false, 18)), .inr (.inl (false, 18)), .inr (.inl (false, 32))]) (by simp only [List.append_assoc, List.cons_append, List.nil_append]) ?_
  refine x_putR (b := 85) (j := 5) (pc' := 37) hC rfl kf_X7_19 ⟨_, rfl, rfl⟩ dX7_init_34 (xget0 hk) (Nat.le_of_ble_eq_true rfl) (fun _ => rfl) (fun _ => rfl) rfl ?_
  refine x_S (S' := P ++ [.inl (7, [none, some (some 82), some (some 83), some (some 84), none, some (some 85), some none, some none, some none, none, some none, none, some none, none, none, some none]), .inr (.inl (false, 200)), .inr (.inl (false, 18)), .inr (.inl (false, 18)), .inr (.inl (false, 32))]) (xset0 hk) ?_
  refine x_aload_n (pc' := 38) hC dX7_init_37 rfl rfl ?_
  refine x_bipush (pc' := 40) hC dX7_init_38 (by decide) rfl ?_
  refine x_newI (n := 32) (k := 86) (pc' := 42) hC dX7_init_40 rfl (by decide) (by rw [List.length_append, hk]; rfl) (by omega) ⟨Nat.le_of_ble_eq_true rfl, Nat.le_of_ble_eq_true rfl⟩ rfl ?_
  refine x_S (S' := P ++ [.inl (7, [none, some (some 82), some (some 83), some (some 84), none, some (some 85), some none, some none, some none, none, some none, none, some none, none, none, some none]), .inr (.inl (false, 200)), .inr (.inl (false, 18)), .inr (.inl (false, 18)), .inr (.inl (false, 32)), .inr (.inl (false, 32))]) (by simp only [List.append_assoc, List.cons_append, List.nil_append]) ?_
  refine x_putR (b := 86) (j := 6) (pc' := 45) hC rfl kf_X7_22 ⟨_, rfl, rfl⟩ dX7_init_42 (xget0 hk) (Nat.le_of_ble_eq_true rfl) (fun _ => rfl) (fun _ => rfl) rfl ?_
  refine x_S (S' := P ++ [.inl (7, [none, some (some 82), some (some 83), some (some 84), none, some (some 85), some (some 86), some none, some none, none, some none, none, some none, none, none, some none]), .inr (.inl (false, 200)), .inr (.inl (false, 18)), .inr (.inl (false, 18)), .inr (.inl (false, 32)), .inr (.inl (false, 32))]) (xset0 hk) ?_
  refine x_aload_n (pc' := 46) hC dX7_init_45 rfl rfl ?_
  refine x_bipush (pc' := 48) hC dX7_init_46 (by decide) rfl ?_
  refine x_newI (n := 32) (k := 87) (pc' := 50) hC dX7_init_48 rfl (by decide) (by rw [List.length_append, hk]; rfl) (by omega) ⟨Nat.le_of_ble_eq_true rfl, Nat.le_of_ble_eq_true rfl⟩ rfl ?_
  refine x_S (S' := P ++ [.inl (7, [none, some (some 82), some (some 83), some (some 84), none, some (some 85), some (some 86), some none, some none, none, some none, none, some none, none, none, some none]), .inr (.inl (false, 200)), .inr (.inl (false, 18)), .inr (.inl (false, 18)), .inr (.inl (false, 32)), .inr (.inl (false, 32)), .inr (.inl (false, 32))]) (by simp only [List.append_assoc, List.cons_append, List.nil_append]) ?_
  refine x_putR (b := 87) (j := 7) (pc' := 53) hC rfl kf_X7_25 ⟨_, rfl, rfl⟩ dX7_init_50 (xget0 hk) (Nat.le_of_ble_eq_true rfl) (fun _ => rfl) (fun _ => rfl) rfl ?_
  refine x_S (S' := P ++ [.inl (7, [none, some (some 82), some (some 83), some (some 84), none, some (some 85), some (some 86), some (some 87), some none, none, some none, none, some none, none, none, some none]), .inr (.inl (false, 200)), .inr (.inl (false, 18)), .inr (.inl (false, 18)), .inr (.inl (false, 32)), .inr (.inl (false, 32)), .inr (.inl (false, 32))]) (xset0 hk) ?_
  refine x_aload_n (pc' := 54) hC dX7_init_53 rfl rfl ?_
  refine x_sipush (pc' := 57) hC dX7_init_54 (by decide) rfl ?_
  refine x_newI (n := 256) (k := 88) (pc' := 59) hC dX7_init_57 rfl (by decide) (by rw [List.length_append, hk]; rfl) (by omega) ⟨Nat.le_of_ble_eq_true rfl, Nat.le_of_ble_eq_true rfl⟩ rfl ?_
  refine x_S (S' := P ++ [.inl (7, [none, some (some 82), some (some 83), some (some 84), none, some (some 85), some (some 86), some (some 87), some none, none, some none, none, some none, none, none, some none]), .inr (.inl (false, 200)), .inr (.inl (false, 18)), .inr (.inl (false, 18)), .inr (.inl (false, 32)), .inr (.inl (false, 32)), .inr (.inl (false, 32)), .inr (.inl (false, 256))]) (by simp only [List.append_assoc, List.cons_append, List.nil_append]) ?_
  refine x_putR (b := 88) (j := 8) (pc' := 62) hC rfl kf_X7_28 ⟨_, rfl, rfl⟩ dX7_init_59 (xget0 hk) (Nat.le_of_ble_eq_true rfl) (fun _ => rfl) (fun _ => rfl) rfl ?_
  refine x_S (S' := P ++ [.inl (7, [none, some (some 82), some (some 83), some (some 84), none, some (some 85), some (some 86), some (some 87), some (some 88), none, some none, none, some none, none, none, some none]), .inr (.inl (false, 200)), .inr (.inl (false, 18)), .inr (.inl (false, 18)), .inr (.inl (false, 32)), .inr (.inl (false, 32)), .inr (.inl (false, 32)), .inr (.inl (false, 256))]) (xset0 hk) ?_
  refine x_aload_n (pc' := 63) hC dX7_init_62 rfl rfl ?_
  refine x_bipush (pc' := 65) hC dX7_init_63 (by decide) rfl ?_
  refine x_newI (n := 64) (k := 89) (pc' := 67) hC dX7_init_65 rfl (by decide) (by rw [List.length_append, hk]; rfl) (by omega) ⟨Nat.le_of_ble_eq_true rfl, Nat.le_of_ble_eq_true rfl⟩ rfl ?_
  refine x_S (S' := P ++ [.inl (7, [none, some (some 82), some (some 83), some (some 84), none, some (some 85), some (some 86), some (some 87), some (some 88), none, some none, none, some none, none, none, some none]), .inr (.inl (false, 200)), .inr (.inl (false, 18)), .inr (.inl (false, 18)), .inr (.inl (false, 32)), .inr (.inl (false, 32)), .inr (.inl (false, 32)), .inr (.inl (false, 256)), .inr (.inl (false, 64))]) (by simp only [List.append_assoc, List.cons_append, List.nil_append]) ?_
  refine x_putR (b := 89) (j := 10) (pc' := 70) hC rfl kf_X7_31 ⟨_, rfl, rfl⟩ dX7_init_67 (xget0 hk) (Nat.le_of_ble_eq_true rfl) (fun _ => rfl) (fun _ => rfl) rfl ?_
  refine x_S (S' := P ++ [.inl (7, [none, some (some 82), some (some 83), some (some 84), none, some (some 85), some (some 86), some (some 87), some (some 88), none, some (some 89), none, some none, none, none, some none]), .inr (.inl (false, 200)), .inr (.inl (false, 18)), .inr (.inl (false, 18)), .inr (.inl (false, 32)), .inr (.inl (false, 32)), .inr (.inl (false, 32)), .inr (.inl (false, 256)), .inr (.inl (false, 64))]) (xset0 hk) ?_
  refine x_aload_n (pc' := 71) hC dX7_init_70 rfl rfl ?_
  refine x_bipush (pc' := 73) hC dX7_init_71 (by decide) rfl ?_
  refine x_newI (n := 12) (k := 90) (pc' := 75) hC dX7_init_73 rfl (by decide) (by rw [List.length_append, hk]; rfl) (by omega) ⟨Nat.le_of_ble_eq_true rfl, Nat.le_of_ble_eq_true rfl⟩ rfl ?_
  refine x_S (S' := P ++ [.inl (7, [none, some (some 82), some (some 83), some (some 84), none, some (some 85), some (some 86), some (some 87), some (some 88), none, some (some 89), none, some none, none, none, some none]), .inr (.inl (false, 200)), .inr (.inl (false, 18)), .inr (.inl (false, 18)), .inr (.inl (false, 32)), .inr (.inl (false, 32)), .inr (.inl (false, 32)), .inr (.inl (false, 256)), .inr (.inl (false, 64)), .inr (.inl (false, 12))]) (by simp only [List.append_assoc, List.cons_append, List.nil_append]) ?_
  refine x_putR (b := 90) (j := 12) (pc' := 78) hC rfl kf_X7_34 ⟨_, rfl, rfl⟩ dX7_init_75 (xget0 hk) (Nat.le_of_ble_eq_true rfl) (fun _ => rfl) (fun _ => rfl) rfl ?_
  refine x_S (S' := P ++ [.inl (7, [none, some (some 82), some (some 83), some (some 84), none, some (some 85), some (some 86), some (some 87), some (some 88), none, some (some 89), none, some (some 90), none, none, some none]), .inr (.inl (false, 200)), .inr (.inl (false, 18)), .inr (.inl (false, 18)), .inr (.inl (false, 32)), .inr (.inl (false, 32)), .inr (.inl (false, 32)), .inr (.inl (false, 256)), .inr (.inl (false, 64)), .inr (.inl (false, 12))]) (xset0 hk) ?_
  refine x_aload_n (pc' := 79) hC dX7_init_78 rfl rfl ?_
  refine x_iconst (pc' := 80) hC dX7_init_79 rfl ?_
  refine x_newI (n := 3) (k := 91) (pc' := 82) hC dX7_init_80 rfl (by decide) (by rw [List.length_append, hk]; rfl) (by omega) ⟨Nat.le_of_ble_eq_true rfl, Nat.le_of_ble_eq_true rfl⟩ rfl ?_
  refine x_S (S' := P ++ [.inl (7, [none, some (some 82), some (some 83), some (some 84), none, some (some 85), some (some 86), some (some 87), some (some 88), none, some (some 89), none, some (some 90), none, none, some none]), .inr (.inl (false, 200)), .inr (.inl (false, 18)), .inr (.inl (false, 18)), .inr (.inl (false, 32)), .inr (.inl (false, 32)), .inr (.inl (false, 32)), .inr (.inl (false, 256)), .inr (.inl (false, 64)), .inr (.inl (false, 12)), .inr (.inl (false, 3))]) (by simp only [List.append_assoc, List.cons_append, List.nil_append]) ?_
  refine x_putR (b := 91) (j := 15) (pc' := 85) hC rfl kf_X7_37 ⟨_, rfl, rfl⟩ dX7_init_82 (xget0 hk) (Nat.le_of_ble_eq_true rfl) (fun _ => rfl) (fun _ => rfl) rfl ?_
  refine x_S (S' := P ++ [.inl (7, [none, some (some 82), some (some 83), some (some 84), none, some (some 85), some (some 86), some (some 87), some (some 88), none, some (some 89), none, some (some 90), none, none, some (some 91)]), .inr (.inl (false, 200)), .inr (.inl (false, 18)), .inr (.inl (false, 18)), .inr (.inl (false, 32)), .inr (.inl (false, 32)), .inr (.inl (false, 32)), .inr (.inl (false, 256)), .inr (.inl (false, 64)), .inr (.inl (false, 12)), .inr (.inl (false, 3))]) (xset0 hk) ?_
  refine x_S (S' := P ++ xSM) rfl ?_
  refine x_cs (cells' := 10) (slots' := 667) rfl rfl ?_
  refine x_aload_n (pc' := 86) hC dX7_init_85 rfl rfl ?_
  refine x_callV (pc' := 89) (n := 0) hC (m_empty hM) ky_X7_empty kv_X7_empty kl_X7_40 dX7_init_86 (hM 0 _ rfl) rfl rfl rfl rfl ⟨Nat.le_of_ble_eq_true rfl, Nat.le_of_ble_eq_true rfl⟩ (Nat.le_of_ble_eq_true rfl) ⟨Nat.le_of_ble_eq_true rfl, Nat.le_of_ble_eq_true rfl⟩ (Or.inl rfl) rfl (x_kn (fun μ86 h86 => ?_))
  have q3 : μ86 84 3 = 0 := h86.2.1.1.2.2.2
  have q0 : μ86 84 0 = 10 := h86.2.1.1.1
  have qr := h86.2.2.1
  refine x_aload_n (pc' := 90) hC dX7_init_89 rfl rfl ?_
  refine x_getR (pc' := 93) (b := 86) hC kf_X7_22 dX7_init_90 (hM 0 _ rfl) rfl rfl ?_
  refine x_iconst (pc' := 94) hC dX7_init_93 rfl ?_
  refine x_iconst (pc' := 95) hC dX7_init_94 rfl ?_
  refine x_iast (pc' := 96) hC dX7_init_95 (hM 5 _ rfl) (by omega) (by omega) rfl ?_
  refine x_aload_n (pc' := 97) hC dX7_init_96 rfl rfl ?_
  refine x_getR (pc' := 100) (b := 86) hC kf_X7_22 dX7_init_97 (hM 0 _ rfl) rfl rfl ?_
  refine x_bipush (pc' := 102) hC dX7_init_100 (by decide) rfl ?_
  refine x_iconst (pc' := 103) hC dX7_init_102 rfl ?_
  refine x_iast (pc' := 104) hC dX7_init_103 (hM 5 _ rfl) (by omega) (by omega) rfl ?_
  refine x_aload_n (pc' := 105) hC dX7_init_104 rfl rfl ?_
  refine x_getR (pc' := 108) (b := 86) hC kf_X7_22 dX7_init_105 (hM 0 _ rfl) rfl rfl ?_
  refine x_bipush (pc' := 110) hC dX7_init_108 (by decide) rfl ?_
  refine x_iconst (pc' := 111) hC dX7_init_110 rfl ?_
  refine x_iast (pc' := 112) hC dX7_init_111 (hM 5 _ rfl) (by omega) (by omega) rfl ?_
  refine x_aload_n (pc' := 113) hC dX7_init_112 rfl rfl ?_
  refine x_getR (pc' := 116) (b := 86) hC kf_X7_22 dX7_init_113 (hM 0 _ rfl) rfl rfl ?_
  refine x_bipush (pc' := 118) hC dX7_init_116 (by decide) rfl ?_
  refine x_bipush (pc' := 120) hC dX7_init_118 (by decide) rfl ?_
  refine x_iast (pc' := 121) hC dX7_init_120 (hM 5 _ rfl) (by omega) (by omega) rfl ?_
  refine x_aload_n (pc' := 122) hC dX7_init_121 rfl rfl ?_
  refine x_getR (pc' := 125) (b := 84) hC kf_X7_16 dX7_init_122 (hM 0 _ rfl) rfl rfl ?_
  refine x_iconst (pc' := 126) hC dX7_init_125 rfl ?_
  refine x_iconst (pc' := 127) hC dX7_init_126 rfl ?_
  refine x_iast (pc' := 128) hC dX7_init_127 (hM 3 _ rfl) (by omega) (by omega) rfl ?_
  refine x_aload_n (pc' := 129) hC dX7_init_128 rfl rfl ?_
  refine x_getR (pc' := 132) (b := 84) hC kf_X7_16 dX7_init_129 (hM 0 _ rfl) rfl rfl ?_
  refine x_iconst (pc' := 133) hC dX7_init_132 rfl ?_
  refine x_bipush (pc' := 135) hC dX7_init_133 (by decide) rfl ?_
  refine x_iast (pc' := 136) hC dX7_init_135 (hM 3 _ rfl) (by omega) (by omega) rfl ?_
  refine x_aload_n (pc' := 137) hC dX7_init_136 rfl rfl ?_
  refine x_iconst (pc' := 138) hC dX7_init_137 rfl ?_
  refine x_bipush (pc' := 140) hC dX7_init_138 (by decide) rfl ?_
  refine x_iconst (pc' := 141) hC dX7_init_140 rfl ?_
  refine x_callV (pc' := 144) (n := 3) hC (m_firstOne (m := 0) hM (by simp [xU, q3]) (by omega)) ky_X7_firstOne kv_X7_firstOne kl_X7_43 dX7_init_141 (hM 0 _ rfl) rfl rfl rfl rfl ⟨Nat.le_of_ble_eq_true rfl, Nat.le_of_ble_eq_true rfl⟩ (Nat.le_of_ble_eq_true rfl) ⟨Nat.le_of_ble_eq_true rfl, Nat.le_of_ble_eq_true rfl⟩ (Or.inl rfl) rfl (x_kdn ?_)
  refine x_aload_n (pc' := 145) hC dX7_init_144 rfl rfl ?_
  refine x_iconst (pc' := 146) hC dX7_init_145 rfl ?_
  refine x_bipush (pc' := 148) hC dX7_init_146 (by decide) rfl ?_
  refine x_iconst (pc' := 149) hC dX7_init_148 rfl ?_
  refine x_callV (pc' := 152) (n := 3) hC (m_firstOne (m := 1) hM (by simp [xU]) (by omega)) ky_X7_firstOne kv_X7_firstOne kl_X7_43 dX7_init_149 (hM 0 _ rfl) rfl rfl rfl rfl ⟨Nat.le_of_ble_eq_true rfl, Nat.le_of_ble_eq_true rfl⟩ (Nat.le_of_ble_eq_true rfl) ⟨Nat.le_of_ble_eq_true rfl, Nat.le_of_ble_eq_true rfl⟩ (Or.inl rfl) rfl (x_kdn ?_)
  refine x_aload_n (pc' := 153) hC dX7_init_152 rfl rfl ?_
  refine x_iconst (pc' := 154) hC dX7_init_153 rfl ?_
  refine x_bipush (pc' := 156) hC dX7_init_154 (by decide) rfl ?_
  refine x_iconst (pc' := 157) hC dX7_init_156 rfl ?_
  refine x_callV (pc' := 160) (n := 3) hC (m_firstOne (m := 2) hM (by simp [xU]) (by omega)) ky_X7_firstOne kv_X7_firstOne kl_X7_43 dX7_init_157 (hM 0 _ rfl) rfl rfl rfl rfl ⟨Nat.le_of_ble_eq_true rfl, Nat.le_of_ble_eq_true rfl⟩ (Nat.le_of_ble_eq_true rfl) ⟨Nat.le_of_ble_eq_true rfl, Nat.le_of_ble_eq_true rfl⟩ (Or.inl rfl) rfl (x_kdn ?_)
  refine x_aload_n (pc' := 161) hC dX7_init_160 rfl rfl ?_
  refine x_iconst (pc' := 162) hC dX7_init_161 rfl ?_
  refine x_iconst (pc' := 163) hC dX7_init_162 rfl ?_
  refine x_iconst (pc' := 164) hC dX7_init_163 rfl ?_
  refine x_callV (pc' := 167) (n := 3) hC (m_firstOne (m := 3) hM (by simp [xU]) (by omega)) ky_X7_firstOne kv_X7_firstOne kl_X7_43 dX7_init_164 (hM 0 _ rfl) rfl rfl rfl rfl ⟨Nat.le_of_ble_eq_true rfl, Nat.le_of_ble_eq_true rfl⟩ (Nat.le_of_ble_eq_true rfl) ⟨Nat.le_of_ble_eq_true rfl, Nat.le_of_ble_eq_true rfl⟩ (Or.inl rfl) rfl (x_kdn ?_)
  refine x_aload_n (pc' := 168) hC dX7_init_167 rfl rfl ?_
  refine x_iconst (pc' := 169) hC dX7_init_168 rfl ?_
  refine x_iconst (pc' := 170) hC dX7_init_169 rfl ?_
  refine x_iconst (pc' := 171) hC dX7_init_170 rfl ?_
  refine x_callV (pc' := 174) (n := 3) hC (m_firstOne (m := 4) hM (by simp [xU]) (by omega)) ky_X7_firstOne kv_X7_firstOne kl_X7_43 dX7_init_171 (hM 0 _ rfl) rfl rfl rfl rfl ⟨Nat.le_of_ble_eq_true rfl, Nat.le_of_ble_eq_true rfl⟩ (Nat.le_of_ble_eq_true rfl) ⟨Nat.le_of_ble_eq_true rfl, Nat.le_of_ble_eq_true rfl⟩ (Or.inl rfl) rfl (x_kdn ?_)
  refine x_aload_n (pc' := 175) hC dX7_init_174 rfl rfl ?_
  generalize hb : xU (xU (xU (xU _ 84 (4 + 4) _) 84 (11 + 4) _) 86 (18 + 4) _) 84 3 (4 + 1) = μb
  have hv : ∀ (c : Nat) (j : Int), c = 84 ∨ c = 86 ∨ μb c j = μ86 c j := fun c j => by
    by_cases h84 : c = 84
    · exact Or.inl h84
    · by_cases h86c : c = 86
      · exact Or.inr (Or.inl h86c)
      · refine Or.inr (Or.inr ?_)
        rw [← hb]
        simp [xU, h84, h86c]
  have hX : Txm μb 0 xTxt := by
    refine ⟨?_, by omega, by omega, fun j a b => absurd b (by omega)⟩
    rcases hv 81 0 with h | h | h
    · omega
    · omega
    · rw [h, h86.1 _ _ (by omega) (by omega) (by omega) (by omega)]
      simp [xZ, h0]
  have hTT : TT μb 84 Tc := by
    have e0 : Tc 0 = 10 := by decide +kernel
    have e1 : Tc 1 = 4 := by decide +kernel
    have e2 : Tc 2 = 32 := by decide +kernel
    have e3 : Tc 3 = 5 := by decide +kernel
    refine ⟨⟨by rw [e0, ← hb]; simp [xU, q0], by rw [e1, ← hb]; simp [xU], by rw [e2, ← hb]; simp [xU], by rw [e3, ← hb]; simp [xU]⟩, fun m a b => ?_⟩
    rw [e3] at b
    have hm : m = 0 ∨ m = 1 ∨ m = 2 ∨ m = 3 ∨ m = 4 := by omega
    rw [← hb]
    rcases hm with rfl | rfl | rfl | rfl | rfl
    · have k1 : Tc 4 = 0 := by decide +kernel
      have k2 : Tc 11 = 5 := by decide +kernel
      refine ⟨?_, ?_⟩
      · show _ = Tc 4; rw [k1]; simp [xU]
      · show _ = Tc 11; rw [k2]; simp [xU]
    · have k1 : Tc 5 = 1 := by decide +kernel
      have k2 : Tc 12 = 3 := by decide +kernel
      refine ⟨?_, ?_⟩
      · show _ = Tc 5; rw [k1]; simp [xU]
      · show _ = Tc 12; rw [k2]; simp [xU]
    · have k1 : Tc 6 = 2 := by decide +kernel
      have k2 : Tc 13 = 0 := by decide +kernel
      refine ⟨?_, ?_⟩
      · show _ = Tc 6; rw [k1]; simp [xU]
      · show _ = Tc 13; rw [k2]; simp [xU]
    · have k1 : Tc 7 = 3 := by decide +kernel
      have k2 : Tc 14 = 2 := by decide +kernel
      refine ⟨?_, ?_⟩
      · show _ = Tc 7; rw [k1]; simp [xU]
      · show _ = Tc 14; rw [k2]; simp [xU]
    · have k1 : Tc 8 = 0 := by decide +kernel
      have k2 : Tc 15 = 4 := by decide +kernel
      refine ⟨?_, ?_⟩
      · show _ = Tc 8; rw [k1]; simp [xU]
      · show _ = Tc 15; rw [k2]; simp [xU]
  have hRr : Rw μb 86 rc := fun j a b => by
    have hj : j = 0 ∨ j = 1 ∨ j = 2 ∨ j = 3 ∨ j = 4 ∨ j = 5 ∨ j = 6 ∨ j = 7 ∨ j = 8 ∨ j = 9 ∨ j = 10 ∨ j = 11 ∨ j = 12 ∨ j = 13 ∨ j = 14 ∨ j = 15 ∨ j = 16 ∨ j = 17 ∨ j = 18 ∨ j = 19 ∨ j = 20 ∨ j = 21 ∨ j = 22 ∨ j = 23 ∨ j = 24 ∨ j = 25 ∨ j = 26 ∨ j = 27 ∨ j = 28 ∨ j = 29 ∨ j = 30 ∨ j = 31 := by omega
    have qz : ∀ i : Int, 0 ≤ i → i < 32 → i ≠ 1 → μ86 86 i = 0 := fun i x y z => by rw [h86.2.2.1 i x y]; unfold r00; rw [if_neg z]
    have q1 : μ86 86 1 = 20 := h86.2.2.1 1 (by omega) (by omega)
    rw [← hb]
    rcases hj with rfl | rfl | rfl | rfl | rfl | rfl | rfl | rfl | rfl | rfl | rfl | rfl | rfl | rfl | rfl | rfl | rfl | rfl | rfl | rfl | rfl | rfl | rfl | rfl | rfl | rfl | rfl | rfl | rfl | rfl | rfl | rfl
    · have k1 : rc 0 = 0 := by decide +kernel
      rw [k1]; simp [xU, qz 0 (by omega) (by omega) (by omega)]
    · have k1 : rc 1 = 20 := by decide +kernel
      rw [k1]; simp [xU, q1]
    · have k1 : rc 2 = 0 := by decide +kernel
      rw [k1]; simp [xU, qz 2 (by omega) (by omega) (by omega)]
    · have k1 : rc 3 = 0 := by decide +kernel
      rw [k1]; simp [xU, qz 3 (by omega) (by omega) (by omega)]
    · have k1 : rc 4 = 0 := by decide +kernel
      rw [k1]; simp [xU, qz 4 (by omega) (by omega) (by omega)]
    · have k1 : rc 5 = 2 := by decide +kernel
      rw [k1]; simp [xU]
    · have k1 : rc 6 = 0 := by decide +kernel
      rw [k1]; simp [xU, qz 6 (by omega) (by omega) (by omega)]
    · have k1 : rc 7 = 4 := by decide +kernel
      rw [k1]; simp [xU]
    · have k1 : rc 8 = 1 := by decide +kernel
      rw [k1]; simp [xU]
    · have k1 : rc 9 = 0 := by decide +kernel
      rw [k1]; simp [xU, qz 9 (by omega) (by omega) (by omega)]
    · have k1 : rc 10 = 0 := by decide +kernel
      rw [k1]; simp [xU, qz 10 (by omega) (by omega) (by omega)]
    · have k1 : rc 11 = 6 := by decide +kernel
      rw [k1]; simp [xU]
    · have k1 : rc 12 = 0 := by decide +kernel
      rw [k1]; simp [xU, qz 12 (by omega) (by omega) (by omega)]
    · have k1 : rc 13 = 0 := by decide +kernel
      rw [k1]; simp [xU, qz 13 (by omega) (by omega) (by omega)]
    · have k1 : rc 14 = 0 := by decide +kernel
      rw [k1]; simp [xU, qz 14 (by omega) (by omega) (by omega)]
    · have k1 : rc 15 = 0 := by decide +kernel
      rw [k1]; simp [xU, qz 15 (by omega) (by omega) (by omega)]
    · have k1 : rc 16 = 0 := by decide +kernel
      rw [k1]; simp [xU, qz 16 (by omega) (by omega) (by omega)]
    · have k1 : rc 17 = 0 := by decide +kernel
      rw [k1]; simp [xU, qz 17 (by omega) (by omega) (by omega)]
    · have k1 : rc 18 = 9 := by decide +kernel
      rw [k1]; simp [xU]
    · have k1 : rc 19 = 6 := by decide +kernel
      rw [k1]; simp [xU]
    · have k1 : rc 20 = 8 := by decide +kernel
      rw [k1]; simp [xU]
    · have k1 : rc 21 = 4 := by decide +kernel
      rw [k1]; simp [xU]
    · have k1 : rc 22 = 1 := by decide +kernel
      rw [k1]; simp [xU]
    · have k1 : rc 23 = 0 := by decide +kernel
      rw [k1]; simp [xU, qz 23 (by omega) (by omega) (by omega)]
    · have k1 : rc 24 = 0 := by decide +kernel
      rw [k1]; simp [xU, qz 24 (by omega) (by omega) (by omega)]
    · have k1 : rc 25 = 0 := by decide +kernel
      rw [k1]; simp [xU, qz 25 (by omega) (by omega) (by omega)]
    · have k1 : rc 26 = 0 := by decide +kernel
      rw [k1]; simp [xU, qz 26 (by omega) (by omega) (by omega)]
    · have k1 : rc 27 = 0 := by decide +kernel
      rw [k1]; simp [xU, qz 27 (by omega) (by omega) (by omega)]
    · have k1 : rc 28 = 0 := by decide +kernel
      rw [k1]; simp [xU, qz 28 (by omega) (by omega) (by omega)]
    · have k1 : rc 29 = 0 := by decide +kernel
      rw [k1]; simp [xU, qz 29 (by omega) (by omega) (by omega)]
    · have k1 : rc 30 = 0 := by decide +kernel
      rw [k1]; simp [xU, qz 30 (by omega) (by omega) (by omega)]
    · have k1 : rc 31 = 0 := by decide +kernel
      rw [k1]; simp [xU, qz 31 (by omega) (by omega) (by omega)]
  refine x_callV (pc' := 178) (n := 0) hC (m_begin hM hX hTT hRr (by decide +kernel)) ky_X7_begin kv_X7_begin kl_X7_47 dX7_init_175 (hM 0 _ rfl) rfl rfl rfl rfl ⟨Nat.le_of_ble_eq_true rfl, Nat.le_of_ble_eq_true rfl⟩ (Nat.le_of_ble_eq_true rfl) ⟨Nat.le_of_ble_eq_true rfl, Nat.le_of_ble_eq_true rfl⟩ (Or.inl rfl) rfl (x_kn (fun μe he => ?_))
  refine x_vret hC dX7_init_178 (xN.mk ⟨fun c j hc => ?_, he.2⟩)
  rw [he.1 c j hc]
  rcases hv c j with h | h | h
  · omega
  · omega
  · rw [h, h86.1 _ _ (by omega) (by omega) (by omega) (by omega)]
    simp only [xZ]
    rw [if_neg (by omega), if_neg (by omega), if_neg (by omega), if_neg (by omega), if_neg (by omega), if_neg (by omega), if_neg (by omega), if_neg (by omega), if_neg (by omega), if_neg (by omega)]
