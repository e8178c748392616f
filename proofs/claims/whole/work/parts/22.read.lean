set_option maxRecDepth 100000 in
set_option maxHeartbeats 4000000 in
theorem c_addNumber {g : xG} {l : Launch} {S : List xS} {μ : xM} {v c : Int} (hP : xPre S) (hc : μ 3 3 = c) (h0 : 0 ≤ c ∧ c ≤ 3) : xCt g l yX1_addNumber cX1_addNumber 2 (some .boolean) 0 0 0 0 [vR g 3, vI v] S μ S (xI (fun a μ' => a = (if c < 3 then 1 else 0) ∧ (c < 3 → μ' = xU (xU μ 11 c v) 3 3 (c + 1)) ∧ (¬ c < 3 → μ' = μ))) := by
  refine x_enter (by decide) (Nat.le_of_ble_eq_true rfl) ?_
  intro zp ze zs zm za zb zh zc hC hz0
  refine x_aload_n (pc' := 1) hC dX1_addNumber_0 rfl rfl ?_
  refine x_getI (j' := 3) (pc' := 4) hC kf_X1_31 dX1_addNumber_1 (hP 3 _ rfl) rfl rfl rfl ?_
  rw [hc]
  refine x_aload_n (pc' := 5) hC dX1_addNumber_4 rfl rfl ?_
  refine x_getR (pc' := 8) (b := 11) hC kf_X1_27 dX1_addNumber_5 (hP 3 _ rfl) rfl rfl ?_
  refine x_alenI (n' := 3) (pc' := 9) hC dX1_addNumber_8 (hP 11 _ rfl) rfl rfl ?_
  refine x_icmp_lt (tgt := 14) (pc' := 12) hC dX1_addNumber_9 (by decide) rfl (by omega) (by omega) (fun c9 => ?_) (fun c9 => ?_)
  · refine x_aload_n (pc' := 15) hC dX1_addNumber_14 rfl rfl ?_
    refine x_getR (pc' := 18) (b := 11) hC kf_X1_27 dX1_addNumber_15 (hP 3 _ rfl) rfl rfl ?_
    refine x_aload_n (pc' := 19) hC dX1_addNumber_18 rfl rfl ?_
    refine x_getI (j' := 3) (pc' := 22) hC kf_X1_31 dX1_addNumber_19 (hP 3 _ rfl) rfl rfl rfl ?_
    rw [hc]
    refine x_iload_n (pc' := 23) hC dX1_addNumber_22 rfl rfl ?_
    refine x_iast (pc' := 24) hC dX1_addNumber_23 (hP 11 _ rfl) (by omega) (by omega) rfl ?_
    refine x_aload_n (pc' := 25) hC dX1_addNumber_24 rfl rfl ?_
    refine x_dup (pc' := 26) hC dX1_addNumber_25 rfl rfl ?_
    refine x_getI (j' := 3) (pc' := 29) hC kf_X1_31 dX1_addNumber_26 (hP 3 _ rfl) rfl rfl rfl ?_
    rw [xU_nk (by omega), hc]
    refine x_iconst (pc' := 30) hC dX1_addNumber_29 rfl ?_
    refine x_iadd (pc' := 31) hC dX1_addNumber_30 rfl ?_
    refine x_putI (j' := 3) (pc' := 34) hC kf_X1_31 dX1_addNumber_31 (hP 3 _ rfl) rfl rfl rfl rfl rfl ?_
    refine x_iconst (pc' := 35) hC dX1_addNumber_34 rfl ?_
    exact x_zret hC dX1_addNumber_35 (by first | exact Or.inl rfl | exact Or.inr rfl | omega) (xI.mk (by first | exact ⟨(if_neg (by omega)).symm, fun z => absurd z (by omega), fun _ => rfl⟩ | exact ⟨(if_pos (by omega)).symm, fun _ => rfl, fun z => absurd z (by omega)⟩))
  · refine x_iconst (pc' := 13) hC dX1_addNumber_12 rfl ?_
    exact x_zret hC dX1_addNumber_13 (by first | exact Or.inl rfl | exact Or.inr rfl | omega) (xI.mk (by first | exact ⟨(if_neg (by omega)).symm, fun z => absurd z (by omega), fun _ => rfl⟩ | exact ⟨(if_pos (by omega)).symm, fun _ => rfl, fun z => absurd z (by omega)⟩))
set_option maxRecDepth 100000 in
set_option maxHeartbeats 4000000 in
theorem c_readNumbers {g : xG} {l : Launch} {S : List xS} {μ : xM} {nt q0 : Int} {tx d : Int → Int} (hd : d = dch nt tx) (hP : xPre S) (hA : Tx μ nt tx) (h0 : 0 ≤ q0 ∧ q0 ≤ nt) : xCt g l yX1_readNumbers cX1_readNumbers 7 (some .int) 1 21 0 0 [vR g 3, vR g 1, vI q0] S μ S (xI (fun a μ' => a = (rdN d 3 q0 0).1 ∧ FrN μ μ' ∧ (a ≠ -4 → μ' 3 3 = (rdN d 3 q0 0).2 ∧ VL d q0 (μ' 11) (rdN d 3 q0 0).2 a ∧ 1 ≤ (rdN d 3 q0 0).2 ∧ q0 < a ∧ a ≤ nt))) := by
  refine x_enter (by decide) (Nat.le_of_ble_eq_true rfl) ?_
  intro zp ze zs zm za zb zh zc hC hz0
  have n1 := hA.2.2.1
  have loop : ∀ (zn : Nat) (k : Nat) (q f v p cnt : Int) (μ1 : xM) (hk : cnt + k = 3) (hc : 0 ≤ cnt) (hp : p = q + f) (hN : NF d q f v) (he : rdN d k q cnt = rdN d 3 q0 0) (hV : VL d q0 (μ1 11) cnt q) (h3 : μ1 3 3 = cnt) (hF : FrN μ μ1) (hq : q0 ≤ q ∧ p ≤ nt), (nt - p).toNat < zn → xX g 7 zp l ze { frames := 1, cells := 0, slots := 0, locals := 21 } zs zm za zb zh zc 0 0 (MQ zb (xQ g S (xI (fun a μ' => a = (rdN d 3 q0 0).1 ∧ FrN μ μ' ∧ (a ≠ -4 → μ' 3 3 = (rdN d 3 q0 0).2 ∧ VL d q0 (μ' 11) (rdN d 3 q0 0).2 a ∧ 1 ≤ (rdN d 3 q0 0).2 ∧ q0 < a ∧ a ≤ nt)))) za zs 0 0 (xA0 g)) S μ1 13 [some (vR g 3), some (vR g 1), some (vI q0), some (vI v), some (vI f), some (vI p), none] [] := by
    intro zn
    induction zn with
    | zero => intros; rename_i hz; exact absurd hz (Nat.not_lt_zero _)
    | succ zn ih =>
      intro k q f v p cnt μ1 hk hc hp hN he hV h3 hF hq hn
      have hT1 : Tx μ1 nt tx := ⟨by rw [hF _ _ (by omega) (by omega)]; exact hA.1, hA.2.1, hA.2.2.1, fun j a b => by rw [hF _ _ (by omega) (by omega)]; exact hA.2.2.2 j a b⟩
      have hr := hN.rg
      have hdp : p < nt → d p = tx p := fun z => by rw [hd, dch, if_pos (by omega)]
      have hdz : ¬ p < nt → d p = 0 := fun z => by rw [hd, dch, if_neg (by omega)]
      rw [hp] at hdp hdz
      rw [← hp] at hdp hdz
      have cut : ∀  (hlt : p < nt) (hsep : tx p = 44 ∨ tx p = 59), xX g 7 zp l ze { frames := 1, cells := 0, slots := 0, locals := 21 } zs zm za zb zh zc 0 0 (MQ zb (xQ g S (xI (fun a μ' => a = (rdN d 3 q0 0).1 ∧ FrN μ μ' ∧ (a ≠ -4 → μ' 3 3 = (rdN d 3 q0 0).2 ∧ VL d q0 (μ' 11) (rdN d 3 q0 0).2 a ∧ 1 ≤ (rdN d 3 q0 0).2 ∧ q0 < a ∧ a ≤ nt)))) za zs 0 0 (xA0 g)) S μ1 82 [some (vR g 3), some (vR g 1), some (vI q0), some (vI v), some (vI f), some (vI p), some (vI (tx p))] [] := by
        intro hlt hsep
        have hn := hN.en (show ¬ isD (d (q + f)) by rw [← hp, hdp hlt]; omega)
        have hdq := hdp hlt
        refine x_iload (pc' := 84) hC dX1_readNumbers_82 rfl rfl ?_
        refine x_if_le (tgt := 115) (pc' := 87) hC dX1_readNumbers_84 (by decide) rfl (by omega) (fun c84 => ?_) (fun c84 => ?_)
        · refine x_bipush (pc' := 117) hC dX1_readNumbers_115 (by decide) rfl ?_
          exact x_iret hC dX1_readNumbers_117 (xI.mk (by
      first
      | (refine ⟨?_, hF, fun z => absurd rfl z⟩
         rw [← he]
         first
         | exact (rdN_a (show ¬ oneN d q from fun w => absurd ((hN.one (by rw [← hp]; first | (rw [hdz (by omega)]; omega) | (rw [hdp (by omega)]; omega))).mp w) (by omega))).symm
         | exact (rdN_b (by rw [(hN.en (by rw [← hp]; first | (rw [hdz (by omega)]; omega) | (rw [hdp (by omega)]; omega))).1, ← hp]; first | (rw [hdz (by omega)]; omega) | (rw [hdp (by omega)]; omega)) (by rw [(hN.en (by rw [← hp]; first | (rw [hdz (by omega)]; omega) | (rw [hdp (by omega)]; omega))).1, ← hp]; first | (rw [hdz (by omega)]; omega) | (rw [hdp (by omega)]; omega))).symm
         | exact (rdN_a (by have f2 : f = 2 := by omega
                            subst f2; exact hN.th (by rw [← hp, hdp (by omega)]; omega))).symm
         | (have k0 : k = 0 := by omega
            subst k0; rfl))
      | (refine ⟨?_, by rw [h89.2 (by omega)]; exact hF, fun z => absurd rfl z⟩
         rw [← he]
         have k0 : k = 0 := by omega
         subst k0; rfl)))
        · refine x_aload_n (pc' := 88) hC dX1_readNumbers_87 rfl rfl ?_
          refine x_iload_n (pc' := 89) hC dX1_readNumbers_88 rfl rfl ?_
          refine x_callV (pc' := 92) (n := 1) hC (c_addNumber hP h3 (by omega)) ky_X1_addNumber kv_X1_addNumber kl_X1_60 dX1_readNumbers_89 (hP 3 _ rfl) rfl rfl rfl rfl ⟨Nat.le_of_ble_eq_true rfl, Nat.le_of_ble_eq_true rfl⟩ (Nat.le_of_ble_eq_true rfl) ⟨Nat.le_refl _, Nat.le_refl _⟩ (Or.inl rfl) rfl (x_kv (fun μ89 h89 => ?_))
          refine x_ifb_eq (tgt := 115) (pc' := 95) hC dX1_readNumbers_92 (by decide) rfl (fun c92 => ?_) (fun c92 => ?_)
          · refine x_bipush (pc' := 117) hC dX1_readNumbers_115 (by decide) rfl ?_
            exact x_iret hC dX1_readNumbers_117 (xI.mk (by
      first
      | (refine ⟨?_, hF, fun z => absurd rfl z⟩
         rw [← he]
         first
         | exact (rdN_a (show ¬ oneN d q from fun w => absurd ((hN.one (by rw [← hp]; first | (rw [hdz (by omega)]; omega) | (rw [hdp (by omega)]; omega))).mp w) (by omega))).symm
         | exact (rdN_b (by rw [(hN.en (by rw [← hp]; first | (rw [hdz (by omega)]; omega) | (rw [hdp (by omega)]; omega))).1, ← hp]; first | (rw [hdz (by omega)]; omega) | (rw [hdp (by omega)]; omega)) (by rw [(hN.en (by rw [← hp]; first | (rw [hdz (by omega)]; omega) | (rw [hdp (by omega)]; omega))).1, ← hp]; first | (rw [hdz (by omega)]; omega) | (rw [hdp (by omega)]; omega))).symm
         | exact (rdN_a (by have f2 : f = 2 := by omega
                            subst f2; exact hN.th (by rw [← hp, hdp (by omega)]; omega))).symm
         | (have k0 : k = 0 := by omega
            subst k0; rfl))
      | (refine ⟨?_, by rw [h89.2 (by omega)]; exact hF, fun z => absurd rfl z⟩
         rw [← he]
         have k0 : k = 0 := by omega
         subst k0; rfl)))
          · have e87 := h89.1 (by assumption)
            have e88 : FrN μ μ89 := fun k j a b => by rw [e87]; rcases a with a | a; rw [xU_nk a, xU_nk b]; exact hF k j (Or.inl a) b; rw [xU_nj a, xU_nk b]; exact hF k j (Or.inr a) b
            refine x_iload (pc' := 97) hC dX1_readNumbers_95 rfl rfl ?_
            refine x_bipush (pc' := 99) hC dX1_readNumbers_97 (by decide) rfl ?_
            refine x_icmp_ne (tgt := 107) (pc' := 102) hC dX1_readNumbers_99 (by decide) rfl (by omega) (by omega) (fun c99 => ?_) (fun c99 => ?_)
            · refine x_iconst (pc' := 108) hC dX1_readNumbers_107 rfl ?_
              refine x_istore_n (pc' := 109) hC dX1_readNumbers_108 (by decide) rfl rfl ?_
              refine x_iconst (pc' := 110) hC dX1_readNumbers_109 rfl ?_
              refine x_istore (pc' := 112) hC dX1_readNumbers_110 (by decide) rfl rfl ?_
              refine x_goto (tgt := 118) hC dX1_readNumbers_112 (by decide) ?_
              refine x_iinc (pc' := 121) hC dX1_readNumbers_118 rfl (by decide) rfl rfl ?_
              refine x_goto (tgt := 13) hC dX1_readNumbers_121 (by decide) ?_
              first | (refine x_vs (vs' := [some (vR g 3), some (vR g 1), some (vI q0), some (vI (_)), some (vI (f + 1)), some (vI (p + 1)), none]) (by intro i v; match i with | 0 => exact id | 1 => exact id | 2 => exact id | 3 => exact id | 4 => exact id | 5 => exact id | 6 => (intro h; cases h) | i + 7 => (intro h; cases h)) ?_; exact ih k q (f + 1) _ _ cnt _ hk hc (by omega) (by have z := hN.st (by omega) (show isD (d (q + f)) by rw [← hp, hdp (by omega)]; omega); rw [← hp, hdp (by omega)] at z; exact z) he hV h3 hF (by omega) (by omega)) | (refine x_vs (vs' := [some (vR g 3), some (vR g 1), some (vI q0), some (vI (0)), some (vI (0)), some (vI (p + 1)), none]) (by intro i v; match i with | 0 => exact id | 1 => exact id | 2 => exact id | 3 => exact id | 4 => exact id | 5 => exact id | 6 => (intro h; cases h) | i + 7 => (intro h; cases h)) ?_; exact ih (k - 1) (nx d q) 0 0 _ (cnt + 1) _ (by omega) (by omega) (by rw [nx, hn.1]; omega) (Or.inl ⟨rfl, rfl⟩) (by rw [← he]; obtain ⟨k1, rfl⟩ : ∃ k1 : Nat, k = k1 + 1 := ⟨k - 1, by omega⟩; exact (rdN_c (by unfold oneN; rw [hn.1]; omega) (by rw [hn.1, ← hp, hdq]; omega)).symm) (by rw [e87]; exact hV.st (by omega) (by rw [xU_nk (by omega), xU_at2]) (hn.2 (by omega)) (by omega) (fun j hj => by rw [xU_nk (by omega), xU_nj hj])) (by rw [e87, xU_at2]) e88 (by have z := nf_rg (d := d) (p := q); unfold nx; omega) (by omega))
            · refine x_iload (pc' := 104) hC dX1_readNumbers_102 rfl rfl ?_
              refine x_iconst (pc' := 105) hC dX1_readNumbers_104 rfl ?_
              refine x_iadd (pc' := 106) hC dX1_readNumbers_105 rfl ?_
              exact x_iret hC dX1_readNumbers_106 (xI.mk (by
      obtain ⟨k1, rfl⟩ : ∃ k1 : Nat, k = k1 + 1 := ⟨k - 1, by omega⟩
      have z := rdN_s (k := k1) (c := cnt) (show oneN d q by unfold oneN; rw [hn.1]; omega) (by rw [hn.1, ← hp, hdq]; omega)
      rw [← he, z]
      refine ⟨by unfold nx; rw [hn.1]; omega, e88, fun _ => ⟨by rw [e87, xU_at2], ?_, by omega, by omega, by omega⟩⟩
      rw [show p + 1 = nx d q by unfold nx; rw [hn.1]; omega, e87]
      exact hV.st (by omega) (by rw [xU_nk (by omega), xU_at2]) (hn.2 (by omega)) (by omega) (fun j hj => by rw [xU_nk (by omega), xU_nj hj])))
      refine x_iload (pc' := 15) hC dX1_readNumbers_13 rfl rfl ?_
      refine x_aload_n (pc' := 16) hC dX1_readNumbers_15 rfl rfl ?_
      refine x_getI (j' := 1) (pc' := 19) hC kf_X1_43 dX1_readNumbers_16 (hP 1 _ rfl) rfl rfl rfl ?_
      rw [hT1.1]
      refine x_icmp_ge (tgt := 124) (pc' := 22) hC dX1_readNumbers_19 (by decide) rfl (by omega) (by omega) (fun c19 => ?_) (fun c19 => ?_)
      · refine x_bipush (pc' := 126) hC dX1_readNumbers_124 (by decide) rfl ?_
        exact x_iret hC dX1_readNumbers_126 (xI.mk (by
      first
      | (refine ⟨?_, hF, fun z => absurd rfl z⟩
         rw [← he]
         first
         | exact (rdN_a (show ¬ oneN d q from fun w => absurd ((hN.one (by rw [← hp]; first | (rw [hdz (by omega)]; omega) | (rw [hdp (by omega)]; omega))).mp w) (by omega))).symm
         | exact (rdN_b (by rw [(hN.en (by rw [← hp]; first | (rw [hdz (by omega)]; omega) | (rw [hdp (by omega)]; omega))).1, ← hp]; first | (rw [hdz (by omega)]; omega) | (rw [hdp (by omega)]; omega)) (by rw [(hN.en (by rw [← hp]; first | (rw [hdz (by omega)]; omega) | (rw [hdp (by omega)]; omega))).1, ← hp]; first | (rw [hdz (by omega)]; omega) | (rw [hdp (by omega)]; omega))).symm
         | exact (rdN_a (by have f2 : f = 2 := by omega
                            subst f2; exact hN.th (by rw [← hp, hdp (by omega)]; omega))).symm
         | (have k0 : k = 0 := by omega
            subst k0; rfl))
      | (refine ⟨?_, by rw [h89.2 (by omega)]; exact hF, fun z => absurd rfl z⟩
         rw [← he]
         have k0 : k = 0 := by omega
         subst k0; rfl)))
      · refine x_aload_n (pc' := 23) hC dX1_readNumbers_22 rfl rfl ?_
        refine x_getR (pc' := 26) (b := 2) hC kf_X1_52 dX1_readNumbers_23 (hP 1 _ rfl) rfl rfl ?_
        refine x_iload (pc' := 28) hC dX1_readNumbers_26 rfl rfl ?_
        refine x_cald (pc' := 29) hC dX1_readNumbers_28 (hP 2 _ rfl) (by omega) (by decide) rfl ?_
        rw [(hT1.2.2.2 p (by omega) (by omega)).1]
        have hch := (hT1.2.2.2 p (by omega) (by omega)).2
        refine x_istore (pc' := 31) hC dX1_readNumbers_29 (by decide) rfl rfl ?_
        refine x_iload (pc' := 33) hC dX1_readNumbers_31 rfl rfl ?_
        refine x_bipush (pc' := 35) hC dX1_readNumbers_33 (by decide) rfl ?_
        refine x_icmp_lt (tgt := 68) (pc' := 38) hC dX1_readNumbers_35 (by decide) rfl (by omega) (by omega) (fun c35 => ?_) (fun c35 => ?_)
        · refine x_iload (pc' := 70) hC dX1_readNumbers_68 rfl rfl ?_
          refine x_bipush (pc' := 72) hC dX1_readNumbers_70 (by decide) rfl ?_
          refine x_icmp_eq (tgt := 82) (pc' := 75) hC dX1_readNumbers_72 (by decide) rfl (by omega) (by omega) (fun c72 => ?_) (fun c72 => ?_)
          · first | exact cut (by omega) (by omega) | (exfalso; omega)
          · refine x_iload (pc' := 77) hC dX1_readNumbers_75 rfl rfl ?_
            refine x_bipush (pc' := 79) hC dX1_readNumbers_77 (by decide) rfl ?_
            refine x_icmp_ne (tgt := 115) (pc' := 82) hC dX1_readNumbers_79 (by decide) rfl (by omega) (by omega) (fun c79 => ?_) (fun c79 => ?_)
            · refine x_bipush (pc' := 117) hC dX1_readNumbers_115 (by decide) rfl ?_
              exact x_iret hC dX1_readNumbers_117 (xI.mk (by
      first
      | (refine ⟨?_, hF, fun z => absurd rfl z⟩
         rw [← he]
         first
         | exact (rdN_a (show ¬ oneN d q from fun w => absurd ((hN.one (by rw [← hp]; first | (rw [hdz (by omega)]; omega) | (rw [hdp (by omega)]; omega))).mp w) (by omega))).symm
         | exact (rdN_b (by rw [(hN.en (by rw [← hp]; first | (rw [hdz (by omega)]; omega) | (rw [hdp (by omega)]; omega))).1, ← hp]; first | (rw [hdz (by omega)]; omega) | (rw [hdp (by omega)]; omega)) (by rw [(hN.en (by rw [← hp]; first | (rw [hdz (by omega)]; omega) | (rw [hdp (by omega)]; omega))).1, ← hp]; first | (rw [hdz (by omega)]; omega) | (rw [hdp (by omega)]; omega))).symm
         | exact (rdN_a (by have f2 : f = 2 := by omega
                            subst f2; exact hN.th (by rw [← hp, hdp (by omega)]; omega))).symm
         | (have k0 : k = 0 := by omega
            subst k0; rfl))
      | (refine ⟨?_, by rw [h89.2 (by omega)]; exact hF, fun z => absurd rfl z⟩
         rw [← he]
         have k0 : k = 0 := by omega
         subst k0; rfl)))
            · first | exact cut (by omega) (by omega) | (exfalso; omega)
        · refine x_iload (pc' := 40) hC dX1_readNumbers_38 rfl rfl ?_
          refine x_bipush (pc' := 42) hC dX1_readNumbers_40 (by decide) rfl ?_
          refine x_icmp_gt (tgt := 68) (pc' := 45) hC dX1_readNumbers_42 (by decide) rfl (by omega) (by omega) (fun c42 => ?_) (fun c42 => ?_)
          · refine x_iload (pc' := 70) hC dX1_readNumbers_68 rfl rfl ?_
            refine x_bipush (pc' := 72) hC dX1_readNumbers_70 (by decide) rfl ?_
            refine x_icmp_eq (tgt := 82) (pc' := 75) hC dX1_readNumbers_72 (by decide) rfl (by omega) (by omega) (fun c72 => ?_) (fun c72 => ?_)
            · first | exact cut (by omega) (by omega) | (exfalso; omega)
            · refine x_iload (pc' := 77) hC dX1_readNumbers_75 rfl rfl ?_
              refine x_bipush (pc' := 79) hC dX1_readNumbers_77 (by decide) rfl ?_
              refine x_icmp_ne (tgt := 115) (pc' := 82) hC dX1_readNumbers_79 (by decide) rfl (by omega) (by omega) (fun c79 => ?_) (fun c79 => ?_)
              · refine x_bipush (pc' := 117) hC dX1_readNumbers_115 (by decide) rfl ?_
                exact x_iret hC dX1_readNumbers_117 (xI.mk (by
      first
      | (refine ⟨?_, hF, fun z => absurd rfl z⟩
         rw [← he]
         first
         | exact (rdN_a (show ¬ oneN d q from fun w => absurd ((hN.one (by rw [← hp]; first | (rw [hdz (by omega)]; omega) | (rw [hdp (by omega)]; omega))).mp w) (by omega))).symm
         | exact (rdN_b (by rw [(hN.en (by rw [← hp]; first | (rw [hdz (by omega)]; omega) | (rw [hdp (by omega)]; omega))).1, ← hp]; first | (rw [hdz (by omega)]; omega) | (rw [hdp (by omega)]; omega)) (by rw [(hN.en (by rw [← hp]; first | (rw [hdz (by omega)]; omega) | (rw [hdp (by omega)]; omega))).1, ← hp]; first | (rw [hdz (by omega)]; omega) | (rw [hdp (by omega)]; omega))).symm
         | exact (rdN_a (by have f2 : f = 2 := by omega
                            subst f2; exact hN.th (by rw [← hp, hdp (by omega)]; omega))).symm
         | (have k0 : k = 0 := by omega
            subst k0; rfl))
      | (refine ⟨?_, by rw [h89.2 (by omega)]; exact hF, fun z => absurd rfl z⟩
         rw [← he]
         have k0 : k = 0 := by omega
         subst k0; rfl)))
              · first | exact cut (by omega) (by omega) | (exfalso; omega)
          · refine x_iload (pc' := 47) hC dX1_readNumbers_45 rfl rfl ?_
            refine x_iconst (pc' := 48) hC dX1_readNumbers_47 rfl ?_
            refine x_icmp_ge (tgt := 68) (pc' := 51) hC dX1_readNumbers_48 (by decide) rfl (by omega) (by omega) (fun c48 => ?_) (fun c48 => ?_)
            · refine x_iload (pc' := 70) hC dX1_readNumbers_68 rfl rfl ?_
              refine x_bipush (pc' := 72) hC dX1_readNumbers_70 (by decide) rfl ?_
              refine x_icmp_eq (tgt := 82) (pc' := 75) hC dX1_readNumbers_72 (by decide) rfl (by omega) (by omega) (fun c72 => ?_) (fun c72 => ?_)
              · first | exact cut (by omega) (by omega) | (exfalso; omega)
              · refine x_iload (pc' := 77) hC dX1_readNumbers_75 rfl rfl ?_
                refine x_bipush (pc' := 79) hC dX1_readNumbers_77 (by decide) rfl ?_
                refine x_icmp_ne (tgt := 115) (pc' := 82) hC dX1_readNumbers_79 (by decide) rfl (by omega) (by omega) (fun c79 => ?_) (fun c79 => ?_)
                · refine x_bipush (pc' := 117) hC dX1_readNumbers_115 (by decide) rfl ?_
                  exact x_iret hC dX1_readNumbers_117 (xI.mk (by
      first
      | (refine ⟨?_, hF, fun z => absurd rfl z⟩
         rw [← he]
         first
         | exact (rdN_a (show ¬ oneN d q from fun w => absurd ((hN.one (by rw [← hp]; first | (rw [hdz (by omega)]; omega) | (rw [hdp (by omega)]; omega))).mp w) (by omega))).symm
         | exact (rdN_b (by rw [(hN.en (by rw [← hp]; first | (rw [hdz (by omega)]; omega) | (rw [hdp (by omega)]; omega))).1, ← hp]; first | (rw [hdz (by omega)]; omega) | (rw [hdp (by omega)]; omega)) (by rw [(hN.en (by rw [← hp]; first | (rw [hdz (by omega)]; omega) | (rw [hdp (by omega)]; omega))).1, ← hp]; first | (rw [hdz (by omega)]; omega) | (rw [hdp (by omega)]; omega))).symm
         | exact (rdN_a (by have f2 : f = 2 := by omega
                            subst f2; exact hN.th (by rw [← hp, hdp (by omega)]; omega))).symm
         | (have k0 : k = 0 := by omega
            subst k0; rfl))
      | (refine ⟨?_, by rw [h89.2 (by omega)]; exact hF, fun z => absurd rfl z⟩
         rw [← he]
         have k0 : k = 0 := by omega
         subst k0; rfl)))
                · first | exact cut (by omega) (by omega) | (exfalso; omega)
            · refine x_bipush (pc' := 53) hC dX1_readNumbers_51 (by decide) rfl ?_
              refine x_iload_n (pc' := 54) hC dX1_readNumbers_53 rfl rfl ?_
              refine x_imul (pc' := 55) hC dX1_readNumbers_54 rfl ?_
              refine x_iload (pc' := 57) hC dX1_readNumbers_55 rfl rfl ?_
              refine x_iadd (pc' := 58) hC dX1_readNumbers_57 rfl ?_
              refine x_bipush (pc' := 60) hC dX1_readNumbers_58 (by decide) rfl ?_
              refine x_isub (pc' := 61) hC dX1_readNumbers_60 rfl ?_
              refine x_istore_n (pc' := 62) hC dX1_readNumbers_61 (by decide) rfl rfl ?_
              refine x_iinc (pc' := 65) hC dX1_readNumbers_62 rfl (by decide) rfl rfl ?_
              refine x_goto (tgt := 118) hC dX1_readNumbers_65 (by decide) ?_
              refine x_iinc (pc' := 121) hC dX1_readNumbers_118 rfl (by decide) rfl rfl ?_
              refine x_goto (tgt := 13) hC dX1_readNumbers_121 (by decide) ?_
              first | (refine x_vs (vs' := [some (vR g 3), some (vR g 1), some (vI q0), some (vI (_)), some (vI (f + 1)), some (vI (p + 1)), none]) (by intro i v; match i with | 0 => exact id | 1 => exact id | 2 => exact id | 3 => exact id | 4 => exact id | 5 => exact id | 6 => (intro h; cases h) | i + 7 => (intro h; cases h)) ?_; exact ih k q (f + 1) _ _ cnt _ hk hc (by omega) (by have z := hN.st (by omega) (show isD (d (q + f)) by rw [← hp, hdp (by omega)]; omega); rw [← hp, hdp (by omega)] at z; exact z) he hV h3 hF (by omega) (by omega)) | (refine x_vs (vs' := [some (vR g 3), some (vR g 1), some (vI q0), some (vI (0)), some (vI (0)), some (vI (p + 1)), none]) (by intro i v; match i with | 0 => exact id | 1 => exact id | 2 => exact id | 3 => exact id | 4 => exact id | 5 => exact id | 6 => (intro h; cases h) | i + 7 => (intro h; cases h)) ?_; exact ih (k - 1) (nx d q) 0 0 _ (cnt + 1) _ (by omega) (by omega) (by rw [nx, hn.1]; omega) (Or.inl ⟨rfl, rfl⟩) (by rw [← he]; obtain ⟨k1, rfl⟩ : ∃ k1 : Nat, k = k1 + 1 := ⟨k - 1, by omega⟩; exact (rdN_c (by unfold oneN; rw [hn.1]; omega) (by rw [hn.1, ← hp, hdq]; omega)).symm) (by rw [e87]; exact hV.st (by omega) (by rw [xU_nk (by omega), xU_at2]) (hn.2 (by omega)) (by omega) (fun j hj => by rw [xU_nk (by omega), xU_nj hj])) (by rw [e87, xU_at2]) e88 (by have z := nf_rg (d := d) (p := q); unfold nx; omega) (by omega))
  refine x_aload_n (pc' := 1) hC dX1_readNumbers_0 rfl rfl ?_
  refine x_iconst (pc' := 2) hC dX1_readNumbers_1 rfl ?_
  refine x_putI (j' := 3) (pc' := 5) hC kf_X1_31 dX1_readNumbers_2 (hP 3 _ rfl) rfl rfl rfl rfl rfl ?_
  refine x_iconst (pc' := 6) hC dX1_readNumbers_5 rfl ?_
  refine x_istore_n (pc' := 7) hC dX1_readNumbers_6 (by decide) rfl rfl ?_
  refine x_iconst (pc' := 8) hC dX1_readNumbers_7 rfl ?_
  refine x_istore (pc' := 10) hC dX1_readNumbers_8 (by decide) rfl rfl ?_
  refine x_iload_n (pc' := 11) hC dX1_readNumbers_10 rfl rfl ?_
  refine x_istore (pc' := 13) hC dX1_readNumbers_11 (by decide) rfl rfl ?_
  exact loop (nt.toNat + 1) 3 q0 0 0 _ 0 (xU μ 3 3 0) (by omega) (by omega) (by omega) (Or.inl ⟨rfl, rfl⟩) rfl (Or.inl ⟨rfl, rfl⟩) xU_at2 (fun k j a b => by rcases Nat.decEq k 3 with z | z; exact xU_nk z; exact (z ▸ xU_nj (by omega))) (by omega) (by omega)
