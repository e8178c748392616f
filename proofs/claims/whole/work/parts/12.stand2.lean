set_option maxRecDepth 100000 in
set_option maxHeartbeats 4000000 in
theorem c_takeTurn {g : xG} {l : Launch} {S : List xS} {μ : xM} {b pl : Nat} {T r : Int → Int} {m : Int} (hb : xStd S b pl) (hA : SA μ b pl T r) (hT : WT T) (hR : WR T r) (hm : 0 ≤ m ∧ m < T 3) : xCt g l yX4_takeTurn cX4_takeTurn 3 none 2 48 0 0 [vR g b, vI m] S μ S (xN (fun μ' => FrS b μ μ' ∧ St μ' b (goOne T r m))) := by
  refine x_enter (by decide) (Nat.le_of_ble_eq_true rfl) ?_
  intro zp ze zs zm za zb zh zc hC hz0
  have t0 := hT.1
  have t1 := hT.2.1
  have t2 := hT.2.2.1
  have t3 := hT.2.2.2.1
  have q := hR.2.1 m hm.1 hm.2
  have q2 := hT.2.2.2.2 m hm.1 hm.2
  have q3 := lack_rg hT hR hm
  refine x_aload_n (pc' := 1) hC dX4_takeTurn_0 rfl rfl ?_
  refine x_iload_n (pc' := 2) hC dX4_takeTurn_1 rfl rfl ?_
  refine x_callV (pc' := 5) (n := 1) hC (c_speedOf hb hA hT hR hm) ky_X4_speedOf kv_X4_speedOf kl_X4_79 dX4_takeTurn_2 hb.1 rfl rfl rfl rfl ⟨Nat.le_of_ble_eq_true rfl, Nat.le_of_ble_eq_true rfl⟩ (Nat.le_of_ble_eq_true rfl) ⟨Nat.le_refl _, Nat.le_refl _⟩ (Or.inl rfl) rfl (x_kd ?_)
  refine x_istore_n (pc' := 6) hC dX4_takeTurn_5 (by decide) rfl rfl ?_
  refine x_iload_n (pc' := 7) hC dX4_takeTurn_6 rfl rfl ?_
  refine x_if_le (tgt := 19) (pc' := 10) hC dX4_takeTurn_7 (by decide) rfl (by omega) (fun c7 => ?_) (fun c7 => ?_)
  · refine x_aload_n (pc' := 20) hC dX4_takeTurn_19 rfl rfl ?_
    refine x_getR (pc' := 23) (b := pl) hC kf_X4_31 dX4_takeTurn_20 hb.1 rfl rfl ?_
    refine x_aload_n (pc' := 24) hC dX4_takeTurn_23 rfl rfl ?_
    refine x_getR (pc' := 27) (b := b + 2) hC kf_X4_15 dX4_takeTurn_24 hb.1 rfl rfl ?_
    refine x_iload_n (pc' := 28) hC dX4_takeTurn_27 rfl rfl ?_
    refine x_iald (pc' := 29) hC dX4_takeTurn_28 hb.2.2.1 (by omega) (by decide) rfl ?_
    rw [hA.pc (by omega) (by omega)]
    refine x_callV (pc' := 32) (n := 1) hC (c_isTop (T := T) hb.pl hA.1 hT (by omega)) ky_X0_isTop kv_X0_isTop kl_X4_86 dX4_takeTurn_29 hb.2.2.2.2.2.1.1 rfl rfl rfl rfl ⟨Nat.le_of_ble_eq_true rfl, Nat.le_of_ble_eq_true rfl⟩ (Nat.le_of_ble_eq_true rfl) ⟨Nat.le_refl _, Nat.le_refl _⟩ (Or.inl rfl) rfl (x_kd ?_)
    refine x_ifb_ne (tgt := 45) (pc' := 35) hC dX4_takeTurn_32 (by decide) rfl (fun c32 => ?_) (fun c32 => ?_)
    · exact x_vret hC dX4_takeTurn_45 (xN.mk (by unfold goOne; first | (rw [if_pos (by omega)]; exact h13) | (rw [if_neg (by omega), if_neg (by omega)]; exact ⟨FrS.rf, hA.2.2⟩) | (rw [if_neg (by omega), if_pos (by omega)]; exact ⟨FrS.rf.u2, hA.2.2.place (by omega) (by omega)⟩)))
    · refine x_aload_n (pc' := 36) hC dX4_takeTurn_35 rfl rfl ?_
      refine x_getR (pc' := 39) (b := b + 2) hC kf_X4_15 dX4_takeTurn_36 hb.1 rfl rfl ?_
      refine x_iload_n (pc' := 40) hC dX4_takeTurn_39 rfl rfl ?_
      refine x_dup2 (pc' := 41) hC dX4_takeTurn_40 rfl rfl rfl ?_
      refine x_iald (pc' := 42) hC dX4_takeTurn_41 hb.2.2.1 (by omega) (by decide) rfl ?_
      rw [hA.pc (by omega) (by omega)]
      refine x_iconst (pc' := 43) hC dX4_takeTurn_42 rfl ?_
      refine x_iadd (pc' := 44) hC dX4_takeTurn_43 rfl ?_
      refine x_iast (pc' := 45) hC dX4_takeTurn_44 hb.2.2.1 (by omega) (by omega) rfl ?_
      exact x_vret hC dX4_takeTurn_45 (xN.mk (by unfold goOne; first | (rw [if_pos (by omega)]; exact h13) | (rw [if_neg (by omega), if_neg (by omega)]; exact ⟨FrS.rf, hA.2.2⟩) | (rw [if_neg (by omega), if_pos (by omega)]; exact ⟨FrS.rf.u2, hA.2.2.place (by omega) (by omega)⟩)))
  · refine x_aload_n (pc' := 11) hC dX4_takeTurn_10 rfl rfl ?_
    refine x_iload_n (pc' := 12) hC dX4_takeTurn_11 rfl rfl ?_
    refine x_iload_n (pc' := 13) hC dX4_takeTurn_12 rfl rfl ?_
    refine x_callV (pc' := 16) (n := 2) hC (c_comeDown hb hA hT hR hm (by omega)) ky_X4_comeDown kv_X4_comeDown kl_X4_89 dX4_takeTurn_13 hb.1 rfl rfl rfl rfl ⟨Nat.le_of_ble_eq_true rfl, Nat.le_of_ble_eq_true rfl⟩ (Nat.le_of_ble_eq_true rfl) ⟨Nat.le_refl _, Nat.le_refl _⟩ (Or.inl rfl) rfl (x_kn (fun μ13 h13 => ?_))
    refine x_goto (tgt := 45) hC dX4_takeTurn_16 (by decide) ?_
    exact x_vret hC dX4_takeTurn_45 (xN.mk (by unfold goOne; first | (rw [if_pos (by omega)]; exact h13) | (rw [if_neg (by omega), if_neg (by omega)]; exact ⟨FrS.rf, hA.2.2⟩) | (rw [if_neg (by omega), if_pos (by omega)]; exact ⟨FrS.rf.u2, hA.2.2.place (by omega) (by omega)⟩)))
set_option maxRecDepth 100000 in
set_option maxHeartbeats 4000000 in
theorem c_governor {g : xG} {l : Launch} {S : List xS} {μ : xM} {b pl : Nat} {T r : Int → Int} (hb : xStd S b pl) (hA : SA μ b pl T r) (hT : WT T) (hR : WR T r) : xCt g l yX4_governor cX4_governor 3 (some .int) 0 0 0 0 [vR g b] S μ S (xI (fun a μ' => a = gov T r ∧ μ' = μ)) := by
  refine x_enter (by decide) (Nat.le_of_ble_eq_true rfl) ?_
  intro zp ze zs zm za zb zh zc hC hz0
  have t0 := hT.1
  have t1 := hT.2.1
  have t2 := hT.2.2.1
  have t3 := hT.2.2.2.1
  have loop : ∀ (zn : Nat) (k : Nat) (hi mm : Int) (hhi : hi = govN r k) (hmm : mm = (k : Int) + 1) (hk : (k : Int) + 1 ≤ T 3), (T 3).toNat - k < zn → xX g 3 zp l ze { frames := 0, cells := 0, slots := 0, locals := 0 } zs zm za zb zh zc 0 0 (MQ zb (xQ g S (xI (fun a μ' => a = gov T r ∧ μ' = μ))) za zs 0 0 (xA0 g)) S μ 4 [some (vR g b), some (vI hi), some (vI mm)] [] := by
    intro zn
    induction zn with
    | zero => intros; rename_i hz; exact absurd hz (Nat.not_lt_zero _)
    | succ zn ih =>
      intro k hi mm hhi hmm hk hn
      have g1 := govN_in (r := r) k
      refine x_iload_n (pc' := 5) hC dX4_governor_4 rfl rfl ?_
      refine x_aload_n (pc' := 6) hC dX4_governor_5 rfl rfl ?_
      refine x_getR (pc' := 9) (b := pl) hC kf_X4_31 dX4_governor_6 hb.1 rfl rfl ?_
      refine x_getI (j' := 1) (pc' := 12) hC kf_X4_47 dX4_governor_9 hb.2.2.2.2.2.1.1 rfl rfl rfl ?_
      rw [hA.mi]
      refine x_icmp_ge (tgt := 38) (pc' := 15) hC dX4_governor_12 (by decide) rfl (by omega) (by omega) (fun c12 => ?_) (fun c12 => ?_)
      · refine x_iload_n (pc' := 39) hC dX4_governor_38 rfl rfl ?_
        exact x_iret hC dX4_governor_39 (xI.mk ⟨by rw [hhi]; unfold gov; congr 1; omega, rfl⟩)
      · have g2 := hR.2.1 mm (by omega) (by omega)
        have g3 := hR.2.1 hi (by omega) (by omega)
        refine x_aload_n (pc' := 16) hC dX4_governor_15 rfl rfl ?_
        refine x_getR (pc' := 19) (b := b + 2) hC kf_X4_15 dX4_governor_16 hb.1 rfl rfl ?_
        refine x_iload_n (pc' := 20) hC dX4_governor_19 rfl rfl ?_
        refine x_iald (pc' := 21) hC dX4_governor_20 hb.2.2.1 (by omega) (by decide) rfl ?_
        rw [hA.pc (by omega) (by omega)]
        refine x_aload_n (pc' := 22) hC dX4_governor_21 rfl rfl ?_
        refine x_getR (pc' := 25) (b := b + 2) hC kf_X4_15 dX4_governor_22 hb.1 rfl rfl ?_
        refine x_iload_n (pc' := 26) hC dX4_governor_25 rfl rfl ?_
        refine x_iald (pc' := 27) hC dX4_governor_26 hb.2.2.1 (by omega) (by decide) rfl ?_
        rw [hA.pc (by omega) (by omega)]
        refine x_icmp_le (tgt := 32) (pc' := 30) hC dX4_governor_27 (by decide) rfl (by omega) (by omega) (fun c27 => ?_) (fun c27 => ?_)
        · refine x_iinc (pc' := 35) hC dX4_governor_32 rfl (by decide) rfl rfl ?_
          refine x_goto (tgt := 4) hC dX4_governor_35 (by decide) ?_
          exact ih (k + 1) _ _ (by rw [govN]; subst hhi; subst hmm; first | rw [if_pos (by omega)] | rw [if_neg (by omega)]) (by omega) (by omega) (by omega)
        · refine x_iload_n (pc' := 31) hC dX4_governor_30 rfl rfl ?_
          refine x_istore_n (pc' := 32) hC dX4_governor_31 (by decide) rfl rfl ?_
          refine x_iinc (pc' := 35) hC dX4_governor_32 rfl (by decide) rfl rfl ?_
          refine x_goto (tgt := 4) hC dX4_governor_35 (by decide) ?_
          exact ih (k + 1) _ _ (by rw [govN]; subst hhi; subst hmm; first | rw [if_pos (by omega)] | rw [if_neg (by omega)]) (by omega) (by omega) (by omega)
  refine x_iconst (pc' := 1) hC dX4_governor_0 rfl ?_
  refine x_istore_n (pc' := 2) hC dX4_governor_1 (by decide) rfl rfl ?_
  refine x_iconst (pc' := 3) hC dX4_governor_2 rfl ?_
  refine x_istore_n (pc' := 4) hC dX4_governor_3 (by decide) rfl rfl ?_
  exact loop ((T 3).toNat + 1) 0 _ _ rfl rfl (by omega) (by omega)
set_option maxRecDepth 100000 in
set_option maxHeartbeats 4000000 in
theorem c_oneYear {g : xG} {l : Launch} {S : List xS} {μ : xM} {b pl : Nat} {T r : Int → Int} (hb : xStd S b pl) (hA : SA μ b pl T r) (hT : WT T) (hR : WR T r) : xCt g l yX4_oneYear cX4_oneYear 2 none 3 70 0 0 [vR g b] S μ S (xN (fun μ' => FrS b μ μ' ∧ St μ' b (goYear T r))) := by
  refine x_enter (by decide) (Nat.le_of_ble_eq_true rfl) ?_
  intro zp ze zs zm za zb zh zc hC hz0
  have t0 := hT.1
  have t1 := hT.2.1
  have t2 := hT.2.2.1
  have t3 := hT.2.2.2.1
  have loop : ∀ (zn : Nat) (k : Nat) (i : Int) (μ1 : xM) (hi : i = k) (hk : (k : Int) ≤ T 3) (h1 : FrS b μ μ1) (h2 : St μ1 b (goN T r k)), (T 3).toNat - k < zn → xX g 2 zp l ze { frames := 3, cells := 0, slots := 0, locals := 70 } zs zm za zb zh zc 0 0 (MQ zb (xQ g S (xN (fun μ' => FrS b μ μ' ∧ St μ' b (goYear T r)))) za zs 0 0 (xA0 g)) S μ1 2 [some (vR g b), some (vI i)] [] := by
    intro zn
    induction zn with
    | zero => intros; rename_i hz; exact absurd hz (Nat.not_lt_zero _)
    | succ zn ih =>
      intro k i μ1 hi hk h1 h2 hn
      subst hi
      have hA1 := hA.step hb.lt h1 h2
      have hR1 := WR_goN hT hR k hk
      have g1 := gov_in (r := goN T r k) hT
      refine x_iload_n (pc' := 3) hC dX4_oneYear_2 rfl rfl ?_
      refine x_aload_n (pc' := 4) hC dX4_oneYear_3 rfl rfl ?_
      refine x_getR (pc' := 7) (b := pl) hC kf_X4_31 dX4_oneYear_4 hb.1 rfl rfl ?_
      refine x_getI (j' := 1) (pc' := 10) hC kf_X4_47 dX4_oneYear_7 hb.2.2.2.2.2.1.1 rfl rfl rfl ?_
      rw [hA1.mi]
      refine x_icmp_ge (tgt := 24) (pc' := 13) hC dX4_oneYear_10 (by decide) rfl (by omega) (by omega) (fun c10 => ?_) (fun c10 => ?_)
      · have ek : (T 3).toNat = k := by omega
        have g2 := hR1.2.2
        refine x_aload_n (pc' := 25) hC dX4_oneYear_24 rfl rfl ?_
        refine x_getR (pc' := 28) (b := b + 4) hC kf_X4_21 dX4_oneYear_25 hb.1 rfl rfl ?_
        refine x_aload_n (pc' := 29) hC dX4_oneYear_28 rfl rfl ?_
        refine x_callV (pc' := 32) (n := 0) hC (c_governor hb hA1 hT hR1) ky_X4_governor kv_X4_governor kl_X4_75 dX4_oneYear_29 hb.1 rfl rfl rfl rfl ⟨Nat.le_of_ble_eq_true rfl, Nat.le_of_ble_eq_true rfl⟩ (Nat.le_of_ble_eq_true rfl) ⟨Nat.le_refl _, Nat.le_refl _⟩ (Or.inl rfl) rfl (x_kd ?_)
        refine x_dup2 (pc' := 33) hC dX4_oneYear_32 rfl rfl rfl ?_
        refine x_iald (pc' := 34) hC dX4_oneYear_33 hb.2.2.2.2.1 (by omega) (by decide) rfl ?_
        rw [hA1.rg (by omega) (by omega)]
        refine x_iconst (pc' := 35) hC dX4_oneYear_34 rfl ?_
        refine x_iadd (pc' := 36) hC dX4_oneYear_35 rfl ?_
        refine x_iast (pc' := 37) hC dX4_oneYear_36 hb.2.2.2.2.1 (by omega) (by omega) rfl ?_
        refine x_aload_n (pc' := 38) hC dX4_oneYear_37 rfl rfl ?_
        refine x_bipush (pc' := 40) hC dX4_oneYear_38 (by decide) rfl ?_
        refine x_aload_n (pc' := 41) hC dX4_oneYear_40 rfl rfl ?_
        refine x_getI (j' := 5) (pc' := 44) hC kf_X4_24 dX4_oneYear_41 hb.1 rfl rfl rfl ?_
        rw [xU_nk (by omega), hA1.fu]
        refine x_iconst (pc' := 45) hC dX4_oneYear_44 rfl ?_
        refine x_iadd (pc' := 46) hC dX4_oneYear_45 rfl ?_
        refine x_mmin (pc' := 49) hC kl_X4_59 dX4_oneYear_46 (by omega) (by omega) ⟨Nat.le_of_ble_eq_true rfl, Nat.le_of_ble_eq_true rfl⟩ (Nat.le_of_ble_eq_true rfl) ⟨Nat.le_refl _, Nat.le_refl _⟩ rfl ?_
        refine x_putI (j' := 5) (pc' := 52) hC kf_X4_24 dX4_oneYear_49 hb.1 rfl rfl rfl rfl rfl ?_
        refine x_aload_n (pc' := 53) hC dX4_oneYear_52 rfl rfl ?_
        refine x_dup (pc' := 54) hC dX4_oneYear_53 rfl rfl ?_
        refine x_getI (j' := 6) (pc' := 57) hC kf_X4_28 dX4_oneYear_54 hb.1 rfl rfl rfl ?_
        rw [xU_nj (by omega), xU_nk (by omega), hA1.yr]
        refine x_iconst (pc' := 58) hC dX4_oneYear_57 rfl ?_
        refine x_iadd (pc' := 59) hC dX4_oneYear_58 rfl ?_
        refine x_putI (j' := 6) (pc' := 62) hC kf_X4_28 dX4_oneYear_59 hb.1 rfl rfl rfl rfl rfl ?_
        exact x_vret hC dX4_oneYear_62 (xN.mk ⟨((h1.u4).u0).u0, by
      rw [goYear_eq, ek]
      have e1 : reignUp T (goN T r k) 1 = goN T r k 1 := up_ne (by omega)
      have e2 : fundsUp (reignUp T (goN T r k)) 0 = goN T r k 0 := (up_ne (by omega)).trans (up_ne (by omega))
      rw [e1, e2]
      exact ((h2.reign (by omega) (by omega)).funds).year⟩)
      · refine x_aload_n (pc' := 14) hC dX4_oneYear_13 rfl rfl ?_
        refine x_iload_n (pc' := 15) hC dX4_oneYear_14 rfl rfl ?_
        refine x_callV (pc' := 18) (n := 1) hC (c_takeTurn hb hA1 hT hR1 ⟨by omega, by omega⟩) ky_X4_takeTurn kv_X4_takeTurn kl_X4_71 dX4_oneYear_15 hb.1 rfl rfl rfl rfl ⟨Nat.le_of_ble_eq_true rfl, Nat.le_of_ble_eq_true rfl⟩ (Nat.le_of_ble_eq_true rfl) ⟨Nat.le_refl _, Nat.le_refl _⟩ (Or.inl rfl) rfl (x_kn (fun μ15 h15 => ?_))
        refine x_iinc (pc' := 21) hC dX4_oneYear_18 rfl (by decide) rfl rfl ?_
        refine x_goto (tgt := 2) hC dX4_oneYear_21 (by decide) ?_
        exact ih (k + 1) _ _ (by omega) (by omega) (h1.tr h15.1) (by rw [goN]; exact h15.2) (by omega)
  refine x_iconst (pc' := 1) hC dX4_oneYear_0 rfl ?_
  refine x_istore_n (pc' := 2) hC dX4_oneYear_1 (by decide) rfl rfl ?_
  exact loop ((T 3).toNat + 1) 0 _ μ rfl (by omega) FrS.rf hA.2.2 (by omega)
set_option maxRecDepth 100000 in
set_option maxHeartbeats 4000000 in
theorem c_goOn {g : xG} {l : Launch} {S : List xS} {μ : xM} {b pl : Nat} {T r : Int → Int} {N : Nat} {n : Int} (hb : xStd S b pl) (hA : SA μ b pl T r) (hT : WT T) (hR : WR T r) (hn : n = N) (hN : N ≤ 1000) : xCt g l yX4_goOn cX4_goOn 3 none 4 91 0 0 [vR g b, vI n] S μ S (xN (fun μ' => FrS b μ μ' ∧ St μ' b (goYears T N r))) := by
  refine x_enter (by decide) (Nat.le_of_ble_eq_true rfl) ?_
  intro zp ze zs zm za zb zh zc hC hz0
  have t0 := hT.1
  have t1 := hT.2.1
  have t2 := hT.2.2.1
  have t3 := hT.2.2.2.1
  have loop : ∀ (zn : Nat) (k : Nat) (i : Int) (μ1 : xM) (r1 : Int → Int) (hi : i = k) (hk : k ≤ N) (h1 : FrS b μ μ1) (h2 : St μ1 b r1) (h3 : WR T r1) (h4 : goYears T (N - k) r1 = goYears T N r), N - k < zn → xX g 3 zp l ze { frames := 4, cells := 0, slots := 0, locals := 91 } zs zm za zb zh zc 0 0 (MQ zb (xQ g S (xN (fun μ' => FrS b μ μ' ∧ St μ' b (goYears T N r)))) za zs 0 0 (xA0 g)) S μ1 2 [some (vR g b), some (vI n), some (vI i)] [] := by
    intro zn
    induction zn with
    | zero => intros; rename_i hz; exact absurd hz (Nat.not_lt_zero _)
    | succ zn ih =>
      intro k i μ1 r1 hi hk h1 h2 h3 h4 hn
      have hA1 := hA.step hb.lt h1 h2
      refine x_iload_n (pc' := 3) hC dX4_goOn_2 rfl rfl ?_
      refine x_iload_n (pc' := 4) hC dX4_goOn_3 rfl rfl ?_
      refine x_icmp_ge (tgt := 17) (pc' := 7) hC dX4_goOn_4 (by decide) rfl (by omega) (by omega) (fun c4 => ?_) (fun c4 => ?_)
      · exact x_vret hC dX4_goOn_17 (xN.mk ⟨h1, by rw [← h4, show N - k = 0 by omega]; exact h2⟩)
      · refine x_aload_n (pc' := 8) hC dX4_goOn_7 rfl rfl ?_
        refine x_callV (pc' := 11) (n := 0) hC (c_oneYear hb hA1 hT h3) ky_X4_oneYear kv_X4_oneYear kl_X4_68 dX4_goOn_8 hb.1 rfl rfl rfl rfl ⟨Nat.le_of_ble_eq_true rfl, Nat.le_of_ble_eq_true rfl⟩ (Nat.le_of_ble_eq_true rfl) ⟨Nat.le_refl _, Nat.le_refl _⟩ (Or.inl rfl) rfl (x_kn (fun μ8 h8 => ?_))
        refine x_iinc (pc' := 14) hC dX4_goOn_11 rfl (by decide) rfl rfl ?_
        refine x_goto (tgt := 2) hC dX4_goOn_14 (by decide) ?_
        exact ih (k + 1) _ _ (goYear T r1) (by omega) (by omega) (h1.tr h8.1) h8.2 (WR_goYear hT h3) (by rw [← h4, show N - k = (N - (k + 1)) + 1 by omega]; rfl) (by omega)
  refine x_iconst (pc' := 1) hC dX4_goOn_0 rfl ?_
  refine x_istore_n (pc' := 2) hC dX4_goOn_1 (by decide) rfl rfl ?_
  exact loop (N + 1) 0 _ μ r rfl (by omega) FrS.rf hA.2.2 hR rfl (by omega)
set_option maxRecDepth 100000 in
set_option maxHeartbeats 4000000 in
theorem c_copy {g : xG} {l : Launch} {S : List xS} {μ : xM} {b pl b2 pl2 : Nat} {r : Int → Int} (hb : xStd S b pl) (hb2 : xStd S b2 pl2) (hd : b + 5 ≤ b2 ∨ b2 + 5 ≤ b) (hr : St μ b2 r) : xCt g l yX4_copy cX4_copy 2 none 1 40 0 0 [vR g b, vR g b2] S μ S (xN (fun μ' => FrB b μ μ' ∧ St μ' b r ∧ ∀ j : Int, 0 ≤ j → j < 7 → μ' (b + 3) j = μ (b2 + 3) j)) := by
  refine x_enter (by decide) (Nat.le_of_ble_eq_true rfl) ?_
  intro zp ze zs zm za zb zh zc hC hz0
  refine x_aload_n (pc' := 1) hC dX4_copy_0 rfl rfl ?_
  refine x_getR (pc' := 4) (b := b2 + 1) hC kf_X4_9 dX4_copy_1 hb2.1 rfl rfl ?_
  refine x_iconst (pc' := 5) hC dX4_copy_4 rfl ?_
  refine x_aload_n (pc' := 6) hC dX4_copy_5 rfl rfl ?_
  refine x_getR (pc' := 9) (b := b + 1) hC kf_X4_9 dX4_copy_6 hb.1 rfl rfl ?_
  refine x_iconst (pc' := 10) hC dX4_copy_9 rfl ?_
  refine x_aload_n (pc' := 11) hC dX4_copy_10 rfl rfl ?_
  refine x_getR (pc' := 14) (b := b + 1) hC kf_X4_9 dX4_copy_11 hb.1 rfl rfl ?_
  refine x_alenI (n' := 16) (pc' := 15) hC dX4_copy_14 hb.2.1 rfl rfl ?_
  refine x_copyi (pc' := 18) (n := 16) (n' := 16) hC kl_X4_41 dX4_copy_15 hb2.2.1 hb.2.1 (by decide) (by decide) (by decide) rfl ⟨Nat.le_of_ble_eq_true rfl, Nat.le_of_ble_eq_true (by decide)⟩ rfl ?_
  refine x_aload_n (pc' := 19) hC dX4_copy_18 rfl rfl ?_
  refine x_getR (pc' := 22) (b := b2 + 2) hC kf_X4_15 dX4_copy_19 hb2.1 rfl rfl ?_
  refine x_iconst (pc' := 23) hC dX4_copy_22 rfl ?_
  refine x_aload_n (pc' := 24) hC dX4_copy_23 rfl rfl ?_
  refine x_getR (pc' := 27) (b := b + 2) hC kf_X4_15 dX4_copy_24 hb.1 rfl rfl ?_
  refine x_iconst (pc' := 28) hC dX4_copy_27 rfl ?_
  refine x_aload_n (pc' := 29) hC dX4_copy_28 rfl rfl ?_
  refine x_getR (pc' := 32) (b := b + 2) hC kf_X4_15 dX4_copy_29 hb.1 rfl rfl ?_
  refine x_alenI (n' := 7) (pc' := 33) hC dX4_copy_32 hb.2.2.1 rfl rfl ?_
  refine x_copyi (pc' := 36) (n := 7) (n' := 7) hC kl_X4_41 dX4_copy_33 hb2.2.2.1 hb.2.2.1 (by decide) (by decide) (by decide) rfl ⟨Nat.le_of_ble_eq_true rfl, Nat.le_of_ble_eq_true (by decide)⟩ rfl ?_
  refine x_aload_n (pc' := 37) hC dX4_copy_36 rfl rfl ?_
  refine x_getR (pc' := 40) (b := b2 + 3) hC kf_X4_18 dX4_copy_37 hb2.1 rfl rfl ?_
  refine x_iconst (pc' := 41) hC dX4_copy_40 rfl ?_
  refine x_aload_n (pc' := 42) hC dX4_copy_41 rfl rfl ?_
  refine x_getR (pc' := 45) (b := b + 3) hC kf_X4_18 dX4_copy_42 hb.1 rfl rfl ?_
  refine x_iconst (pc' := 46) hC dX4_copy_45 rfl ?_
  refine x_aload_n (pc' := 47) hC dX4_copy_46 rfl rfl ?_
  refine x_getR (pc' := 50) (b := b + 3) hC kf_X4_18 dX4_copy_47 hb.1 rfl rfl ?_
  refine x_alenI (n' := 7) (pc' := 51) hC dX4_copy_50 hb.2.2.2.1 rfl rfl ?_
  refine x_copyi (pc' := 54) (n := 7) (n' := 7) hC kl_X4_41 dX4_copy_51 hb2.2.2.2.1 hb.2.2.2.1 (by decide) (by decide) (by decide) rfl ⟨Nat.le_of_ble_eq_true rfl, Nat.le_of_ble_eq_true (by decide)⟩ rfl ?_
  refine x_aload_n (pc' := 55) hC dX4_copy_54 rfl rfl ?_
  refine x_getR (pc' := 58) (b := b2 + 4) hC kf_X4_21 dX4_copy_55 hb2.1 rfl rfl ?_
  refine x_iconst (pc' := 59) hC dX4_copy_58 rfl ?_
  refine x_aload_n (pc' := 60) hC dX4_copy_59 rfl rfl ?_
  refine x_getR (pc' := 63) (b := b + 4) hC kf_X4_21 dX4_copy_60 hb.1 rfl rfl ?_
  refine x_iconst (pc' := 64) hC dX4_copy_63 rfl ?_
  refine x_aload_n (pc' := 65) hC dX4_copy_64 rfl rfl ?_
  refine x_getR (pc' := 68) (b := b + 4) hC kf_X4_21 dX4_copy_65 hb.1 rfl rfl ?_
  refine x_alenI (n' := 7) (pc' := 69) hC dX4_copy_68 hb.2.2.2.2.1 rfl rfl ?_
  refine x_copyi (pc' := 72) (n := 7) (n' := 7) hC kl_X4_41 dX4_copy_69 hb2.2.2.2.2.1 hb.2.2.2.2.1 (by decide) (by decide) (by decide) rfl ⟨Nat.le_of_ble_eq_true rfl, Nat.le_of_ble_eq_true (by decide)⟩ rfl ?_
  refine x_aload_n (pc' := 73) hC dX4_copy_72 rfl rfl ?_
  refine x_aload_n (pc' := 74) hC dX4_copy_73 rfl rfl ?_
  refine x_getI (j' := 5) (pc' := 77) hC kf_X4_24 dX4_copy_74 hb2.1 rfl rfl rfl ?_
  refine x_putI (j' := 5) (pc' := 80) hC kf_X4_24 dX4_copy_77 hb.1 rfl rfl rfl rfl rfl ?_
  refine x_aload_n (pc' := 81) hC dX4_copy_80 rfl rfl ?_
  refine x_aload_n (pc' := 82) hC dX4_copy_81 rfl rfl ?_
  refine x_getI (j' := 6) (pc' := 85) hC kf_X4_28 dX4_copy_82 hb2.1 rfl rfl rfl ?_
  refine x_putI (j' := 6) (pc' := 88) hC kf_X4_28 dX4_copy_85 hb.1 rfl rfl rfl rfl rfl ?_
  exact x_vret hC dX4_copy_88 (xN.mk ⟨((((((FrB.rf.cp (by omega)).cp (by omega)).cp (by omega)).cp (by omega)).u (by omega)).u (by omega)), by
      obtain ⟨a1, a2, a3, a4, a5⟩ := hr
      refine ⟨⟨?_, ?_, fun j b1 b2 => ?_, fun j b1 b2 => ?_, fun j b1 b2 => ?_⟩, fun j b1 b2 => ?_⟩
      · rw [xU_at2, xU_nk (by omega), xCp_ne (by omega), xCp_ne (by omega), xCp_ne (by omega), xCp_ne (by omega), a1]
      · rw [xU_nj (by omega), xU_at2, xCp_ne (by omega), xCp_ne (by omega), xCp_ne (by omega), xCp_ne (by omega), a2]
      · rw [xU_nk (by omega), xU_nk (by omega), xCp_ne (by omega), xCp_ne (by omega), xCp_ne (by omega), xCp_at b1 b2, a3 j b1 b2]
      · rw [xU_nk (by omega), xU_nk (by omega), xCp_ne (by omega), xCp_ne (by omega), xCp_at b1 b2, xCp_ne (by omega), a4 j b1 b2]
      · rw [xU_nk (by omega), xU_nk (by omega), xCp_at b1 b2, xCp_ne (by omega), xCp_ne (by omega), xCp_ne (by omega), a5 j b1 b2]
      · rw [xU_nk (by omega), xU_nk (by omega), xCp_ne (by omega), xCp_at b1 b2, xCp_ne (by omega), xCp_ne (by omega)]⟩)
set_option maxRecDepth 100000 in
set_option maxHeartbeats 4000000 in
theorem c_addWax {g : xG} {l : Launch} {S : List xS} {μ : xM} {b pl : Nat} {T r : Int → Int} {x v : Int} (hb : xStd S b pl) (hA : SA μ b pl T r) (hT : WT T) (hR : WR T r) (hx : 0 ≤ x ∧ x < T 0) (hv : -20 ≤ v ∧ v ≤ 20) : xCt g l yX4_addWax cX4_addWax 3 none 1 21 0 0 [vR g b, vI x, vI v] S μ S (xN (fun μ' => FrS b μ μ' ∧ St μ' b (waxBy r x v))) := by
  refine x_enter (by decide) (Nat.le_of_ble_eq_true rfl) ?_
  intro zp ze zs zm za zb zh zc hC hz0
  have t0 := hT.1
  have t1 := hT.2.1
  have t2 := hT.2.2.1
  have t3 := hT.2.2.2.1
  have q3 := hR.1 x (by omega) (by omega)
  refine x_aload_n (pc' := 1) hC dX4_addWax_0 rfl rfl ?_
  refine x_getR (pc' := 4) (b := pl) hC kf_X4_31 dX4_addWax_1 hb.1 rfl rfl ?_
  refine x_iload_n (pc' := 5) hC dX4_addWax_4 rfl rfl ?_
  refine x_callV (pc' := 8) (n := 1) hC (c_hasStep (T := T) hb.pl hA.1 ⟨hT.1, hT.2.1⟩ (by omega)) ky_X0_hasStep kv_X0_hasStep kl_X4_55 dX4_addWax_5 hb.2.2.2.2.2.1.1 rfl rfl rfl rfl ⟨Nat.le_of_ble_eq_true rfl, Nat.le_of_ble_eq_true rfl⟩ (Nat.le_of_ble_eq_true rfl) ⟨Nat.le_refl _, Nat.le_refl _⟩ (Or.inl rfl) rfl (x_kd ?_)
  refine x_ifb_eq (tgt := 34) (pc' := 11) hC dX4_addWax_8 (by decide) rfl (fun c8 => ?_) (fun c8 => ?_)
  · exact absurd hx c8
  · refine x_aload_n (pc' := 12) hC dX4_addWax_11 rfl rfl ?_
    refine x_getR (pc' := 15) (b := b + 1) hC kf_X4_9 dX4_addWax_12 hb.1 rfl rfl ?_
    refine x_iload_n (pc' := 16) hC dX4_addWax_15 rfl rfl ?_
    refine x_iconst (pc' := 17) hC dX4_addWax_16 rfl ?_
    refine x_bipush (pc' := 19) hC dX4_addWax_17 (by decide) rfl ?_
    refine x_aload_n (pc' := 20) hC dX4_addWax_19 rfl rfl ?_
    refine x_getR (pc' := 23) (b := b + 1) hC kf_X4_9 dX4_addWax_20 hb.1 rfl rfl ?_
    refine x_iload_n (pc' := 24) hC dX4_addWax_23 rfl rfl ?_
    refine x_iald (pc' := 25) hC dX4_addWax_24 hb.2.1 (by omega) (by decide) rfl ?_
    rw [hA.wx (by omega) (by omega)]
    refine x_iload_n (pc' := 26) hC dX4_addWax_25 rfl rfl ?_
    refine x_iadd (pc' := 27) hC dX4_addWax_26 rfl ?_
    refine x_mmin (pc' := 30) hC kl_X4_59 dX4_addWax_27 (by omega) (by omega) ⟨Nat.le_of_ble_eq_true rfl, Nat.le_of_ble_eq_true rfl⟩ (Nat.le_of_ble_eq_true rfl) ⟨Nat.le_refl _, Nat.le_refl _⟩ rfl ?_
    refine x_mmax (pc' := 33) hC kl_X4_65 dX4_addWax_30 (by omega) (by omega) ⟨Nat.le_of_ble_eq_true rfl, Nat.le_of_ble_eq_true rfl⟩ (Nat.le_of_ble_eq_true rfl) ⟨Nat.le_refl _, Nat.le_refl _⟩ rfl ?_
    refine x_iast (pc' := 34) hC dX4_addWax_33 hb.2.1 (by omega) (by omega) rfl ?_
    exact x_vret hC dX4_addWax_34 (xN.mk ⟨FrS.rf.u1, hA.2.2.wax (by omega) (by omega)⟩)
set_option maxRecDepth 100000 in
set_option maxHeartbeats 4000000 in
theorem c_howManyOn {g : xG} {l : Launch} {S : List xS} {μ : xM} {b pl : Nat} {T r : Int → Int} {x : Int} (hb : xStd S b pl) (hA : SA μ b pl T r) (hT : WT T) (hR : WR T r) (hx : -2147483648 ≤ x ∧ x < 2147483648) : xCt g l yX4_howManyOn cX4_howManyOn 4 (some .int) 0 0 0 0 [vR g b, vI x] S μ S (xI (fun a μ' => a = cnt r x (T 3).toNat ∧ μ' = μ)) := by
  refine x_enter (by decide) (Nat.le_of_ble_eq_true rfl) ?_
  intro zp ze zs zm za zb zh zc hC hz0
  have t0 := hT.1
  have t1 := hT.2.1
  have t2 := hT.2.2.1
  have t3 := hT.2.2.2.1
  have loop : ∀ (zn : Nat) (k : Nat) (n9 i : Int) (hn9 : n9 = cnt r x k) (hi : i = k) (hk : (k : Int) ≤ T 3), (T 3).toNat - k < zn → xX g 4 zp l ze { frames := 0, cells := 0, slots := 0, locals := 0 } zs zm za zb zh zc 0 0 (MQ zb (xQ g S (xI (fun a μ' => a = cnt r x (T 3).toNat ∧ μ' = μ))) za zs 0 0 (xA0 g)) S μ 4 [some (vR g b), some (vI x), some (vI n9), some (vI i)] [] := by
    intro zn
    induction zn with
    | zero => intros; rename_i hz; exact absurd hz (Nat.not_lt_zero _)
    | succ zn ih =>
      intro k n9 i hn9 hi hk hn
      subst hi
      refine x_iload_n (pc' := 5) hC dX4_howManyOn_4 rfl rfl ?_
      refine x_aload_n (pc' := 6) hC dX4_howManyOn_5 rfl rfl ?_
      refine x_getR (pc' := 9) (b := pl) hC kf_X4_31 dX4_howManyOn_6 hb.1 rfl rfl ?_
      refine x_getI (j' := 1) (pc' := 12) hC kf_X4_47 dX4_howManyOn_9 hb.2.2.2.2.2.1.1 rfl rfl rfl ?_
      rw [hA.mi]
      refine x_icmp_ge (tgt := 34) (pc' := 15) hC dX4_howManyOn_12 (by decide) rfl (by omega) (by omega) (fun c12 => ?_) (fun c12 => ?_)
      · refine x_iload_n (pc' := 35) hC dX4_howManyOn_34 rfl rfl ?_
        exact x_iret hC dX4_howManyOn_35 (xI.mk ⟨by rw [hn9, show (T 3).toNat = k by omega], rfl⟩)
      · have g2 := hR.2.1 k (by omega) (by omega)
        refine x_aload_n (pc' := 16) hC dX4_howManyOn_15 rfl rfl ?_
        refine x_getR (pc' := 19) (b := b + 2) hC kf_X4_15 dX4_howManyOn_16 hb.1 rfl rfl ?_
        refine x_iload_n (pc' := 20) hC dX4_howManyOn_19 rfl rfl ?_
        refine x_iald (pc' := 21) hC dX4_howManyOn_20 hb.2.2.1 (by omega) (by decide) rfl ?_
        rw [hA.pc (by omega) (by omega)]
        refine x_iload_n (pc' := 22) hC dX4_howManyOn_21 rfl rfl ?_
        refine x_icmp_ne (tgt := 28) (pc' := 25) hC dX4_howManyOn_22 (by decide) rfl (by omega) (by omega) (fun c22 => ?_) (fun c22 => ?_)
        · refine x_iinc (pc' := 31) hC dX4_howManyOn_28 rfl (by decide) rfl rfl ?_
          refine x_goto (tgt := 4) hC dX4_howManyOn_31 (by decide) ?_
          exact ih (k + 1) _ _ (by rw [cnt]; first | rw [if_pos c22, hn9] | rw [if_neg c22, hn9, Int.add_zero]) (by omega) (by omega) (by omega)
        · refine x_iinc (pc' := 28) hC dX4_howManyOn_25 rfl (by decide) rfl rfl ?_
          refine x_iinc (pc' := 31) hC dX4_howManyOn_28 rfl (by decide) rfl rfl ?_
          refine x_goto (tgt := 4) hC dX4_howManyOn_31 (by decide) ?_
          exact ih (k + 1) _ _ (by rw [cnt]; first | rw [if_pos c22, hn9] | rw [if_neg c22, hn9, Int.add_zero]) (by omega) (by omega) (by omega)
  refine x_iconst (pc' := 1) hC dX4_howManyOn_0 rfl ?_
  refine x_istore_n (pc' := 2) hC dX4_howManyOn_1 (by decide) rfl rfl ?_
  refine x_iconst (pc' := 3) hC dX4_howManyOn_2 rfl ?_
  refine x_istore_n (pc' := 4) hC dX4_howManyOn_3 (by decide) rfl rfl ?_
  exact loop ((T 3).toNat + 1) 0 _ _ rfl rfl (by omega) (by omega)
set_option maxRecDepth 100000 in
set_option maxHeartbeats 4000000 in
theorem c_allWax {g : xG} {l : Launch} {S : List xS} {μ : xM} {b pl : Nat} {T r : Int → Int} (hb : xStd S b pl) (hA : SA μ b pl T r) (hT : WT T) (hR : WR T r) : xCt g l yX4_allWax cX4_allWax 3 (some .int) 0 0 0 0 [vR g b] S μ S (xI (fun a μ' => a = sumW r (T 0).toNat ∧ μ' = μ)) := by
  refine x_enter (by decide) (Nat.le_of_ble_eq_true rfl) ?_
  intro zp ze zs zm za zb zh zc hC hz0
  have t0 := hT.1
  have t1 := hT.2.1
  have t2 := hT.2.2.1
  have t3 := hT.2.2.2.1
  have loop : ∀ (zn : Nat) (k : Nat) (n9 i : Int) (hn9 : n9 = sumW r k) (hi : i = k) (hk : (k : Int) ≤ T 0), (T 0).toNat - k < zn → xX g 3 zp l ze { frames := 0, cells := 0, slots := 0, locals := 0 } zs zm za zb zh zc 0 0 (MQ zb (xQ g S (xI (fun a μ' => a = sumW r (T 0).toNat ∧ μ' = μ))) za zs 0 0 (xA0 g)) S μ 4 [some (vR g b), some (vI n9), some (vI i)] [] := by
    intro zn
    induction zn with
    | zero => intros; rename_i hz; exact absurd hz (Nat.not_lt_zero _)
    | succ zn ih =>
      intro k n9 i hn9 hi hk hn
      subst hi
      refine x_iload_n (pc' := 5) hC dX4_allWax_4 rfl rfl ?_
      refine x_aload_n (pc' := 6) hC dX4_allWax_5 rfl rfl ?_
      refine x_getR (pc' := 9) (b := pl) hC kf_X4_31 dX4_allWax_6 hb.1 rfl rfl ?_
      refine x_getI (j' := 2) (pc' := 12) hC kf_X4_52 dX4_allWax_9 hb.2.2.2.2.2.1.1 rfl rfl rfl ?_
      rw [hA.sp]
      refine x_icmp_ge (tgt := 30) (pc' := 15) hC dX4_allWax_12 (by decide) rfl (by omega) (by omega) (fun c12 => ?_) (fun c12 => ?_)
      · refine x_iload_n (pc' := 31) hC dX4_allWax_30 rfl rfl ?_
        exact x_iret hC dX4_allWax_31 (xI.mk ⟨by rw [hn9, show (T 0).toNat = k by omega], rfl⟩)
      · refine x_iload_n (pc' := 16) hC dX4_allWax_15 rfl rfl ?_
        refine x_aload_n (pc' := 17) hC dX4_allWax_16 rfl rfl ?_
        refine x_getR (pc' := 20) (b := b + 1) hC kf_X4_9 dX4_allWax_17 hb.1 rfl rfl ?_
        refine x_iload_n (pc' := 21) hC dX4_allWax_20 rfl rfl ?_
        refine x_iald (pc' := 22) hC dX4_allWax_21 hb.2.1 (by omega) (by decide) rfl ?_
        rw [hA.wx (by omega) (by omega)]
        refine x_iadd (pc' := 23) hC dX4_allWax_22 rfl ?_
        refine x_istore_n (pc' := 24) hC dX4_allWax_23 (by decide) rfl rfl ?_
        refine x_iinc (pc' := 27) hC dX4_allWax_24 rfl (by decide) rfl rfl ?_
        refine x_goto (tgt := 4) hC dX4_allWax_27 (by decide) ?_
        exact ih (k + 1) _ _ (by rw [sumW, hn9]) (by omega) (by omega) (by omega)
  refine x_iconst (pc' := 1) hC dX4_allWax_0 rfl ?_
  refine x_istore_n (pc' := 2) hC dX4_allWax_1 (by decide) rfl rfl ?_
  refine x_iconst (pc' := 3) hC dX4_allWax_2 rfl ?_
  refine x_istore_n (pc' := 4) hC dX4_allWax_3 (by decide) rfl rfl ?_
  exact loop ((T 0).toNat + 1) 0 _ _ rfl rfl (by omega) (by omega)
set_option maxRecDepth 100000 in
set_option maxHeartbeats 4000000 in
theorem c_weightOfSet {g : xG} {l : Launch} {S : List xS} {μ : xM} {b pl : Nat} {T r : Int → Int} {z : Int} (hb : xStd S b pl) (hA : SA μ b pl T r) (hT : WT T) (hR : WR T r) : xCt g l yX4_weightOfSet cX4_weightOfSet 4 (some .int) 0 0 0 0 [vR g b, vI z] S μ S (xI (fun a μ' => a = wgt r z (T 3).toNat ∧ μ' = μ)) := by
  refine x_enter (by decide) (Nat.le_of_ble_eq_true rfl) ?_
  intro zp ze zs zm za zb zh zc hC hz0
  have t0 := hT.1
  have t1 := hT.2.1
  have t2 := hT.2.2.1
  have t3 := hT.2.2.2.1
  have loop : ∀ (zn : Nat) (k : Nat) (n9 i : Int) (hn9 : n9 = wgt r z k) (hi : i = k) (hk : (k : Int) ≤ T 3), (T 3).toNat - k < zn → xX g 4 zp l ze { frames := 0, cells := 0, slots := 0, locals := 0 } zs zm za zb zh zc 0 0 (MQ zb (xQ g S (xI (fun a μ' => a = wgt r z (T 3).toNat ∧ μ' = μ))) za zs 0 0 (xA0 g)) S μ 4 [some (vR g b), some (vI z), some (vI n9), some (vI i)] [] := by
    intro zn
    induction zn with
    | zero => intros; rename_i hz; exact absurd hz (Nat.not_lt_zero _)
    | succ zn ih =>
      intro k n9 i hn9 hi hk hn
      subst hi
      refine x_iload_n (pc' := 5) hC dX4_weightOfSet_4 rfl rfl ?_
      refine x_aload_n (pc' := 6) hC dX4_weightOfSet_5 rfl rfl ?_
      refine x_getR (pc' := 9) (b := pl) hC kf_X4_31 dX4_weightOfSet_6 hb.1 rfl rfl ?_
      refine x_getI (j' := 1) (pc' := 12) hC kf_X4_47 dX4_weightOfSet_9 hb.2.2.2.2.2.1.1 rfl rfl rfl ?_
      rw [hA.mi]
      refine x_icmp_ge (tgt := 41) (pc' := 15) hC dX4_weightOfSet_12 (by decide) rfl (by omega) (by omega) (fun c12 => ?_) (fun c12 => ?_)
      · refine x_iload_n (pc' := 42) hC dX4_weightOfSet_41 rfl rfl ?_
        exact x_iret hC dX4_weightOfSet_42 (xI.mk ⟨by rw [hn9, show (T 3).toNat = k by omega], rfl⟩)
      · refine x_iload_n (pc' := 16) hC dX4_weightOfSet_15 rfl rfl ?_
        refine x_iload_n (pc' := 17) hC dX4_weightOfSet_16 rfl rfl ?_
        refine x_ishr (pc' := 18) hC dX4_weightOfSet_17 rfl ?_
        refine x_iconst (pc' := 19) hC dX4_weightOfSet_18 rfl ?_
        refine x_iand (pc' := 20) hC dX4_weightOfSet_19 rfl ?_
        refine x_iconst (pc' := 21) hC dX4_weightOfSet_20 rfl ?_
        refine x_icmp_ne (tgt := 35) (pc' := 24) hC dX4_weightOfSet_21 (by decide) rfl (iAnd_rg _ _) (by omega) (fun c21 => ?_) (fun c21 => ?_)
        · refine x_iinc (pc' := 38) hC dX4_weightOfSet_35 rfl (by decide) rfl rfl ?_
          refine x_goto (tgt := 4) hC dX4_weightOfSet_38 (by decide) ?_
          exact ih (k + 1) _ _ (by rw [wgt]; first | rw [if_pos (by simpa [hsb] using c21), hn9] | rw [if_neg (by simpa [hsb] using c21), hn9, Int.add_zero]) (by omega) (by omega) (by omega)
        · refine x_iload_n (pc' := 25) hC dX4_weightOfSet_24 rfl rfl ?_
          refine x_aload_n (pc' := 26) hC dX4_weightOfSet_25 rfl rfl ?_
          refine x_getR (pc' := 29) (b := b + 2) hC kf_X4_15 dX4_weightOfSet_26 hb.1 rfl rfl ?_
          refine x_iload_n (pc' := 30) hC dX4_weightOfSet_29 rfl rfl ?_
          refine x_iald (pc' := 31) hC dX4_weightOfSet_30 hb.2.2.1 (by omega) (by decide) rfl ?_
          rw [hA.pc (by omega) (by omega)]
          refine x_iconst (pc' := 32) hC dX4_weightOfSet_31 rfl ?_
          refine x_iadd (pc' := 33) hC dX4_weightOfSet_32 rfl ?_
          refine x_iadd (pc' := 34) hC dX4_weightOfSet_33 rfl ?_
          refine x_istore_n (pc' := 35) hC dX4_weightOfSet_34 (by decide) rfl rfl ?_
          refine x_iinc (pc' := 38) hC dX4_weightOfSet_35 rfl (by decide) rfl rfl ?_
          refine x_goto (tgt := 4) hC dX4_weightOfSet_38 (by decide) ?_
          exact ih (k + 1) _ _ (by rw [wgt]; first | rw [if_pos (by simpa [hsb] using c21), hn9] | rw [if_neg (by simpa [hsb] using c21), hn9, Int.add_zero]) (by omega) (by omega) (by omega)
  refine x_iconst (pc' := 1) hC dX4_weightOfSet_0 rfl ?_
  refine x_istore_n (pc' := 2) hC dX4_weightOfSet_1 (by decide) rfl rfl ?_
  refine x_iconst (pc' := 3) hC dX4_weightOfSet_2 rfl ?_
  refine x_istore_n (pc' := 4) hC dX4_weightOfSet_3 (by decide) rfl rfl ?_
  exact loop ((T 3).toNat + 1) 0 _ _ rfl rfl (by omega) (by omega)
set_option maxRecDepth 100000 in
set_option maxHeartbeats 4000000 in
theorem c_slips {g : xG} {l : Launch} {S : List xS} {μ : xM} {b pl : Nat} {T r : Int → Int} {K : Nat} {m : Int} (hb : xStd S b pl) (hA : SA μ b pl T r) (hT : WT T) (hR : WR T r) (hm : 0 ≤ m ∧ m < T 3) (hK : m = K) : xCt g l yX4_slipsAtHisTurn cX4_slipsAtHisTurn 3 (some .boolean) 3 70 0 0 [vR g b, vI m] S μ S (xI (fun a μ' => a = (if 0 < lack T (goN T r K) m then 1 else 0) ∧ FrS b μ μ')) := by
  refine x_enter (by decide) (Nat.le_of_ble_eq_true rfl) ?_
  intro zp ze zs zm za zb zh zc hC hz0
  have t0 := hT.1
  have t1 := hT.2.1
  have t2 := hT.2.2.1
  have t3 := hT.2.2.2.1
  have loop : ∀ (zn : Nat) (k : Nat) (i : Int) (μ1 : xM) (hi : i = k) (hk : k ≤ K) (h1 : FrS b μ μ1) (h2 : St μ1 b (goN T r k)), K - k < zn → xX g 3 zp l ze { frames := 3, cells := 0, slots := 0, locals := 70 } zs zm za zb zh zc 0 0 (MQ zb (xQ g S (xI (fun a μ' => a = (if 0 < lack T (goN T r K) m then 1 else 0) ∧ FrS b μ μ'))) za zs 0 0 (xA0 g)) S μ1 2 [some (vR g b), some (vI m), some (vI i)] [] := by
    intro zn
    induction zn with
    | zero => intros; rename_i hz; exact absurd hz (Nat.not_lt_zero _)
    | succ zn ih =>
      intro k i μ1 hi hk h1 h2 hn
      subst hi
      have hA1 := hA.step hb.lt h1 h2
      have hR1 := WR_goN hT hR k (by omega)
      have q3 := lack_rg hT hR1 hm
      refine x_iload_n (pc' := 3) hC dX4_slipsAtHisTurn_2 rfl rfl ?_
      refine x_iload_n (pc' := 4) hC dX4_slipsAtHisTurn_3 rfl rfl ?_
      refine x_icmp_ge (tgt := 18) (pc' := 7) hC dX4_slipsAtHisTurn_4 (by decide) rfl (by omega) (by omega) (fun c4 => ?_) (fun c4 => ?_)
      · have ek : K = k := by omega
        subst ek
        refine x_aload_n (pc' := 19) hC dX4_slipsAtHisTurn_18 rfl rfl ?_
        refine x_iload_n (pc' := 20) hC dX4_slipsAtHisTurn_19 rfl rfl ?_
        refine x_callV (pc' := 23) (n := 1) hC (c_speedOf hb hA1 hT hR1 hm) ky_X4_speedOf kv_X4_speedOf kl_X4_79 dX4_slipsAtHisTurn_20 hb.1 rfl rfl rfl rfl ⟨Nat.le_of_ble_eq_true rfl, Nat.le_of_ble_eq_true rfl⟩ (Nat.le_of_ble_eq_true rfl) ⟨Nat.le_refl _, Nat.le_refl _⟩ (Or.inl rfl) rfl (x_kd ?_)
        refine x_if_le (tgt := 30) (pc' := 26) hC dX4_slipsAtHisTurn_23 (by decide) rfl (by omega) (fun c23 => ?_) (fun c23 => ?_)
        · refine x_iconst (pc' := 31) hC dX4_slipsAtHisTurn_30 rfl ?_
          exact x_zret hC dX4_slipsAtHisTurn_31 (by first | exact Or.inl rfl | exact Or.inr rfl | omega) (xI.mk ⟨by first | rw [if_pos (by omega)] | rw [if_neg (by omega)], h1⟩)
        · refine x_iconst (pc' := 27) hC dX4_slipsAtHisTurn_26 rfl ?_
          refine x_goto (tgt := 31) hC dX4_slipsAtHisTurn_27 (by decide) ?_
          exact x_zret hC dX4_slipsAtHisTurn_31 (by first | exact Or.inl rfl | exact Or.inr rfl | omega) (xI.mk ⟨by first | rw [if_pos (by omega)] | rw [if_neg (by omega)], h1⟩)
      · refine x_aload_n (pc' := 8) hC dX4_slipsAtHisTurn_7 rfl rfl ?_
        refine x_iload_n (pc' := 9) hC dX4_slipsAtHisTurn_8 rfl rfl ?_
        refine x_callV (pc' := 12) (n := 1) hC (c_takeTurn hb hA1 hT hR1 ⟨by omega, by omega⟩) ky_X4_takeTurn kv_X4_takeTurn kl_X4_71 dX4_slipsAtHisTurn_9 hb.1 rfl rfl rfl rfl ⟨Nat.le_of_ble_eq_true rfl, Nat.le_of_ble_eq_true rfl⟩ (Nat.le_of_ble_eq_true rfl) ⟨Nat.le_refl _, Nat.le_refl _⟩ (Or.inl rfl) rfl (x_kn (fun μ9 h9 => ?_))
        refine x_iinc (pc' := 15) hC dX4_slipsAtHisTurn_12 rfl (by decide) rfl rfl ?_
        refine x_goto (tgt := 2) hC dX4_slipsAtHisTurn_15 (by decide) ?_
        exact ih (k + 1) _ _ (by omega) (by omega) (h1.tr h9.1) (by rw [goN]; exact h9.2) (by omega)
  refine x_iconst (pc' := 1) hC dX4_slipsAtHisTurn_0 rfl ?_
  refine x_istore_n (pc' := 2) hC dX4_slipsAtHisTurn_1 (by decide) rfl rfl ?_
  exact loop (K + 1) 0 _ μ rfl (by omega) FrS.rf hA.2.2 (by omega)
set_option maxRecDepth 100000 in
set_option maxHeartbeats 4000000 in
theorem c_weather {g : xG} {l : Launch} {S : List xS} {μ : xM} {b pl : Nat} {T r : Int → Int} {d : Int} (hb : xStd S b pl) (hA : SA μ b pl T r) (hT : WT T) (hR : WR T r) (hd : 0 ≤ d ∧ d < 65536) : xCt g l yX4_weather cX4_weather 2 none 2 43 0 0 [vR g b, vI d] S μ S (xN (fun μ' => FrS b μ μ' ∧ St μ' b (weath T r d))) := by
  refine x_enter (by decide) (Nat.le_of_ble_eq_true rfl) ?_
  intro zp ze zs zm za zb zh zc hC hz0
  have t0 := hT.1
  have t1 := hT.2.1
  have t2 := hT.2.2.1
  have t3 := hT.2.2.2.1
  have z1 := Int.emod_nonneg d (show T 0 ≠ 0 by omega)
  have z2 := Int.emod_lt_of_pos d (show 0 < T 0 by omega)
  have z3 := Int.emod_nonneg (d / 32) (show T 0 ≠ 0 by omega)
  have z4 := Int.emod_lt_of_pos (d / 32) (show 0 < T 0 by omega)
  have cut : ∀ (r1 : Int → Int) (μ1 : xM) (e1 : r1 = if d / 16 % 2 = 0 then waxBy r (d % T 0) 1 else r) (h1 : FrS b μ μ1) (h2 : St μ1 b r1) (hR1 : WR T r1), xX g 2 zp l ze { frames := 2, cells := 0, slots := 0, locals := 43 } zs zm za zb zh zc 0 0 (MQ zb (xQ g S (xN (fun μ' => FrS b μ μ' ∧ St μ' b (weath T r d)))) za zs 0 0 (xA0 g)) S μ1 34 [some (vR g b), some (vI d)] [] := by
    intro r1 μ1 e1 h1 h2 hR1
    have hA1 := hA.step hb.lt h1 h2
    have e2 : weath T r d = if d / 512 % 3 = 0 then waxBy r1 (d / 32 % T 0) (-2) else r1 := by rw [e1]; rfl
    refine x_iload_n (pc' := 35) hC dX4_weather_34 rfl rfl ?_
    refine x_sipush (pc' := 38) hC dX4_weather_35 (by decide) rfl ?_
    refine x_idiv (pc' := 39) hC dX4_weather_38 (by omega) (by omega) rfl ?_
    rw [i_div (by omega) (by omega)]
    refine x_iconst (pc' := 40) hC dX4_weather_39 rfl ?_
    refine x_irem (pc' := 41) hC dX4_weather_40 (by omega) (by omega) rfl ?_
    rw [i_rem (by omega) (by omega)]
    refine x_if_ne (tgt := 62) (pc' := 44) hC dX4_weather_41 (by decide) rfl (by omega) (fun c41 => ?_) (fun c41 => ?_)
    · exact x_vret hC dX4_weather_62 (xN.mk (by rw [e2]; first | (rw [if_neg c41]; exact ⟨h1, h2⟩) | (rw [if_pos c41]; exact ⟨h1.tr h59.1, h59.2⟩)))
    · refine x_aload_n (pc' := 45) hC dX4_weather_44 rfl rfl ?_
      refine x_iload_n (pc' := 46) hC dX4_weather_45 rfl rfl ?_
      refine x_bipush (pc' := 48) hC dX4_weather_46 (by decide) rfl ?_
      refine x_idiv (pc' := 49) hC dX4_weather_48 (by omega) (by omega) rfl ?_
      rw [i_div (by omega) (by omega)]
      refine x_aload_n (pc' := 50) hC dX4_weather_49 rfl rfl ?_
      refine x_getR (pc' := 53) (b := pl) hC kf_X4_31 dX4_weather_50 hb.1 rfl rfl ?_
      refine x_getI (j' := 2) (pc' := 56) hC kf_X4_52 dX4_weather_53 hb.2.2.2.2.2.1.1 rfl rfl rfl ?_
      rw [hA1.sp]
      refine x_irem (pc' := 57) hC dX4_weather_56 (by omega) (by omega) rfl ?_
      rw [i_rem (by omega) (by omega)]
      refine x_bipush (pc' := 59) hC dX4_weather_57 (by decide) rfl ?_
      refine x_callV (pc' := 62) (n := 2) hC (c_addWax hb hA1 hT hR1 ⟨by omega, by omega⟩ (by omega)) ky_X4_addWax kv_X4_addWax kl_X4_99 dX4_weather_59 hb.1 rfl rfl rfl rfl ⟨Nat.le_of_ble_eq_true rfl, Nat.le_of_ble_eq_true rfl⟩ (Nat.le_of_ble_eq_true rfl) ⟨Nat.le_refl _, Nat.le_refl _⟩ (Or.inl rfl) rfl (x_kn (fun μ59 h59 => ?_))
      exact x_vret hC dX4_weather_62 (xN.mk (by rw [e2]; first | (rw [if_neg c41]; exact ⟨h1, h2⟩) | (rw [if_pos c41]; exact ⟨h1.tr h59.1, h59.2⟩)))
  refine x_aload_n (pc' := 1) hC dX4_weather_0 rfl rfl ?_
  refine x_getR (pc' := 4) (b := pl) hC kf_X4_31 dX4_weather_1 hb.1 rfl rfl ?_
  refine x_getI (j' := 2) (pc' := 7) hC kf_X4_52 dX4_weather_4 hb.2.2.2.2.2.1.1 rfl rfl rfl ?_
  rw [hA.sp]
  refine x_if_gt (tgt := 11) (pc' := 10) hC dX4_weather_7 (by decide) rfl (by omega) (fun c7 => ?_) (fun c7 => ?_)
  · refine x_iload_n (pc' := 12) hC dX4_weather_11 rfl rfl ?_
    refine x_bipush (pc' := 14) hC dX4_weather_12 (by decide) rfl ?_
    refine x_idiv (pc' := 15) hC dX4_weather_14 (by omega) (by omega) rfl ?_
    rw [i_div (by omega) (by omega)]
    refine x_iconst (pc' := 16) hC dX4_weather_15 rfl ?_
    refine x_irem (pc' := 17) hC dX4_weather_16 (by omega) (by omega) rfl ?_
    rw [i_rem (by omega) (by omega)]
    refine x_if_ne (tgt := 34) (pc' := 20) hC dX4_weather_17 (by decide) rfl (by omega) (fun c17 => ?_) (fun c17 => ?_)
    · first | exact cut _ _ (if_neg c17).symm FrS.rf hA.2.2 hR | exact cut _ _ (if_pos c17).symm h31.1 h31.2 (WR_waxBy hR (by omega) (by omega))
    · refine x_aload_n (pc' := 21) hC dX4_weather_20 rfl rfl ?_
      refine x_iload_n (pc' := 22) hC dX4_weather_21 rfl rfl ?_
      refine x_aload_n (pc' := 23) hC dX4_weather_22 rfl rfl ?_
      refine x_getR (pc' := 26) (b := pl) hC kf_X4_31 dX4_weather_23 hb.1 rfl rfl ?_
      refine x_getI (j' := 2) (pc' := 29) hC kf_X4_52 dX4_weather_26 hb.2.2.2.2.2.1.1 rfl rfl rfl ?_
      rw [hA.sp]
      refine x_irem (pc' := 30) hC dX4_weather_29 (by omega) (by omega) rfl ?_
      rw [i_rem (by omega) (by omega)]
      refine x_iconst (pc' := 31) hC dX4_weather_30 rfl ?_
      refine x_callV (pc' := 34) (n := 2) hC (c_addWax hb hA hT hR ⟨by omega, by omega⟩ (by omega)) ky_X4_addWax kv_X4_addWax kl_X4_99 dX4_weather_31 hb.1 rfl rfl rfl rfl ⟨Nat.le_of_ble_eq_true rfl, Nat.le_of_ble_eq_true rfl⟩ (Nat.le_of_ble_eq_true rfl) ⟨Nat.le_refl _, Nat.le_refl _⟩ (Or.inl rfl) rfl (x_kn (fun μ31 h31 => ?_))
      first | exact cut _ _ (if_neg c17).symm FrS.rf hA.2.2 hR | exact cut _ _ (if_pos c17).symm h31.1 h31.2 (WR_waxBy hR (by omega) (by omega))
  · exact absurd (show 0 < T 0 by omega) c7
set_option maxRecDepth 100000 in
set_option maxHeartbeats 4000000 in
theorem c_fill {g : xG} {l : Launch} {S : List xS} {μ : xM} {k n0 : Nat} {v : Int} (hk : S[k]? = some (sArr n0)) (hn : n0 < 100000) : xCt g l yJ7_fill_53178 cJ7_fill_53178 4 none 0 0 0 0 [vR g k, vI v] S μ S (xN (fun μ' => μ' = xFl μ k n0 v)) := by
  refine x_enter (by decide) (Nat.le_of_ble_eq_true rfl) ?_
  intro zp ze zs zm za zb zh zc hC hz0
  have loop : ∀ (zn : Nat) (j : Nat) (i : Int) (hi : i = j) (hj : j ≤ n0), n0 - j < zn → xX g 4 zp l ze { frames := 0, cells := 0, slots := 0, locals := 0 } zs zm za zb zh zc 0 0 (MQ zb (xQ g S (xN (fun μ' => μ' = xFl μ k n0 v))) za zs 0 0 (xA0 g)) S (xFl μ k j v) 5 [some (vR g k), some (vI v), some (vI i), some (vI n0)] [] := by
    intro zn
    induction zn with
    | zero => intros; rename_i hz; exact absurd hz (Nat.not_lt_zero _)
    | succ zn ih =>
      intro j i hi hj hn
      subst hi
      refine x_iload_n (pc' := 6) hC dJ7_fill_53178_5 rfl rfl ?_
      refine x_iload_n (pc' := 7) hC dJ7_fill_53178_6 rfl rfl ?_
      refine x_icmp_ge (tgt := 20) (pc' := 10) hC dJ7_fill_53178_7 (by decide) rfl (by omega) (by omega) (fun c7 => ?_) (fun c7 => ?_)
      · exact x_vret hC dJ7_fill_53178_20 (xN.mk (by rw [show j = n0 by omega]))
      · refine x_aload_n (pc' := 11) hC dJ7_fill_53178_10 rfl rfl ?_
        refine x_iload_n (pc' := 12) hC dJ7_fill_53178_11 rfl rfl ?_
        refine x_iload_n (pc' := 13) hC dJ7_fill_53178_12 rfl rfl ?_
        refine x_iast (pc' := 14) hC dJ7_fill_53178_13 hk (by omega) (by omega) rfl ?_
        refine x_iinc (pc' := 17) hC dJ7_fill_53178_14 rfl (by decide) rfl rfl ?_
        refine x_goto (tgt := 5) hC dJ7_fill_53178_17 (by decide) ?_
        rw [xFl_s (by omega)]
        exact ih (j + 1) _ (by omega) (by omega) (by omega)
  refine x_iconst (pc' := 1) hC dJ7_fill_53178_0 rfl ?_
  refine x_istore_n (pc' := 2) hC dJ7_fill_53178_1 (by decide) rfl rfl ?_
  refine x_aload_n (pc' := 3) hC dJ7_fill_53178_2 rfl rfl ?_
  refine x_alenI (n' := n0) (pc' := 4) hC dJ7_fill_53178_3 hk rfl rfl ?_
  refine x_istore_n (pc' := 5) hC dJ7_fill_53178_4 (by decide) rfl rfl ?_
  have z := loop (n0 + 1) 0 _ rfl (by omega) (by omega)
  rw [show xFl μ k ((0 : Nat) : Int) v = μ from xFl_0] at z
  exact z
set_option maxRecDepth 100000 in
set_option maxHeartbeats 4000000 in
theorem c_clearS {g : xG} {l : Launch} {S : List xS} {μ : xM} {b pl : Nat} (hb : xStd S b pl) : xCt g l yX4_clear cX4_clear 1 none 1 23 0 0 [vR g b] S μ S (xN (fun μ' => FrB b μ μ' ∧ St μ' b (fun k => if k = 1 then 20 else 0) ∧ ∀ j : Int, 0 ≤ j → j < 7 → μ' (b + 3) j = 0)) := by
  refine x_enter (by decide) (Nat.le_of_ble_eq_true rfl) ?_
  intro zp ze zs zm za zb zh zc hC hz0
  refine x_aload_n (pc' := 1) hC dX4_clear_0 rfl rfl ?_
  refine x_getR (pc' := 4) (b := b + 1) hC kf_X4_9 dX4_clear_1 hb.1 rfl rfl ?_
  refine x_iconst (pc' := 5) hC dX4_clear_4 rfl ?_
  refine x_callS (pc' := 8) (n := 2) hC (c_fill hb.2.1 (by decide)) ky_J7_fill_53178 ks_J7_fill_53178 kl_X4_35 dX4_clear_5 rfl rfl ⟨Nat.le_of_ble_eq_true rfl, Nat.le_of_ble_eq_true rfl⟩ (Nat.le_of_ble_eq_true rfl) ⟨Nat.le_refl _, Nat.le_refl _⟩ (Or.inl rfl) rfl (x_kdn ?_)
  refine x_aload_n (pc' := 9) hC dX4_clear_8 rfl rfl ?_
  refine x_getR (pc' := 12) (b := b + 2) hC kf_X4_15 dX4_clear_9 hb.1 rfl rfl ?_
  refine x_iconst (pc' := 13) hC dX4_clear_12 rfl ?_
  refine x_callS (pc' := 16) (n := 2) hC (c_fill hb.2.2.1 (by decide)) ky_J7_fill_53178 ks_J7_fill_53178 kl_X4_35 dX4_clear_13 rfl rfl ⟨Nat.le_of_ble_eq_true rfl, Nat.le_of_ble_eq_true rfl⟩ (Nat.le_of_ble_eq_true rfl) ⟨Nat.le_refl _, Nat.le_refl _⟩ (Or.inl rfl) rfl (x_kdn ?_)
  refine x_aload_n (pc' := 17) hC dX4_clear_16 rfl rfl ?_
  refine x_getR (pc' := 20) (b := b + 3) hC kf_X4_18 dX4_clear_17 hb.1 rfl rfl ?_
  refine x_iconst (pc' := 21) hC dX4_clear_20 rfl ?_
  refine x_callS (pc' := 24) (n := 2) hC (c_fill hb.2.2.2.1 (by decide)) ky_J7_fill_53178 ks_J7_fill_53178 kl_X4_35 dX4_clear_21 rfl rfl ⟨Nat.le_of_ble_eq_true rfl, Nat.le_of_ble_eq_true rfl⟩ (Nat.le_of_ble_eq_true rfl) ⟨Nat.le_refl _, Nat.le_refl _⟩ (Or.inl rfl) rfl (x_kdn ?_)
  refine x_aload_n (pc' := 25) hC dX4_clear_24 rfl rfl ?_
  refine x_getR (pc' := 28) (b := b + 4) hC kf_X4_21 dX4_clear_25 hb.1 rfl rfl ?_
  refine x_iconst (pc' := 29) hC dX4_clear_28 rfl ?_
  refine x_callS (pc' := 32) (n := 2) hC (c_fill hb.2.2.2.2.1 (by decide)) ky_J7_fill_53178 ks_J7_fill_53178 kl_X4_35 dX4_clear_29 rfl rfl ⟨Nat.le_of_ble_eq_true rfl, Nat.le_of_ble_eq_true rfl⟩ (Nat.le_of_ble_eq_true rfl) ⟨Nat.le_refl _, Nat.le_refl _⟩ (Or.inl rfl) rfl (x_kdn ?_)
  refine x_aload_n (pc' := 33) hC dX4_clear_32 rfl rfl ?_
  refine x_bipush (pc' := 35) hC dX4_clear_33 (by decide) rfl ?_
  refine x_putI (j' := 5) (pc' := 38) hC kf_X4_24 dX4_clear_35 hb.1 rfl rfl rfl rfl rfl ?_
  refine x_aload_n (pc' := 39) hC dX4_clear_38 rfl rfl ?_
  refine x_iconst (pc' := 40) hC dX4_clear_39 rfl ?_
  refine x_putI (j' := 6) (pc' := 43) hC kf_X4_28 dX4_clear_40 hb.1 rfl rfl rfl rfl rfl ?_
  exact x_vret hC dX4_clear_43 (xN.mk ⟨fun k j hk => by rw [xU_nk (by omega), xU_nk (by omega), xFl_ne (by omega), xFl_ne (by omega), xFl_ne (by omega), xFl_ne (by omega)], by
      refine ⟨⟨?_, ?_, fun j b1 b2 => ?_, fun j b1 b2 => ?_, fun j b1 b2 => ?_⟩, fun j b1 b2 => ?_⟩
      · rw [xU_at2]; rfl
      · rw [xU_nj (by omega), xU_at2]; rfl
      · rw [xU_nk (by omega), xU_nk (by omega), xFl_ne (by omega), xFl_ne (by omega), xFl_ne (by omega), xFl_at b1 (by omega)]; exact (if_neg (by omega)).symm
      · rw [xU_nk (by omega), xU_nk (by omega), xFl_ne (by omega), xFl_ne (by omega), xFl_at b1 (by omega)]; exact (if_neg (by omega)).symm
      · rw [xU_nk (by omega), xU_nk (by omega), xFl_at b1 (by omega)]; exact (if_neg (by omega)).symm
      · rw [xU_nk (by omega), xU_nk (by omega), xFl_ne (by omega), xFl_at b1 (by omega)]⟩)
