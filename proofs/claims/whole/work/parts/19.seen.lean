theorem allSet_rg {T : Int → Int} (hT : WT T) : 1 ≤ allSet T ∧ allSet T ≤ 127 := by
  have h1 := hT.2.2.1
  have h2 := hT.2.2.2.1
  unfold allSet
  have h3 := shl1_all (T 3).toNat (by omega)
  rw [show (((T 3).toNat : Nat) : Int) = T 3 by omega] at h3
  rw [h3]
  have h4 : (T 3).toNat = 1 ∨ (T 3).toNat = 2 ∨ (T 3).toNat = 3 ∨ (T 3).toNat = 4 ∨ (T 3).toNat = 5 ∨ (T 3).toNat = 6 ∨ (T 3).toNat = 7 := by omega
  rcases h4 with h | h | h | h | h | h | h <;> rw [h] <;> decide
theorem cabF_rg {T r : Int → Int} (z : 1 ≤ allSet T ∧ allSet T ≤ 127) : ∀ {k : Nat}, (k : Int) ≤ allSet T → 0 ≤ cabF T r (allSet T) k ∧ cabF T r (allSet T) k ≤ 127
  | 0, _ => by rw [cabF]; omega
  | k + 1, hk => by
    have := cabF_rg (r := r) z (k := k) (by omega)
    rw [cabF]
    split <;> omega
theorem wgt_rg {T r : Int → Int} {z : Int} (hT : WT T) (hR : WR T r) : ∀ k : Nat, (k : Int) ≤ T 3 → 0 ≤ wgt r z k ∧ wgt r z k ≤ 16 * k
  | 0, _ => by simp [wgt]
  | k + 1, hk => by
    have h1 := wgt_rg (z := z) hT hR k (by omega)
    have h2 := hR.2.1 k (by omega) (by omega)
    have h3 := hT.2.1
    rw [wgt]
    split <;> omega
set_option maxRecDepth 100000 in
set_option maxHeartbeats 4000000 in
theorem c_holdBy {g : xG} {l : Launch} {S : List xS} {μ : xM} {T r : Int → Int} {nt : Int} {tx : Int → Int} {un kp : List (Int → Int)} {sl : List (Int × Int)} {n x v : Int} (hP : xPre S) (hA : RC μ T r nt tx un kp sl) (hF : WF T r un kp) (hn9 : 1 ≤ n ∧ n ≤ 9) (hx9 : 0 ≤ x ∧ x < T 0) (hv9 : 0 ≤ v ∧ v ≤ 9) : xCt g l yX6_holdsBySand cX6_holdsBySand 6 (some .boolean) 4 91 0 0 [vR g 0, vI n, vI x, vI v] S μ S (xI (fun a μ' => a = (if holdB T r n v x = true then 1 else 0) ∧ FrI 19 24 μ μ')) := by
  refine x_enter (by decide) (Nat.le_of_ble_eq_true rfl) ?_
  intro zp ze zs zm za zb zh zc hC hz0
  have hT := hF.1
  have hR := hF.2.1.1
  have hy := hF.2.1.2
  have t0 := hT.1
  have t1 := hT.2.1
  have t2 := hT.2.2.1
  have t3 := hT.2.2.2.1
  have hN := hA.2.1
  have hm := hN.mi
  have hs := hN.sp
  have g8 := gov_in (T := T) (r := r) hT
  have loop : ∀ (zn : Nat) (k : Nat) (i : Int) (μ1 : xM) (r1 : Int → Int) (hi : i + k = n) (hi0 : 0 ≤ i) (h1 : FrI 19 24 μ μ1) (hA1 : SA μ1 19 12 T r1) (h3 : WR T r1) (h4 : holdsF T (gov T r) k r1 = holdB T r n v x), k < zn → xX g 6 zp l ze { frames := 4, cells := 0, slots := 0, locals := 91 } zs zm za zb zh zc 0 0 (MQ zb (xQ g S (xI (fun a μ' => a = (if holdB T r n v x = true then 1 else 0) ∧ FrI 19 24 μ μ'))) za zs 0 0 (xA0 g)) S μ1 35 [some (vR g 0), some (vI n), some (vI x), some (vI v), some (vI (gov T r)), some (vI i)] [] := by
    intro zn
    induction zn with
    | zero => intros; rename_i hz; exact absurd hz (Nat.not_lt_zero _)
    | succ zn ih =>
      intro k i μ1 r1 hi hi0 h1 hA1 h3 h4 hn
      have g9 := gov_in (T := T) (r := goYear T r1) hT
      refine x_iload (pc' := 37) hC dX6_holdsBySand_35 rfl rfl ?_
      refine x_iload_n (pc' := 38) hC dX6_holdsBySand_37 rfl rfl ?_
      refine x_icmp_ge (tgt := 68) (pc' := 41) hC dX6_holdsBySand_38 (by decide) rfl (by omega) (by omega) (fun c38 => ?_) (fun c38 => ?_)
      · refine x_iconst (pc' := 69) hC dX6_holdsBySand_68 rfl ?_
        exact x_zret hC dX6_holdsBySand_69 (by first | exact Or.inl rfl | exact Or.inr rfl | omega) (xI.mk (by first
      | (rw [← h4]; exact ⟨by rw [if_neg (by decide)], h1.tr h45.1.I⟩)
      | (rw [← h4, show k = 0 by omega]; exact ⟨by rw [holdsF, if_pos rfl], h1⟩)))
      · obtain ⟨k1, rfl⟩ : ∃ k1 : Nat, k = k1 + 1 := ⟨k - 1, by omega⟩
        rw [holdsF] at h4
        refine x_aload_n (pc' := 42) hC dX6_holdsBySand_41 rfl rfl ?_
        refine x_getR (pc' := 45) (b := 19) hC kf_X6_39 dX6_holdsBySand_42 (hP 0 _ rfl) rfl rfl ?_
        refine x_callV (pc' := 48) (n := 0) hC (c_oneYear (sTri hP) hA1 hT h3) ky_X4_oneYear kv_X4_oneYear kl_X6_162 dX6_holdsBySand_45 (hP 19 _ rfl) rfl rfl rfl rfl ⟨Nat.le_of_ble_eq_true rfl, Nat.le_of_ble_eq_true rfl⟩ (Nat.le_of_ble_eq_true rfl) ⟨Nat.le_refl _, Nat.le_refl _⟩ (Or.inl rfl) rfl (x_kn (fun μ45 h45 => ?_))
        refine x_aload_n (pc' := 49) hC dX6_holdsBySand_48 rfl rfl ?_
        refine x_getR (pc' := 52) (b := 19) hC kf_X6_39 dX6_holdsBySand_49 (hP 0 _ rfl) rfl rfl ?_
        refine x_callV (pc' := 55) (n := 0) hC (c_governor (T := T) (r := goYear T r1) (sTri hP) (hA1.step (by omega) h45.1 h45.2) hT (WR_goYear hT h3)) ky_X4_governor kv_X4_governor kl_X6_156 dX6_holdsBySand_52 (hP 19 _ rfl) rfl rfl rfl rfl ⟨Nat.le_of_ble_eq_true rfl, Nat.le_of_ble_eq_true rfl⟩ (Nat.le_of_ble_eq_true rfl) ⟨Nat.le_refl _, Nat.le_refl _⟩ (Or.inl rfl) rfl (x_kd ?_)
        refine x_iload (pc' := 57) hC dX6_holdsBySand_55 rfl rfl ?_
        refine x_icmp_eq (tgt := 62) (pc' := 60) hC dX6_holdsBySand_57 (by decide) rfl (by omega) (by omega) (fun c57 => ?_) (fun c57 => ?_)
        · rw [decide_eq_true c57, Bool.true_and] at h4
          refine x_iinc (pc' := 65) hC dX6_holdsBySand_62 rfl (by decide) rfl rfl ?_
          refine x_goto (tgt := 35) hC dX6_holdsBySand_65 (by decide) ?_
          exact ih k1 _ _ (goYear T r1) (by omega) (by omega) (h1.tr h45.1.I) (hA1.step (by omega) h45.1 h45.2) (WR_goYear hT h3) h4 (by omega)
        · rw [decide_eq_false c57, Bool.false_and] at h4
          refine x_iconst (pc' := 61) hC dX6_holdsBySand_60 rfl ?_
          exact x_zret hC dX6_holdsBySand_61 (by first | exact Or.inl rfl | exact Or.inr rfl | omega) (xI.mk (by first
      | (rw [← h4]; exact ⟨by rw [if_neg (by decide)], h1.tr h45.1.I⟩)
      | (rw [← h4, show k = 0 by omega]; exact ⟨by rw [holdsF, if_pos rfl], h1⟩)))
  refine x_aload_n (pc' := 1) hC dX6_holdsBySand_0 rfl rfl ?_
  refine x_getR (pc' := 4) (b := 14) hC kf_X6_35 dX6_holdsBySand_1 (hP 0 _ rfl) rfl rfl ?_
  refine x_callV (pc' := 7) (n := 0) hC (c_governor (sNow hP) hN hT hR) ky_X4_governor kv_X4_governor kl_X6_156 dX6_holdsBySand_4 (hP 14 _ rfl) rfl rfl rfl rfl ⟨Nat.le_of_ble_eq_true rfl, Nat.le_of_ble_eq_true rfl⟩ (Nat.le_of_ble_eq_true rfl) ⟨Nat.le_refl _, Nat.le_refl _⟩ (Or.inl rfl) rfl (x_kd ?_)
  refine x_istore (pc' := 9) hC dX6_holdsBySand_7 (by decide) rfl rfl ?_
  refine x_aload_n (pc' := 10) hC dX6_holdsBySand_9 rfl rfl ?_
  refine x_getR (pc' := 13) (b := 19) hC kf_X6_39 dX6_holdsBySand_10 (hP 0 _ rfl) rfl rfl ?_
  refine x_aload_n (pc' := 14) hC dX6_holdsBySand_13 rfl rfl ?_
  refine x_getR (pc' := 17) (b := 14) hC kf_X6_35 dX6_holdsBySand_14 (hP 0 _ rfl) rfl rfl ?_
  refine x_callV (pc' := 20) (n := 1) hC (c_copy (sTri hP) (sNow hP) (by omega) hN.2.2) ky_X4_copy kv_X4_copy kl_X6_159 dX6_holdsBySand_17 (hP 19 _ rfl) rfl rfl rfl rfl ⟨Nat.le_of_ble_eq_true rfl, Nat.le_of_ble_eq_true rfl⟩ (Nat.le_of_ble_eq_true rfl) ⟨Nat.le_refl _, Nat.le_refl _⟩ (Or.inl rfl) rfl (x_kn (fun μ17 h17 => ?_))
  refine x_aload_n (pc' := 21) hC dX6_holdsBySand_20 rfl rfl ?_
  refine x_getR (pc' := 24) (b := 19) hC kf_X6_39 dX6_holdsBySand_21 (hP 0 _ rfl) rfl rfl ?_
  refine x_iload_n (pc' := 25) hC dX6_holdsBySand_24 rfl rfl ?_
  refine x_bipush (pc' := 27) hC dX6_holdsBySand_25 (by decide) rfl ?_
  refine x_iload_n (pc' := 28) hC dX6_holdsBySand_27 rfl rfl ?_
  refine x_imul (pc' := 29) hC dX6_holdsBySand_28 rfl ?_
  refine x_callV (pc' := 32) (n := 2) hC (c_addWax (T := T) (r := r) (sTri hP) (xTrial hT hN h17) hT hR hx9 (by omega)) ky_X4_addWax kv_X4_addWax kl_X6_145 dX6_holdsBySand_29 (hP 19 _ rfl) rfl rfl rfl rfl ⟨Nat.le_of_ble_eq_true rfl, Nat.le_of_ble_eq_true rfl⟩ (Nat.le_of_ble_eq_true rfl) ⟨Nat.le_refl _, Nat.le_refl _⟩ (Or.inl rfl) rfl (x_kn (fun μ29 h29 => ?_))
  refine x_iconst (pc' := 33) hC dX6_holdsBySand_32 rfl ?_
  refine x_istore (pc' := 35) hC dX6_holdsBySand_33 (by decide) rfl rfl ?_
  exact loop (n.toNat + 1) n.toNat _ _ (waxBy r x (-2 * v)) (by omega) (by omega) (h17.1.I.tr h29.1.I) ((xTrial hT hN h17).step (by omega) h29.1 h29.2) (WR_waxBy hR (by omega) (by omega)) rfl (by omega)
set_option maxRecDepth 100000 in
set_option maxHeartbeats 4000000 in
theorem k_hold {g : xG} {l : Launch} {S : List xS} {μ : xM} {T r : Int → Int} {nt : Int} {tx : Int → Int} {un kp : List (Int → Int)} {sl : List (Int × Int)} {n w : Int} (hP : xPre S) (hA : RC μ T r nt tx un kp sl) (hF : WF T r un kp) (hn : -2147483648 ≤ n ∧ n < 2147483648) (hw : -2147483648 ≤ w ∧ w < 2147483648) : xCt g l yX6_hold cX6_hold 5 (some .int) 5 116 0 0 [vR g 0, vI n, vI w] S μ S (xI (fun a μ' => a = aHold T r n w ∧ RC μ' T r nt tx un kp sl ∧ FrI 0 81 μ μ')) := by
  refine x_enter (by decide) (Nat.le_of_ble_eq_true rfl) ?_
  intro zp ze zs zm za zb zh zc hC hz0
  have hT := hF.1
  have hR := hF.2.1.1
  have hy := hF.2.1.2
  have t0 := hT.1
  have t1 := hT.2.1
  have t2 := hT.2.2.1
  have t3 := hT.2.2.2.1
  have hN := hA.2.1
  have hm := hN.mi
  have hs := hN.sp
  have loop : ∀ (zn : Nat) (k : Nat) (v : Int) (μ1 : xM) (b2 : 1 ≤ n ∧ n ≤ 9) (b3 : 0 ≤ w ∧ w ≤ 1) (hv1 : v + k = 6) (hv2 : 1 ≤ v) (h1 : FrI 19 24 μ μ1) (h4 : pick (firstVX (holdB T r n) (T 0).toNat k v) w = aHold T r n w), k < zn → xX g 5 zp l ze { frames := 5, cells := 0, slots := 0, locals := 116 } zs zm za zb zh zc 0 0 (MQ zb (xQ g S (xI (fun a μ' => a = aHold T r n w ∧ RC μ' T r nt tx un kp sl ∧ FrI 0 81 μ μ'))) za zs 0 0 (xA0 g)) S μ1 44 [some (vR g 0), some (vI n), some (vI w), some (vI v), none] [] := by
    intro zn
    induction zn with
    | zero => intros; rename_i hz; exact absurd hz (Nat.not_lt_zero _)
    | succ zn ih9 =>
      intro k v μ1 b2 b3 hv1 hv2 h1 h4 hn
      have loop2 : ∀ (zn : Nat) (j : Nat) (x : Int) (μ2 : xM) (hx1 : x + j = T 0) (hx2 : 0 ≤ x) (h2 : FrI 19 24 μ μ2) (hv3 : v ≤ 5) (h5 : firstX (holdB T r n v) j x = firstX (holdB T r n v) (T 0).toNat 0), j < zn → xX g 5 zp l ze { frames := 5, cells := 0, slots := 0, locals := 116 } zs zm za zb zh zc 0 0 (MQ zb (xQ g S (xI (fun a μ' => a = aHold T r n w ∧ RC μ' T r nt tx un kp sl ∧ FrI 0 81 μ μ'))) za zs 0 0 (xA0 g)) S μ2 52 [some (vR g 0), some (vI n), some (vI w), some (vI v), some (vI x)] [] := by
        intro zn
        induction zn with
        | zero => intros; rename_i hz; exact absurd hz (Nat.not_lt_zero _)
        | succ zn ih =>
          intro j x μ2 hx1 hx2 h2 hv3 h5 hn
          obtain ⟨k1, rfl⟩ : ∃ k1 : Nat, k = k1 + 1 := ⟨k - 1, by omega⟩
          refine x_iload (pc' := 54) hC dX6_hold_52 rfl rfl ?_
          refine x_aload_n (pc' := 55) hC dX6_hold_54 rfl rfl ?_
          refine x_getR (pc' := 58) (b := 12) hC kf_X6_26 dX6_hold_55 (hP 0 _ rfl) rfl rfl ?_
          refine x_getI (j' := 2) (pc' := 61) hC kf_X6_175 dX6_hold_58 (hP 12 _ rfl) rfl rfl rfl ?_
          rw [(hA.scr h2 (by omega)).2.1.sp]
          refine x_icmp_ge (tgt := 92) (pc' := 64) hC dX6_hold_61 (by decide) rfl (by omega) (by omega) (fun c61 => ?_) (fun c61 => ?_)
          · have j0 : j = 0 := by omega
            subst j0
            rw [firstX] at h5
            rw [firstVX, if_pos h5.symm] at h4
            refine x_iinc (pc' := 95) hC dX6_hold_92 rfl (by decide) rfl rfl ?_
            refine x_goto (tgt := 44) hC dX6_hold_95 (by decide) ?_
            refine x_vs (vs' := [some (vR g 0), some (vI n), some (vI w), some (vI (v + 1)), none]) (by intro i v; match i with | 0 => exact id | 1 => exact id | 2 => exact id | 3 => exact id | 4 => (intro h; cases h) | i + 5 => (intro h; cases h)) ?_
            exact ih9 k1 _ _ b2 b3 (by omega) (by omega) h2 h4 (by omega)
          · obtain ⟨j1, rfl⟩ : ∃ j1 : Nat, j = j1 + 1 := ⟨j - 1, by omega⟩
            rw [firstX] at h5
            refine x_aload_n (pc' := 65) hC dX6_hold_64 rfl rfl ?_
            refine x_iload_n (pc' := 66) hC dX6_hold_65 rfl rfl ?_
            refine x_iload (pc' := 68) hC dX6_hold_66 rfl rfl ?_
            refine x_iload_n (pc' := 69) hC dX6_hold_68 rfl rfl ?_
            refine x_callV (pc' := 72) (n := 3) hC (c_holdBy hP (hA.scr h2 (by omega)) hF b2 ⟨by omega, by omega⟩ (by omega)) ky_X6_holdsBySand kv_X6_holdsBySand kl_X6_178 dX6_hold_69 (hP 0 _ rfl) rfl rfl rfl rfl ⟨Nat.le_of_ble_eq_true rfl, Nat.le_of_ble_eq_true rfl⟩ (Nat.le_of_ble_eq_true rfl) ⟨Nat.le_refl _, Nat.le_refl _⟩ (Or.inl rfl) rfl (x_kv (fun μ69 h69 => ?_))
            refine x_ifb_eq (tgt := 86) (pc' := 75) hC dX6_hold_72 (by decide) rfl (fun c72 => ?_) (fun c72 => ?_)
            · rw [if_neg c72] at h5
              refine x_iinc (pc' := 89) hC dX6_hold_86 rfl (by decide) rfl rfl ?_
              refine x_goto (tgt := 52) hC dX6_hold_89 (by decide) ?_
              exact ih j1 _ _ (by omega) (by omega) (h2.tr h69) (by omega) h5 (by omega)
            · rw [if_pos c72] at h5
              rw [firstVX, ← h5, if_neg (by omega)] at h4
              refine x_iload_n (pc' := 76) hC dX6_hold_75 rfl rfl ?_
              refine x_if_ne (tgt := 83) (pc' := 79) hC dX6_hold_76 (by decide) rfl (by omega) (fun c76 => ?_) (fun c76 => ?_)
              · refine x_iload (pc' := 85) hC dX6_hold_83 rfl rfl ?_
                exact x_iret hC dX6_hold_85 (xI.mk ⟨by rw [← h4]; unfold pick; rw [if_neg (by omega)]; first | rw [if_neg c76] | rw [if_pos (by omega)], hA.scr (h2.tr h69) (by omega), (h2.tr h69).mono (by omega) (by omega)⟩)
              · refine x_iload_n (pc' := 80) hC dX6_hold_79 rfl rfl ?_
                refine x_goto (tgt := 85) hC dX6_hold_80 (by decide) ?_
                exact x_iret hC dX6_hold_85 (xI.mk ⟨by rw [← h4]; unfold pick; rw [if_neg (by omega)]; first | rw [if_neg c76] | rw [if_pos (by omega)], hA.scr (h2.tr h69) (by omega), (h2.tr h69).mono (by omega) (by omega)⟩)
      refine x_iload_n (pc' := 45) hC dX6_hold_44 rfl rfl ?_
      refine x_iconst (pc' := 46) hC dX6_hold_45 rfl ?_
      refine x_icmp_gt (tgt := 98) (pc' := 49) hC dX6_hold_46 (by decide) rfl (by omega) (by omega) (fun c46 => ?_) (fun c46 => ?_)
      · refine x_bipush (pc' := 100) hC dX6_hold_98 (by decide) rfl ?_
        exact x_iret hC dX6_hold_100 (xI.mk ⟨by rw [← h4, show k = 0 by omega]; rfl, hA.scr h1 (by omega), h1.mono (by omega) (by omega)⟩)
      · refine x_iconst (pc' := 50) hC dX6_hold_49 rfl ?_
        refine x_istore (pc' := 52) hC dX6_hold_50 (by decide) rfl rfl ?_
        exact loop2 ((T 0).toNat + 1) (T 0).toNat _ _ (by omega) (by omega) h1 (by omega) rfl (by omega)
  refine x_iload_n (pc' := 1) hC dX6_hold_0 rfl rfl ?_
  refine x_iconst (pc' := 2) hC dX6_hold_1 rfl ?_
  refine x_bipush (pc' := 4) hC dX6_hold_2 (by decide) rfl ?_
  refine x_callS (pc' := 7) (n := 3) hC (c_within (by omega) (by omega) (by omega)) ky_X6_within ks_X6_within kl_X6_84 dX6_hold_4 rfl rfl ⟨Nat.le_of_ble_eq_true rfl, Nat.le_of_ble_eq_true rfl⟩ (Nat.le_of_ble_eq_true rfl) ⟨Nat.le_refl _, Nat.le_refl _⟩ (Or.inl rfl) rfl (x_kd ?_)
  refine x_ifb_eq (tgt := 19) (pc' := 10) hC dX6_hold_7 (by decide) rfl (fun c7 => ?_) (fun c7 => ?_)
  · refine x_iconst (pc' := 20) hC dX6_hold_19 rfl ?_
    exact x_iret hC dX6_hold_20 (xI.mk ⟨by unfold aHold; rw [if_neg (by omega)], hA, FrI.rf⟩)
  · refine x_iload_n (pc' := 11) hC dX6_hold_10 rfl rfl ?_
    refine x_iconst (pc' := 12) hC dX6_hold_11 rfl ?_
    refine x_iconst (pc' := 13) hC dX6_hold_12 rfl ?_
    refine x_callS (pc' := 16) (n := 3) hC (c_within (by omega) (by omega) (by omega)) ky_X6_within ks_X6_within kl_X6_84 dX6_hold_13 rfl rfl ⟨Nat.le_of_ble_eq_true rfl, Nat.le_of_ble_eq_true rfl⟩ (Nat.le_of_ble_eq_true rfl) ⟨Nat.le_refl _, Nat.le_refl _⟩ (Or.inl rfl) rfl (x_kd ?_)
    refine x_ifb_ne (tgt := 21) (pc' := 19) hC dX6_hold_16 (by decide) rfl (fun c16 => ?_) (fun c16 => ?_)
    · refine x_aload_n (pc' := 22) hC dX6_hold_21 rfl rfl ?_
      refine x_iload_n (pc' := 23) hC dX6_hold_22 rfl rfl ?_
      refine x_iconst (pc' := 24) hC dX6_hold_23 rfl ?_
      refine x_iconst (pc' := 25) hC dX6_hold_24 rfl ?_
      refine x_callV (pc' := 28) (n := 3) hC (c_holdBy hP hA hF c7 ⟨by omega, by omega⟩ (by omega)) ky_X6_holdsBySand kv_X6_holdsBySand kl_X6_178 dX6_hold_25 (hP 0 _ rfl) rfl rfl rfl rfl ⟨Nat.le_of_ble_eq_true rfl, Nat.le_of_ble_eq_true rfl⟩ (Nat.le_of_ble_eq_true rfl) ⟨Nat.le_refl _, Nat.le_refl _⟩ (Or.inl rfl) rfl (x_kv (fun μ25 h25 => ?_))
      refine x_ifb_eq (tgt := 42) (pc' := 31) hC dX6_hold_28 (by decide) rfl (fun c28 => ?_) (fun c28 => ?_)
      · refine x_iconst (pc' := 43) hC dX6_hold_42 rfl ?_
        refine x_istore_n (pc' := 44) hC dX6_hold_43 (by decide) rfl rfl ?_
        refine x_vs (vs' := [some (vR g 0), some (vI n), some (vI w), some (vI 1), none]) (by intro i v; match i with | 0 => exact id | 1 => exact id | 2 => exact id | 3 => exact id | 4 => (intro h; cases h) | i + 5 => (intro h; cases h)) ?_
        exact loop 6 5 _ _ c7 c16 (by omega) (by omega) h25 (by unfold aHold; rw [if_pos ⟨c7, c16⟩, if_neg c28]) (by omega)
      · refine x_iload_n (pc' := 32) hC dX6_hold_31 rfl rfl ?_
        refine x_if_ne (tgt := 39) (pc' := 35) hC dX6_hold_32 (by decide) rfl (by omega) (fun c32 => ?_) (fun c32 => ?_)
        · refine x_bipush (pc' := 41) hC dX6_hold_39 (by decide) rfl ?_
          exact x_iret hC dX6_hold_41 (xI.mk ⟨by unfold aHold; rw [if_pos ⟨c7, c16⟩, if_pos c28]; first | rw [if_neg c32] | rw [if_pos (by omega)], hA.scr h25 (by omega), h25.mono (by omega) (by omega)⟩)
        · refine x_iconst (pc' := 36) hC dX6_hold_35 rfl ?_
          refine x_goto (tgt := 41) hC dX6_hold_36 (by decide) ?_
          exact x_iret hC dX6_hold_41 (xI.mk ⟨by unfold aHold; rw [if_pos ⟨c7, c16⟩, if_pos c28]; first | rw [if_neg c32] | rw [if_pos (by omega)], hA.scr h25 (by omega), h25.mono (by omega) (by omega)⟩)
    · refine x_iconst (pc' := 20) hC dX6_hold_19 rfl ?_
      exact x_iret hC dX6_hold_20 (xI.mk ⟨by unfold aHold; rw [if_neg (by omega)], hA, FrI.rf⟩)
set_option maxRecDepth 100000 in
set_option maxHeartbeats 4000000 in
theorem c_cab {g : xG} {l : Launch} {S : List xS} {μ : xM} {T r : Int → Int} {nt : Int} {tx : Int → Int} {un kp : List (Int → Int)} {sl : List (Int × Int)} (hP : xPre S) (hA : RC μ T r nt tx un kp sl) (hF : WF T r un kp) : xCt g l yX6_smallestCabinet cX6_smallestCabinet 5 (some .int) 1 23 0 0 [vR g 0] S μ S (xI (fun a μ' => a = cab T r ∧ μ' = μ)) := by
  refine x_enter (by decide) (Nat.le_of_ble_eq_true rfl) ?_
  intro zp ze zs zm za zb zh zc hC hz0
  have hT := hF.1
  have hR := hF.2.1.1
  have hy := hF.2.1.2
  have t0 := hT.1
  have t1 := hT.2.1
  have t2 := hT.2.2.1
  have t3 := hT.2.2.2.1
  have hN := hA.2.1
  have hm := hN.mi
  have hs := hN.sp
  have z9 := allSet_rg hT
  have z8 : iShl 1 (T 3) - 1 = allSet T := rfl
  have loop : ∀ (zn : Nat) (k : Nat) (i be : Int) (hi : i = k) (hk : (k : Int) ≤ allSet T) (hbe : be = cabF T r (allSet T) k), (allSet T).toNat - k < zn → xX g 5 zp l ze { frames := 1, cells := 0, slots := 0, locals := 23 } zs zm za zb zh zc 0 0 (MQ zb (xQ g S (xI (fun a μ' => a = cab T r ∧ μ' = μ))) za zs 0 0 (xA0 g)) S μ 26 [some (vR g 0), some (vI (allSet T)), some (vI (wgt r (allSet T) (T 3).toNat)), some (vI be), some (vI i)] [] := by
    intro zn
    induction zn with
    | zero => intros; rename_i hz; exact absurd hz (Nat.not_lt_zero _)
    | succ zn ih =>
      intro k i be hi hk hbe hn
      subst hi
      have q1 := cabF_rg (T := T) (r := r) (k := k) z9 hk
      have q2 := bcF_pop (a := be) (by omega)
      have q3 := wgt_rg (z := (k : Int)) hT hR (T 3).toNat (by omega)
      have q4 := wgt_rg (z := allSet T) hT hR (T 3).toNat (by omega)
      refine x_iload (pc' := 28) hC dX6_smallestCabinet_26 rfl rfl ?_
      refine x_iload_n (pc' := 29) hC dX6_smallestCabinet_28 rfl rfl ?_
      refine x_icmp_ge (tgt := 68) (pc' := 32) hC dX6_smallestCabinet_29 (by decide) rfl (by omega) (by omega) (fun c29 => ?_) (fun c29 => ?_)
      · refine x_iload_n (pc' := 69) hC dX6_smallestCabinet_68 rfl rfl ?_
        exact x_iret hC dX6_smallestCabinet_69 (xI.mk ⟨by rw [hbe]; unfold cab; rw [show (allSet T).toNat = k by omega], rfl⟩)
      · have q5 := bcF_pop (a := (k : Int)) (by omega)
        refine x_iconst (pc' := 33) hC dX6_smallestCabinet_32 rfl ?_
        refine x_aload_n (pc' := 34) hC dX6_smallestCabinet_33 rfl rfl ?_
        refine x_getR (pc' := 37) (b := 14) hC kf_X6_35 dX6_smallestCabinet_34 (hP 0 _ rfl) rfl rfl ?_
        refine x_iload (pc' := 39) hC dX6_smallestCabinet_37 rfl rfl ?_
        refine x_callV (pc' := 42) (n := 1) hC (c_weightOfSet (sNow hP) hN hT hR) ky_X4_weightOfSet kv_X4_weightOfSet kl_X6_228 dX6_smallestCabinet_39 (hP 14 _ rfl) rfl rfl rfl rfl ⟨Nat.le_of_ble_eq_true rfl, Nat.le_of_ble_eq_true rfl⟩ (Nat.le_of_ble_eq_true rfl) ⟨Nat.le_refl _, Nat.le_refl _⟩ (Or.inl rfl) rfl (x_kd ?_)
        refine x_imul (pc' := 43) hC dX6_smallestCabinet_42 rfl ?_
        refine x_iload_n (pc' := 44) hC dX6_smallestCabinet_43 rfl rfl ?_
        refine x_icmp_le (tgt := 62) (pc' := 47) hC dX6_smallestCabinet_44 (by decide) rfl (by omega) (by omega) (fun c44 => ?_) (fun c44 => ?_)
        · refine x_iinc (pc' := 65) hC dX6_smallestCabinet_62 rfl (by decide) rfl rfl ?_
          refine x_goto (tgt := 26) hC dX6_smallestCabinet_65 (by decide) ?_
          exact ih (k + 1) _ _ (by omega) (by omega) (by rw [cabF]; subst hbe; first | rw [if_pos ⟨by omega, by omega⟩] | rw [if_neg (fun z => by omega)]) (by omega)
        · refine x_iload (pc' := 49) hC dX6_smallestCabinet_47 rfl rfl ?_
          refine x_callS (pc' := 52) (n := 1) hC (c_bitCount) ky_J6_bitCount_0f7a4 ks_J6_bitCount_0f7a4 kl_X6_184 dX6_smallestCabinet_49 rfl rfl ⟨Nat.le_of_ble_eq_true rfl, Nat.le_of_ble_eq_true rfl⟩ (Nat.le_of_ble_eq_true rfl) ⟨Nat.le_refl _, Nat.le_refl _⟩ (Or.inl rfl) rfl (x_kd ?_)
          refine x_iload_n (pc' := 53) hC dX6_smallestCabinet_52 rfl rfl ?_
          refine x_callS (pc' := 56) (n := 1) hC (c_bitCount) ky_J6_bitCount_0f7a4 ks_J6_bitCount_0f7a4 kl_X6_184 dX6_smallestCabinet_53 rfl rfl ⟨Nat.le_of_ble_eq_true rfl, Nat.le_of_ble_eq_true rfl⟩ (Nat.le_of_ble_eq_true rfl) ⟨Nat.le_refl _, Nat.le_refl _⟩ (Or.inl rfl) rfl (x_kd ?_)
          refine x_icmp_ge (tgt := 62) (pc' := 59) hC dX6_smallestCabinet_56 (by decide) rfl (by omega) (by omega) (fun c56 => ?_) (fun c56 => ?_)
          · refine x_iinc (pc' := 65) hC dX6_smallestCabinet_62 rfl (by decide) rfl rfl ?_
            refine x_goto (tgt := 26) hC dX6_smallestCabinet_65 (by decide) ?_
            exact ih (k + 1) _ _ (by omega) (by omega) (by rw [cabF]; subst hbe; first | rw [if_pos ⟨by omega, by omega⟩] | rw [if_neg (fun z => by omega)]) (by omega)
          · refine x_iload (pc' := 61) hC dX6_smallestCabinet_59 rfl rfl ?_
            refine x_istore_n (pc' := 62) hC dX6_smallestCabinet_61 (by decide) rfl rfl ?_
            refine x_iinc (pc' := 65) hC dX6_smallestCabinet_62 rfl (by decide) rfl rfl ?_
            refine x_goto (tgt := 26) hC dX6_smallestCabinet_65 (by decide) ?_
            exact ih (k + 1) _ _ (by omega) (by omega) (by rw [cabF]; subst hbe; first | rw [if_pos ⟨by omega, by omega⟩] | rw [if_neg (fun z => by omega)]) (by omega)
  refine x_iconst (pc' := 1) hC dX6_smallestCabinet_0 rfl ?_
  refine x_aload_n (pc' := 2) hC dX6_smallestCabinet_1 rfl rfl ?_
  refine x_getR (pc' := 5) (b := 12) hC kf_X6_26 dX6_smallestCabinet_2 (hP 0 _ rfl) rfl rfl ?_
  refine x_getI (j' := 1) (pc' := 8) hC kf_X6_92 dX6_smallestCabinet_5 (hP 12 _ rfl) rfl rfl rfl ?_
  rw [hm]
  refine x_ishl (pc' := 9) hC dX6_smallestCabinet_8 rfl ?_
  refine x_iconst (pc' := 10) hC dX6_smallestCabinet_9 rfl ?_
  refine x_isub (pc' := 11) hC dX6_smallestCabinet_10 rfl ?_
  rw [z8]
  refine x_istore_n (pc' := 12) hC dX6_smallestCabinet_11 (by decide) rfl rfl ?_
  refine x_aload_n (pc' := 13) hC dX6_smallestCabinet_12 rfl rfl ?_
  refine x_getR (pc' := 16) (b := 14) hC kf_X6_35 dX6_smallestCabinet_13 (hP 0 _ rfl) rfl rfl ?_
  refine x_iload_n (pc' := 17) hC dX6_smallestCabinet_16 rfl rfl ?_
  refine x_callV (pc' := 20) (n := 1) hC (c_weightOfSet (sNow hP) hN hT hR) ky_X4_weightOfSet kv_X4_weightOfSet kl_X6_228 dX6_smallestCabinet_17 (hP 14 _ rfl) rfl rfl rfl rfl ⟨Nat.le_of_ble_eq_true rfl, Nat.le_of_ble_eq_true rfl⟩ (Nat.le_of_ble_eq_true rfl) ⟨Nat.le_refl _, Nat.le_refl _⟩ (Or.inl rfl) rfl (x_kd ?_)
  refine x_istore_n (pc' := 21) hC dX6_smallestCabinet_20 (by decide) rfl rfl ?_
  refine x_iload_n (pc' := 22) hC dX6_smallestCabinet_21 rfl rfl ?_
  refine x_istore_n (pc' := 23) hC dX6_smallestCabinet_22 (by decide) rfl rfl ?_
  refine x_iconst (pc' := 24) hC dX6_smallestCabinet_23 rfl ?_
  refine x_istore (pc' := 26) hC dX6_smallestCabinet_24 (by decide) rfl rfl ?_
  exact loop ((allSet T).toNat + 1) 0 _ _ rfl (by omega) rfl (by omega)
set_option maxRecDepth 100000 in
set_option maxHeartbeats 4000000 in
theorem k_cabinet {g : xG} {l : Launch} {S : List xS} {μ : xM} {T r : Int → Int} {nt : Int} {tx : Int → Int} {un kp : List (Int → Int)} {sl : List (Int × Int)} {w : Int} (hP : xPre S) (hA : RC μ T r nt tx un kp sl) (hF : WF T r un kp) (hw : -2147483648 ≤ w ∧ w < 2147483648) : xCt g l yX6_cabinet cX6_cabinet 3 (some .int) 2 47 0 0 [vR g 0, vI w] S μ S (xI (fun a μ' => a = aCab T r w ∧ RC μ' T r nt tx un kp sl ∧ FrI 0 81 μ μ')) := by
  refine x_enter (by decide) (Nat.le_of_ble_eq_true rfl) ?_
  intro zp ze zs zm za zb zh zc hC hz0
  have hT := hF.1
  have hR := hF.2.1.1
  have hy := hF.2.1.2
  have t0 := hT.1
  have t1 := hT.2.1
  have t2 := hT.2.2.1
  have t3 := hT.2.2.2.1
  have hN := hA.2.1
  have hm := hN.mi
  have hs := hN.sp
  have z9 := allSet_rg hT
  have q1 := cabF_rg (T := T) (r := r) (k := (allSet T).toNat) z9 (by omega)
  have q2 : 0 ≤ cab T r ∧ cab T r ≤ 127 := q1
  refine x_iload_n (pc' := 1) hC dX6_cabinet_0 rfl rfl ?_
  refine x_iconst (pc' := 2) hC dX6_cabinet_1 rfl ?_
  refine x_iconst (pc' := 3) hC dX6_cabinet_2 rfl ?_
  refine x_callS (pc' := 6) (n := 3) hC (c_within (by omega) (by omega) (by omega)) ky_X6_within ks_X6_within kl_X6_84 dX6_cabinet_3 rfl rfl ⟨Nat.le_of_ble_eq_true rfl, Nat.le_of_ble_eq_true rfl⟩ (Nat.le_of_ble_eq_true rfl) ⟨Nat.le_refl _, Nat.le_refl _⟩ (Or.inl rfl) rfl (x_kd ?_)
  refine x_ifb_ne (tgt := 11) (pc' := 9) hC dX6_cabinet_6 (by decide) rfl (fun c6 => ?_) (fun c6 => ?_)
  · refine x_aload_n (pc' := 12) hC dX6_cabinet_11 rfl rfl ?_
    refine x_callV (pc' := 15) (n := 0) hC (c_cab hP hA hF) ky_X6_smallestCabinet kv_X6_smallestCabinet kl_X6_181 dX6_cabinet_12 (hP 0 _ rfl) rfl rfl rfl rfl ⟨Nat.le_of_ble_eq_true rfl, Nat.le_of_ble_eq_true rfl⟩ (Nat.le_of_ble_eq_true rfl) ⟨Nat.le_refl _, Nat.le_refl _⟩ (Or.inl rfl) rfl (x_kd ?_)
    refine x_istore_n (pc' := 16) hC dX6_cabinet_15 (by decide) rfl rfl ?_
    refine x_iload_n (pc' := 17) hC dX6_cabinet_16 rfl rfl ?_
    refine x_if_ne (tgt := 27) (pc' := 20) hC dX6_cabinet_17 (by decide) rfl (by omega) (fun c17 => ?_) (fun c17 => ?_)
    · refine x_iload_n (pc' := 28) hC dX6_cabinet_27 rfl rfl ?_
      exact x_iret hC dX6_cabinet_28 (xI.mk ⟨by unfold aCab; rw [if_pos c6]; first | rw [if_neg c17] | rw [if_pos (by omega), (bcF_pop (by omega)).1], hA, FrI.rf⟩)
    · refine x_iload_n (pc' := 21) hC dX6_cabinet_20 rfl rfl ?_
      refine x_callS (pc' := 24) (n := 1) hC (c_bitCount) ky_J6_bitCount_0f7a4 ks_J6_bitCount_0f7a4 kl_X6_184 dX6_cabinet_21 rfl rfl ⟨Nat.le_of_ble_eq_true rfl, Nat.le_of_ble_eq_true rfl⟩ (Nat.le_of_ble_eq_true rfl) ⟨Nat.le_refl _, Nat.le_refl _⟩ (Or.inl rfl) rfl (x_kd ?_)
      refine x_goto (tgt := 28) hC dX6_cabinet_24 (by decide) ?_
      exact x_iret hC dX6_cabinet_28 (xI.mk ⟨by unfold aCab; rw [if_pos c6]; first | rw [if_neg c17] | rw [if_pos (by omega), (bcF_pop (by omega)).1], hA, FrI.rf⟩)
  · refine x_iconst (pc' := 10) hC dX6_cabinet_9 rfl ?_
    exact x_iret hC dX6_cabinet_10 (xI.mk ⟨by unfold aCab; rw [if_neg (by omega)], hA, FrI.rf⟩)
set_option maxRecDepth 100000 in
set_option maxHeartbeats 4000000 in
theorem k_seen {g : xG} {l : Launch} {S : List xS} {μ : xM} {T r : Int → Int} {nt : Int} {tx : Int → Int} {un kp : List (Int → Int)} {sl : List (Int × Int)} {m x : Int} (hP : xPre S) (hA : RC μ T r nt tx un kp sl) (hF : WF T r un kp) (hm : -2147483648 ≤ m ∧ m < 2147483648) (hx : -2147483648 ≤ x ∧ x < 2147483648) : xCt g l yX6_seen cX6_seen 3 (some .int) 1 22 0 0 [vR g 0, vI m, vI x] S μ S (xI (fun a μ' => a = aSeen T sl m x ∧ (okSeen T sl m x → RC μ' T r nt tx un kp (sl ++ [(m, x)])) ∧ (¬ okSeen T sl m x → RC μ' T r nt tx un kp sl) ∧ FrI 0 81 μ μ')) := by
  refine x_enter (by decide) (Nat.le_of_ble_eq_true rfl) ?_
  intro zp ze zs zm za zb zh zc hC hz0
  have hT := hF.1
  have hR := hF.2.1.1
  have hy := hF.2.1.2
  have t0 := hT.1
  have t1 := hT.2.1
  have t2 := hT.2.2.1
  have t3 := hT.2.2.2.1
  have hN := hA.2.1
  have hm := hN.mi
  have hs := hN.sp
  refine x_aload_n (pc' := 1) hC dX6_seen_0 rfl rfl ?_
  refine x_getR (pc' := 4) (b := 12) hC kf_X6_26 dX6_seen_1 (hP 0 _ rfl) rfl rfl ?_
  refine x_iload_n (pc' := 5) hC dX6_seen_4 rfl rfl ?_
  refine x_callV (pc' := 8) (n := 1) hC (c_hasMinister (T := T) (sPl hP) hN.1 hT (by omega)) ky_X0_hasMinister kv_X0_hasMinister kl_X6_95 dX6_seen_5 (hP 12 _ rfl) rfl rfl rfl rfl ⟨Nat.le_of_ble_eq_true rfl, Nat.le_of_ble_eq_true rfl⟩ (Nat.le_of_ble_eq_true rfl) ⟨Nat.le_refl _, Nat.le_refl _⟩ (Or.inl rfl) rfl (x_kd ?_)
  refine x_ifb_eq (tgt := 22) (pc' := 11) hC dX6_seen_8 (by decide) rfl (fun c8 => ?_) (fun c8 => ?_)
  · refine x_iconst (pc' := 23) hC dX6_seen_22 rfl ?_
    exact x_iret hC dX6_seen_23 (xI.mk ⟨by unfold aSeen; rw [if_neg (by omega)], fun z => absurd z.1 (by omega), fun _ => hA, FrI.rf⟩)
  · refine x_aload_n (pc' := 12) hC dX6_seen_11 rfl rfl ?_
    refine x_getR (pc' := 15) (b := 12) hC kf_X6_26 dX6_seen_12 (hP 0 _ rfl) rfl rfl ?_
    refine x_iload_n (pc' := 16) hC dX6_seen_15 rfl rfl ?_
    refine x_callV (pc' := 19) (n := 1) hC (c_hasStep (T := T) (sPl hP) hN.1 ⟨hT.1, hT.2.1⟩ (by omega)) ky_X0_hasStep kv_X0_hasStep kl_X6_116 dX6_seen_16 (hP 12 _ rfl) rfl rfl rfl rfl ⟨Nat.le_of_ble_eq_true rfl, Nat.le_of_ble_eq_true rfl⟩ (Nat.le_of_ble_eq_true rfl) ⟨Nat.le_refl _, Nat.le_refl _⟩ (Or.inl rfl) rfl (x_kd ?_)
    refine x_ifb_ne (tgt := 24) (pc' := 22) hC dX6_seen_19 (by decide) rfl (fun c19 => ?_) (fun c19 => ?_)
    · refine x_aload_n (pc' := 25) hC dX6_seen_24 rfl rfl ?_
      refine x_getR (pc' := 28) (b := 78) hC kf_X6_57 dX6_seen_25 (hP 0 _ rfl) rfl rfl ?_
      refine x_iload_n (pc' := 29) hC dX6_seen_28 rfl rfl ?_
      refine x_iload_n (pc' := 30) hC dX6_seen_29 rfl rfl ?_
      refine x_callV (pc' := 33) (n := 2) hC (c_seenAdd hP hA.2.2.2.2 c8 c19) ky_X3_add kv_X3_add kl_X6_189 dX6_seen_30 (hP 78 _ rfl) rfl rfl rfl rfl ⟨Nat.le_of_ble_eq_true rfl, Nat.le_of_ble_eq_true rfl⟩ (Nat.le_of_ble_eq_true rfl) ⟨Nat.le_refl _, Nat.le_refl _⟩ (Or.inl rfl) rfl (x_kv (fun μ30 h30 => ?_))
      refine x_ifb_eq (tgt := 46) (pc' := 36) hC dX6_seen_33 (by decide) rfl (fun c33 => ?_) (fun c33 => ?_)
      · refine x_bipush (pc' := 48) hC dX6_seen_46 (by decide) rfl ?_
        exact x_iret hC dX6_seen_48 (xI.mk (by first
      | (refine ⟨by unfold aSeen; rw [if_pos ⟨c8, c19⟩, if_pos c33]; simp, fun _ => ⟨hA.1.frI h30.1 (by omega), hN.frI h30.1 (by omega) (by omega), hA.2.2.1.frI (Or.inr rfl) h30.1 (by omega), hA.2.2.2.1.frI (Or.inl rfl) h30.1 (by omega), h30.2.1 c33⟩, fun z => absurd ⟨⟨c8, c19⟩, c33⟩ z, h30.1.mono (by omega) (by omega)⟩)
      | (refine ⟨by unfold aSeen; rw [if_pos ⟨c8, c19⟩, if_neg c33], fun z => absurd z.2 c33, fun _ => by rw [h30.2.2 c33]; exact hA, h30.1.mono (by omega) (by omega)⟩)))
      · refine x_aload_n (pc' := 37) hC dX6_seen_36 rfl rfl ?_
        refine x_getR (pc' := 40) (b := 78) hC kf_X6_57 dX6_seen_37 (hP 0 _ rfl) rfl rfl ?_
        refine x_getI (j' := 2) (pc' := 43) hC kf_X6_192 dX6_seen_40 (hP 78 _ rfl) rfl rfl rfl ?_
        rw [(h30.2.1 c33).1]
        refine x_goto (tgt := 48) hC dX6_seen_43 (by decide) ?_
        exact x_iret hC dX6_seen_48 (xI.mk (by first
      | (refine ⟨by unfold aSeen; rw [if_pos ⟨c8, c19⟩, if_pos c33]; simp, fun _ => ⟨hA.1.frI h30.1 (by omega), hN.frI h30.1 (by omega) (by omega), hA.2.2.1.frI (Or.inr rfl) h30.1 (by omega), hA.2.2.2.1.frI (Or.inl rfl) h30.1 (by omega), h30.2.1 c33⟩, fun z => absurd ⟨⟨c8, c19⟩, c33⟩ z, h30.1.mono (by omega) (by omega)⟩)
      | (refine ⟨by unfold aSeen; rw [if_pos ⟨c8, c19⟩, if_neg c33], fun z => absurd z.2 c33, fun _ => by rw [h30.2.2 c33]; exact hA, h30.1.mono (by omega) (by omega)⟩)))
    · refine x_iconst (pc' := 23) hC dX6_seen_22 rfl ?_
      exact x_iret hC dX6_seen_23 (xI.mk ⟨by unfold aSeen; rw [if_neg (by omega)], fun z => absurd z.1 (by omega), fun _ => hA, FrI.rf⟩)
set_option maxRecDepth 100000 in
set_option maxHeartbeats 4000000 in
theorem k_forget {g : xG} {l : Launch} {S : List xS} {μ : xM} {T r : Int → Int} {nt : Int} {tx : Int → Int} {un kp : List (Int → Int)} {sl : List (Int × Int)} (hP : xPre S) (hA : RC μ T r nt tx un kp sl) (hF : WF T r un kp) : xCt g l yX6_forget cX6_forget 2 (some .int) 0 0 0 0 [vR g 0] S μ S (xI (fun a μ' => a = sl.length ∧ RC μ' T r nt tx un kp [] ∧ FrI 0 81 μ μ')) := by
  refine x_enter (by decide) (Nat.le_of_ble_eq_true rfl) ?_
  intro zp ze zs zm za zb zh zc hC hz0
  have hT := hF.1
  have hR := hF.2.1.1
  have hy := hF.2.1.2
  have t0 := hT.1
  have t1 := hT.2.1
  have t2 := hT.2.2.1
  have t3 := hT.2.2.2.1
  have hN := hA.2.1
  have hm := hN.mi
  have hs := hN.sp
  refine x_aload_n (pc' := 1) hC dX6_forget_0 rfl rfl ?_
  refine x_getR (pc' := 4) (b := 78) hC kf_X6_57 dX6_forget_1 (hP 0 _ rfl) rfl rfl ?_
  refine x_getI (j' := 2) (pc' := 7) hC kf_X6_192 dX6_forget_4 (hP 78 _ rfl) rfl rfl rfl ?_
  rw [hA.2.2.2.2.1]
  refine x_istore_n (pc' := 8) hC dX6_forget_7 (by decide) rfl rfl ?_
  refine x_aload_n (pc' := 9) hC dX6_forget_8 rfl rfl ?_
  refine x_getR (pc' := 12) (b := 78) hC kf_X6_57 dX6_forget_9 (hP 0 _ rfl) rfl rfl ?_
  refine x_iconst (pc' := 13) hC dX6_forget_12 rfl ?_
  refine x_putI (j' := 2) (pc' := 16) hC kf_X6_192 dX6_forget_13 (hP 78 _ rfl) rfl rfl rfl rfl rfl ?_
  refine x_iload_n (pc' := 17) hC dX6_forget_16 rfl rfl ?_
  exact x_iret hC dX6_forget_17 (xI.mk ⟨rfl, ⟨hA.1.frI (lo := 78) (hi := 79) (FrI.rf.u (by omega)) (by omega), hN.frI (lo := 78) (hi := 79) (FrI.rf.u (by omega)) (by omega) (by omega), hA.2.2.1.frI (lo := 78) (hi := 79) (Or.inr rfl) (FrI.rf.u (by omega)) (by omega), hA.2.2.2.1.frI (lo := 78) (hi := 79) (Or.inl rfl) (FrI.rf.u (by omega)) (by omega), ⟨xU_at2, by simp, fun i q hq => by simp at hq⟩⟩, FrI.rf.u (by omega)⟩)
set_option maxRecDepth 100000 in
set_option maxHeartbeats 4000000 in
theorem c_bit {g : xG} {l : Launch} {S : List xS} {μ : xM} {T T2 r2 : Int → Int} {sl : List (Int × Int)} {v : Int} (hP : xPre S) (hG : Sg μ T sl) (hA2 : SA μ 19 12 T2 r2) (hT2 : WT T2) (hR2 : WR T2 r2) (hq : T2 0 = T 0 ∧ T2 3 = T 3) : xCt g l yX6_bitIfSeen cX6_bitIfSeen 2 (some .int) 4 91 0 0 [vR g 0, vI v] S μ S (xI (fun a μ' => a = (if seenB (goYear T2 r2) sl = true then iShl 1 v else 0) ∧ FrI 19 24 μ μ')) := by
  refine x_enter (by decide) (Nat.le_of_ble_eq_true rfl) ?_
  intro zp ze zs zm za zb zh zc hC hz0
  refine x_aload_n (pc' := 1) hC dX6_bitIfSeen_0 rfl rfl ?_
  refine x_getR (pc' := 4) (b := 19) hC kf_X6_39 dX6_bitIfSeen_1 (hP 0 _ rfl) rfl rfl ?_
  refine x_callV (pc' := 7) (n := 0) hC (c_oneYear (sTri hP) hA2 hT2 hR2) ky_X4_oneYear kv_X4_oneYear kl_X6_162 dX6_bitIfSeen_4 (hP 19 _ rfl) rfl rfl rfl rfl ⟨Nat.le_of_ble_eq_true rfl, Nat.le_of_ble_eq_true rfl⟩ (Nat.le_of_ble_eq_true rfl) ⟨Nat.le_refl _, Nat.le_refl _⟩ (Or.inl rfl) rfl (x_kn (fun μ4 h4 => ?_))
  refine x_aload_n (pc' := 8) hC dX6_bitIfSeen_7 rfl rfl ?_
  refine x_getR (pc' := 11) (b := 78) hC kf_X6_57 dX6_bitIfSeen_8 (hP 0 _ rfl) rfl rfl ?_
  refine x_aload_n (pc' := 12) hC dX6_bitIfSeen_11 rfl rfl ?_
  refine x_getR (pc' := 15) (b := 19) hC kf_X6_39 dX6_bitIfSeen_12 (hP 0 _ rfl) rfl rfl ?_
  refine x_callV (pc' := 18) (n := 1) hC (c_allHold (T := T2) (r := goYear T2 r2) hP (sTri hP) hT2 (WR_goYear hT2 hR2) ⟨by rw [h4.1.I _ _ (by omega)]; exact hG.1, hG.2.1, fun i q hi => by rw [h4.1.I _ _ (by omega), h4.1.I _ _ (by omega), hq.1, hq.2]; exact hG.2.2 i q hi⟩ h4.2) ky_X3_allHoldIn kv_X3_allHoldIn kl_X6_231 dX6_bitIfSeen_15 (hP 78 _ rfl) rfl rfl rfl rfl ⟨Nat.le_of_ble_eq_true rfl, Nat.le_of_ble_eq_true rfl⟩ (Nat.le_of_ble_eq_true rfl) ⟨Nat.le_refl _, Nat.le_refl _⟩ (Or.inl rfl) rfl (x_kd ?_)
  refine x_ifb_eq (tgt := 27) (pc' := 21) hC dX6_bitIfSeen_18 (by decide) rfl (fun c18 => ?_) (fun c18 => ?_)
  · refine x_iconst (pc' := 28) hC dX6_bitIfSeen_27 rfl ?_
    exact x_iret hC dX6_bitIfSeen_28 (xI.mk ⟨by unfold seenB; first | rw [if_pos (decide_eq_true c18)] | rw [if_neg (by simp only [decide_eq_true_eq]; exact c18)], h4.1.I⟩)
  · refine x_iconst (pc' := 22) hC dX6_bitIfSeen_21 rfl ?_
    refine x_iload_n (pc' := 23) hC dX6_bitIfSeen_22 rfl rfl ?_
    refine x_ishl (pc' := 24) hC dX6_bitIfSeen_23 rfl ?_
    refine x_goto (tgt := 28) hC dX6_bitIfSeen_24 (by decide) ?_
    exact x_iret hC dX6_bitIfSeen_28 (xI.mk ⟨by unfold seenB; first | rw [if_pos (decide_eq_true c18)] | rw [if_neg (by simp only [decide_eq_true_eq]; exact c18)], h4.1.I⟩)
set_option maxRecDepth 100000 in
set_option maxHeartbeats 4000000 in
theorem k_waxes {g : xG} {l : Launch} {S : List xS} {μ : xM} {T r : Int → Int} {nt : Int} {tx : Int → Int} {un kp : List (Int → Int)} {sl : List (Int × Int)} {x : Int} (hP : xPre S) (hA : RC μ T r nt tx un kp sl) (hF : WF T r un kp) (hx : -2147483648 ≤ x ∧ x < 2147483648) : xCt g l yX6_waxes cX6_waxes 4 (some .int) 5 112 0 0 [vR g 0, vI x] S μ S (xI (fun a μ' => a = aWaxes T r sl x ∧ RC μ' T r nt tx un kp sl ∧ FrI 0 81 μ μ')) := by
  refine x_enter (by decide) (Nat.le_of_ble_eq_true rfl) ?_
  intro zp ze zs zm za zb zh zc hC hz0
  have hT := hF.1
  have hR := hF.2.1.1
  have hy := hF.2.1.2
  have t0 := hT.1
  have t1 := hT.2.1
  have t2 := hT.2.2.1
  have t3 := hT.2.2.2.1
  have hN := hA.2.1
  have hm := hN.mi
  have hs := hN.sp
  have loop : ∀ (zn : Nat) (k : Nat) (i bi : Int) (μ1 : xM) (c8 : 0 ≤ x ∧ x < T 0) (hi : i = k) (hk : k ≤ 10) (hbi : bi = bitsF (fun w => seenB (goYear T (up r (2 + x) w)) sl) k) (h1 : FrI 19 24 μ μ1), 10 - k < zn → xX g 4 zp l ze { frames := 5, cells := 0, slots := 0, locals := 112 } zs zm za zb zh zc 0 0 (MQ zb (xQ g S (xI (fun a μ' => a = aWaxes T r sl x ∧ RC μ' T r nt tx un kp sl ∧ FrI 0 81 μ μ'))) za zs 0 0 (xA0 g)) S μ1 17 [some (vR g 0), some (vI x), some (vI bi), some (vI i)] [] := by
    intro zn
    induction zn with
    | zero => intros; rename_i hz; exact absurd hz (Nat.not_lt_zero _)
    | succ zn ih =>
      intro k i bi μ1 c8 hi hk hbi h1 hn
      subst hi
      have hN1 : SA μ1 14 12 T r := (hA.scr h1 (by omega)).2.1
      refine x_iload_n (pc' := 18) hC dX6_waxes_17 rfl rfl ?_
      refine x_bipush (pc' := 20) hC dX6_waxes_18 (by decide) rfl ?_
      refine x_icmp_gt (tgt := 58) (pc' := 23) hC dX6_waxes_20 (by decide) rfl (by omega) (by omega) (fun c20 => ?_) (fun c20 => ?_)
      · refine x_iload_n (pc' := 59) hC dX6_waxes_58 rfl rfl ?_
        exact x_iret hC dX6_waxes_59 (xI.mk ⟨by unfold aWaxes; rw [if_pos c8, hbi, show k = 10 by omega], hA.scr h1 (by omega), h1.mono (by omega) (by omega)⟩)
      · refine x_aload_n (pc' := 24) hC dX6_waxes_23 rfl rfl ?_
        refine x_getR (pc' := 27) (b := 19) hC kf_X6_39 dX6_waxes_24 (hP 0 _ rfl) rfl rfl ?_
        refine x_aload_n (pc' := 28) hC dX6_waxes_27 rfl rfl ?_
        refine x_getR (pc' := 31) (b := 14) hC kf_X6_35 dX6_waxes_28 (hP 0 _ rfl) rfl rfl ?_
        refine x_callV (pc' := 34) (n := 1) hC (c_copy (sTri hP) (sNow hP) (by omega) hN1.2.2) ky_X4_copy kv_X4_copy kl_X6_159 dX6_waxes_31 (hP 19 _ rfl) rfl rfl rfl rfl ⟨Nat.le_of_ble_eq_true rfl, Nat.le_of_ble_eq_true rfl⟩ (Nat.le_of_ble_eq_true rfl) ⟨Nat.le_refl _, Nat.le_refl _⟩ (Or.inl rfl) rfl (x_kn (fun μ31 h31 => ?_))
        have hN2 := xTrial hT hN1 h31
        refine x_aload_n (pc' := 35) hC dX6_waxes_34 rfl rfl ?_
        refine x_getR (pc' := 38) (b := 19) hC kf_X6_39 dX6_waxes_35 (hP 0 _ rfl) rfl rfl ?_
        refine x_getR (pc' := 41) (b := 20) hC kf_X6_119 dX6_waxes_38 (hP 19 _ rfl) rfl rfl ?_
        refine x_iload_n (pc' := 42) hC dX6_waxes_41 rfl rfl ?_
        refine x_iload_n (pc' := 43) hC dX6_waxes_42 rfl rfl ?_
        refine x_iast (pc' := 44) hC dX6_waxes_43 (hP 20 _ rfl) (by omega) (by omega) rfl ?_
        refine x_iload_n (pc' := 45) hC dX6_waxes_44 rfl rfl ?_
        refine x_aload_n (pc' := 46) hC dX6_waxes_45 rfl rfl ?_
        refine x_iload_n (pc' := 47) hC dX6_waxes_46 rfl rfl ?_
        refine x_callV (pc' := 50) (n := 1) hC (c_bit (T := T) (T2 := T) (r2 := up r (2 + x) k) hP (((hA.scr h1 (by omega)).scr h31.1.I (by omega)).2.2.2.2.frI (lo := 20) (hi := 21) (FrI.rf.u (by omega)) (by omega)) ⟨hN2.1.frB (FrB.rf.u (k := 20) (b := 19) (by omega)) (by omega), hN2.2.1.fr (FrS.rf.u1 (b := 19)), hN2.2.2.wax (by omega) (by omega)⟩ hT (WR_wax hR (by omega) (by omega) (by omega)) ⟨rfl, rfl⟩) ky_X6_bitIfSeen kv_X6_bitIfSeen kl_X6_193 dX6_waxes_47 (hP 0 _ rfl) rfl rfl rfl rfl ⟨Nat.le_of_ble_eq_true rfl, Nat.le_of_ble_eq_true rfl⟩ (Nat.le_of_ble_eq_true rfl) ⟨Nat.le_refl _, Nat.le_refl _⟩ (Or.inl rfl) rfl (x_ki (fun a47 μ47 h47 => ?_))
        obtain ⟨h47, h48⟩ := h47
        subst h47
        refine x_ior (pc' := 51) hC dX6_waxes_50 rfl ?_
        refine x_istore_n (pc' := 52) hC dX6_waxes_51 (by decide) rfl rfl ?_
        refine x_iinc (pc' := 55) hC dX6_waxes_52 rfl (by decide) rfl rfl ?_
        refine x_goto (tgt := 17) hC dX6_waxes_55 (by decide) ?_
        exact ih (k + 1) _ _ _ c8 (by omega) (by omega) (by rw [bitsF, hbi]) ((h1.tr h31.1.I).tr ((FrI.rf.u (k := 20) (by omega)).tr h48)) (by omega)
  refine x_aload_n (pc' := 1) hC dX6_waxes_0 rfl rfl ?_
  refine x_getR (pc' := 4) (b := 12) hC kf_X6_26 dX6_waxes_1 (hP 0 _ rfl) rfl rfl ?_
  refine x_iload_n (pc' := 5) hC dX6_waxes_4 rfl rfl ?_
  refine x_callV (pc' := 8) (n := 1) hC (c_hasStep (T := T) (sPl hP) hN.1 ⟨hT.1, hT.2.1⟩ (by omega)) ky_X0_hasStep kv_X0_hasStep kl_X6_116 dX6_waxes_5 (hP 12 _ rfl) rfl rfl rfl rfl ⟨Nat.le_of_ble_eq_true rfl, Nat.le_of_ble_eq_true rfl⟩ (Nat.le_of_ble_eq_true rfl) ⟨Nat.le_refl _, Nat.le_refl _⟩ (Or.inl rfl) rfl (x_kd ?_)
  refine x_ifb_ne (tgt := 13) (pc' := 11) hC dX6_waxes_8 (by decide) rfl (fun c8 => ?_) (fun c8 => ?_)
  · refine x_iconst (pc' := 14) hC dX6_waxes_13 rfl ?_
    refine x_istore_n (pc' := 15) hC dX6_waxes_14 (by decide) rfl rfl ?_
    refine x_iconst (pc' := 16) hC dX6_waxes_15 rfl ?_
    refine x_istore_n (pc' := 17) hC dX6_waxes_16 (by decide) rfl rfl ?_
    exact loop 11 0 _ _ μ c8 rfl (by omega) rfl FrI.rf (by omega)
  · refine x_iconst (pc' := 12) hC dX6_waxes_11 rfl ?_
    exact x_iret hC dX6_waxes_12 (xI.mk ⟨by unfold aWaxes; rw [if_neg (by omega)], hA, FrI.rf⟩)
set_option maxRecDepth 100000 in
set_option maxHeartbeats 4000000 in
theorem k_grips {g : xG} {l : Launch} {S : List xS} {μ : xM} {T r : Int → Int} {nt : Int} {tx : Int → Int} {un kp : List (Int → Int)} {sl : List (Int × Int)} {m : Int} (hP : xPre S) (hA : RC μ T r nt tx un kp sl) (hF : WF T r un kp) (hm : -2147483648 ≤ m ∧ m < 2147483648) : xCt g l yX6_grips cX6_grips 4 (some .int) 5 112 0 0 [vR g 0, vI m] S μ S (xI (fun a μ' => a = aGrips T r sl m ∧ RC μ' T r nt tx un kp sl ∧ FrI 0 81 μ μ')) := by
  refine x_enter (by decide) (Nat.le_of_ble_eq_true rfl) ?_
  intro zp ze zs zm za zb zh zc hC hz0
  have hT := hF.1
  have hR := hF.2.1.1
  have hy := hF.2.1.2
  have t0 := hT.1
  have t1 := hT.2.1
  have t2 := hT.2.2.1
  have t3 := hT.2.2.2.1
  have hN := hA.2.1
  have hm := hN.mi
  have hs := hN.sp
  have loop : ∀ (zn : Nat) (k : Nat) (i bi : Int) (μ1 : xM) (c8 : 0 ≤ m ∧ m < T 3) (hi : i = k) (hk : k ≤ 10) (hbi : bi = bitsF (fun v => seenB (goYear (up T (11 + m) v) r) sl) k) (h1 : FrI 19 24 μ μ1), 10 - k < zn → xX g 4 zp l ze { frames := 5, cells := 0, slots := 0, locals := 112 } zs zm za zb zh zc 0 0 (MQ zb (xQ g S (xI (fun a μ' => a = aGrips T r sl m ∧ RC μ' T r nt tx un kp sl ∧ FrI 0 81 μ μ'))) za zs 0 0 (xA0 g)) S μ1 17 [some (vR g 0), some (vI m), some (vI bi), some (vI i)] [] := by
    intro zn
    induction zn with
    | zero => intros; rename_i hz; exact absurd hz (Nat.not_lt_zero _)
    | succ zn ih =>
      intro k i bi μ1 c8 hi hk hbi h1 hn
      subst hi
      have hN1 : SA μ1 14 12 T r := (hA.scr h1 (by omega)).2.1
      refine x_iload_n (pc' := 18) hC dX6_grips_17 rfl rfl ?_
      refine x_bipush (pc' := 20) hC dX6_grips_18 (by decide) rfl ?_
      refine x_icmp_gt (tgt := 58) (pc' := 23) hC dX6_grips_20 (by decide) rfl (by omega) (by omega) (fun c20 => ?_) (fun c20 => ?_)
      · refine x_iload_n (pc' := 59) hC dX6_grips_58 rfl rfl ?_
        exact x_iret hC dX6_grips_59 (xI.mk ⟨by unfold aGrips; rw [if_pos c8, hbi, show k = 10 by omega], hA.scr h1 (by omega), h1.mono (by omega) (by omega)⟩)
      · refine x_aload_n (pc' := 24) hC dX6_grips_23 rfl rfl ?_
        refine x_getR (pc' := 27) (b := 19) hC kf_X6_39 dX6_grips_24 (hP 0 _ rfl) rfl rfl ?_
        refine x_aload_n (pc' := 28) hC dX6_grips_27 rfl rfl ?_
        refine x_getR (pc' := 31) (b := 14) hC kf_X6_35 dX6_grips_28 (hP 0 _ rfl) rfl rfl ?_
        refine x_callV (pc' := 34) (n := 1) hC (c_copy (sTri hP) (sNow hP) (by omega) hN1.2.2) ky_X4_copy kv_X4_copy kl_X6_159 dX6_grips_31 (hP 19 _ rfl) rfl rfl rfl rfl ⟨Nat.le_of_ble_eq_true rfl, Nat.le_of_ble_eq_true rfl⟩ (Nat.le_of_ble_eq_true rfl) ⟨Nat.le_refl _, Nat.le_refl _⟩ (Or.inl rfl) rfl (x_kn (fun μ31 h31 => ?_))
        have hN2 := xTrial hT hN1 h31
        refine x_aload_n (pc' := 35) hC dX6_grips_34 rfl rfl ?_
        refine x_getR (pc' := 38) (b := 19) hC kf_X6_39 dX6_grips_35 (hP 0 _ rfl) rfl rfl ?_
        refine x_getR (pc' := 41) (b := 22) hC kf_X6_106 dX6_grips_38 (hP 19 _ rfl) rfl rfl ?_
        refine x_iload_n (pc' := 42) hC dX6_grips_41 rfl rfl ?_
        refine x_iload_n (pc' := 43) hC dX6_grips_42 rfl rfl ?_
        refine x_iast (pc' := 44) hC dX6_grips_43 (hP 22 _ rfl) (by omega) (by omega) rfl ?_
        refine x_iload_n (pc' := 45) hC dX6_grips_44 rfl rfl ?_
        refine x_aload_n (pc' := 46) hC dX6_grips_45 rfl rfl ?_
        refine x_iload_n (pc' := 47) hC dX6_grips_46 rfl rfl ?_
        refine x_callV (pc' := 50) (n := 1) hC (c_bit (T := T) (T2 := up T (11 + m) k) (r2 := r) hP (((hA.scr h1 (by omega)).scr h31.1.I (by omega)).2.2.2.2.frI (lo := 22) (hi := 23) (FrI.rf.u (by omega)) (by omega)) (SA.grip hT c8 hN2 (by omega)) (hT.grip c8 (by omega)) (WR.grip hT c8 hR) ⟨up_ne (by omega), up_ne (by omega)⟩) ky_X6_bitIfSeen kv_X6_bitIfSeen kl_X6_193 dX6_grips_47 (hP 0 _ rfl) rfl rfl rfl rfl ⟨Nat.le_of_ble_eq_true rfl, Nat.le_of_ble_eq_true rfl⟩ (Nat.le_of_ble_eq_true rfl) ⟨Nat.le_refl _, Nat.le_refl _⟩ (Or.inl rfl) rfl (x_ki (fun a47 μ47 h47 => ?_))
        obtain ⟨h47, h48⟩ := h47
        subst h47
        refine x_ior (pc' := 51) hC dX6_grips_50 rfl ?_
        refine x_istore_n (pc' := 52) hC dX6_grips_51 (by decide) rfl rfl ?_
        refine x_iinc (pc' := 55) hC dX6_grips_52 rfl (by decide) rfl rfl ?_
        refine x_goto (tgt := 17) hC dX6_grips_55 (by decide) ?_
        exact ih (k + 1) _ _ _ c8 (by omega) (by omega) (by rw [bitsF, hbi]) ((h1.tr h31.1.I).tr ((FrI.rf.u (k := 22) (by omega)).tr h48)) (by omega)
  refine x_aload_n (pc' := 1) hC dX6_grips_0 rfl rfl ?_
  refine x_getR (pc' := 4) (b := 12) hC kf_X6_26 dX6_grips_1 (hP 0 _ rfl) rfl rfl ?_
  refine x_iload_n (pc' := 5) hC dX6_grips_4 rfl rfl ?_
  refine x_callV (pc' := 8) (n := 1) hC (c_hasMinister (T := T) (sPl hP) hN.1 hT (by omega)) ky_X0_hasMinister kv_X0_hasMinister kl_X6_95 dX6_grips_5 (hP 12 _ rfl) rfl rfl rfl rfl ⟨Nat.le_of_ble_eq_true rfl, Nat.le_of_ble_eq_true rfl⟩ (Nat.le_of_ble_eq_true rfl) ⟨Nat.le_refl _, Nat.le_refl _⟩ (Or.inl rfl) rfl (x_kd ?_)
  refine x_ifb_ne (tgt := 13) (pc' := 11) hC dX6_grips_8 (by decide) rfl (fun c8 => ?_) (fun c8 => ?_)
  · refine x_iconst (pc' := 14) hC dX6_grips_13 rfl ?_
    refine x_istore_n (pc' := 15) hC dX6_grips_14 (by decide) rfl rfl ?_
    refine x_iconst (pc' := 16) hC dX6_grips_15 rfl ?_
    refine x_istore_n (pc' := 17) hC dX6_grips_16 (by decide) rfl rfl ?_
    exact loop 11 0 _ _ μ c8 rfl (by omega) rfl FrI.rf (by omega)
  · refine x_iconst (pc' := 12) hC dX6_grips_11 rfl ?_
    exact x_iret hC dX6_grips_12 (xI.mk ⟨by unfold aGrips; rw [if_neg (by omega)], hA, FrI.rf⟩)
