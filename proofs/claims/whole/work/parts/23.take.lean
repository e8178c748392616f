set_option maxRecDepth 100000 in
set_option maxHeartbeats 4000000 in
theorem c_tells {g : xG} {l : Launch} {S : List xS} {μ : xM} {T r : Int → Int} {os n v0 v1 v2 : Int} (hP : xPre S) (hQ : PT T r os) (hA : RdA μ T r os) (hV : VV μ n v0 v1 v2) : xCt g l yX1_tellsOneStep cX1_tellsOneStep 1 (some .boolean) 1 21 0 0 [vR g 3] S μ S (xI (fun a μ' => a = (if n = 1 ∧ v0 < T 0 then 1 else 0) ∧ μ' = μ)) := by
  refine x_enter (by decide) (Nat.le_of_ble_eq_true rfl) ?_
  intro zp ze zs zm za zb zh zc hC hz0
  obtain ⟨q1, q2, -, -, -, -, -, -, -⟩ := hQ
  have hA0 := hA
  obtain ⟨hN, ho⟩ := hA
  obtain ⟨w3, wn, w0, w1, w2⟩ := hV
  refine x_aload_n (pc' := 1) hC dX1_tellsOneStep_0 rfl rfl ?_
  refine x_getI (j' := 3) (pc' := 4) hC kf_X1_31 dX1_tellsOneStep_1 (hP 3 _ rfl) rfl rfl rfl ?_
  rw [w3]
  refine x_iconst (pc' := 5) hC dX1_tellsOneStep_4 rfl ?_
  refine x_icmp_ne (tgt := 28) (pc' := 8) hC dX1_tellsOneStep_5 (by decide) rfl (by omega) (by omega) (fun c5 => ?_) (fun c5 => ?_)
  · refine x_iconst (pc' := 29) hC dX1_tellsOneStep_28 rfl ?_
    exact x_zret hC dX1_tellsOneStep_29 (by first | exact Or.inl rfl | exact Or.inr rfl | omega) (xI.mk ⟨by first | rw [if_pos (by omega)] | rw [if_neg (by omega)], rfl⟩)
  · refine x_aload_n (pc' := 9) hC dX1_tellsOneStep_8 rfl rfl ?_
    refine x_getR (pc' := 12) (b := 4) hC kf_X1_12 dX1_tellsOneStep_9 (hP 3 _ rfl) rfl rfl ?_
    refine x_aload_n (pc' := 13) hC dX1_tellsOneStep_12 rfl rfl ?_
    refine x_getR (pc' := 16) (b := 11) hC kf_X1_27 dX1_tellsOneStep_13 (hP 3 _ rfl) rfl rfl ?_
    refine x_iconst (pc' := 17) hC dX1_tellsOneStep_16 rfl ?_
    refine x_iald (pc' := 18) hC dX1_tellsOneStep_17 (hP 11 _ rfl) (by omega) (by decide) rfl ?_
    rw [w0.1]
    refine x_callV (pc' := 21) (n := 1) hC (c_hasStep (T := T) (sPlR hP) hN.1 q1 (by omega)) ky_X0_hasStep kv_X0_hasStep kl_X1_90 dX1_tellsOneStep_18 (hP 4 _ rfl) rfl rfl rfl rfl ⟨Nat.le_of_ble_eq_true rfl, Nat.le_of_ble_eq_true rfl⟩ (Nat.le_of_ble_eq_true rfl) ⟨Nat.le_refl _, Nat.le_refl _⟩ (Or.inl rfl) rfl (x_kd ?_)
    refine x_ifb_eq (tgt := 28) (pc' := 24) hC dX1_tellsOneStep_21 (by decide) rfl (fun c21 => ?_) (fun c21 => ?_)
    · refine x_iconst (pc' := 29) hC dX1_tellsOneStep_28 rfl ?_
      exact x_zret hC dX1_tellsOneStep_29 (by first | exact Or.inl rfl | exact Or.inr rfl | omega) (xI.mk ⟨by first | rw [if_pos (by omega)] | rw [if_neg (by omega)], rfl⟩)
    · refine x_iconst (pc' := 25) hC dX1_tellsOneStep_24 rfl ?_
      refine x_goto (tgt := 29) hC dX1_tellsOneStep_25 (by decide) ?_
      exact x_zret hC dX1_tellsOneStep_29 (by first | exact Or.inl rfl | exact Or.inr rfl | omega) (xI.mk ⟨by first | rw [if_pos (by omega)] | rw [if_neg (by omega)], rfl⟩)
set_option maxRecDepth 100000 in
set_option maxHeartbeats 4000000 in
theorem c_takeSteps {g : xG} {l : Launch} {S : List xS} {μ : xM} {T r : Int → Int} {os n v0 v1 v2 : Int} (hP : xPre S) (hQ : PT T r os) (hA : RdA μ T r os) (hV : VV μ n v0 v1 v2) : xCt g l yX1_takeSteps cX1_takeSteps 1 (some .boolean) 1 22 0 0 [vR g 3] S μ S (xI (fun a μ' => a = (if n = 1 ∧ 3 ≤ v0 ∧ v0 ≤ 16 then 1 else 0) ∧ FrI 3 12 μ μ' ∧ (n = 1 ∧ 3 ≤ v0 ∧ v0 ≤ 16 → RdA μ' (up T 0 v0) (r) os))) := by
  refine x_enter (by decide) (Nat.le_of_ble_eq_true rfl) ?_
  intro zp ze zs zm za zb zh zc hC hz0
  obtain ⟨q1, q2, -, -, -, -, -, -, -⟩ := hQ
  have hA0 := hA
  obtain ⟨hN, ho⟩ := hA
  obtain ⟨w3, wn, w0, w1, w2⟩ := hV
  refine x_aload_n (pc' := 1) hC dX1_takeSteps_0 rfl rfl ?_
  refine x_getI (j' := 3) (pc' := 4) hC kf_X1_31 dX1_takeSteps_1 (hP 3 _ rfl) rfl rfl rfl ?_
  rw [w3]
  refine x_iconst (pc' := 5) hC dX1_takeSteps_4 rfl ?_
  refine x_icmp_ne (tgt := 23) (pc' := 8) hC dX1_takeSteps_5 (by decide) rfl (by omega) (by omega) (fun c5 => ?_) (fun c5 => ?_)
  · refine x_iconst (pc' := 24) hC dX1_takeSteps_23 rfl ?_
    exact x_zret hC dX1_takeSteps_24 (by first | exact Or.inl rfl | exact Or.inr rfl | omega) (xI.mk (by first | exact ⟨(if_neg (by omega)).symm, FrI.rf, fun z => absurd z (by omega)⟩ | exact ⟨(if_pos (by omega)).symm, FrI.rf.u (by omega), fun _ => hA0.steps⟩))
  · refine x_aload_n (pc' := 9) hC dX1_takeSteps_8 rfl rfl ?_
    refine x_getR (pc' := 12) (b := 11) hC kf_X1_27 dX1_takeSteps_9 (hP 3 _ rfl) rfl rfl ?_
    refine x_iconst (pc' := 13) hC dX1_takeSteps_12 rfl ?_
    refine x_iald (pc' := 14) hC dX1_takeSteps_13 (hP 11 _ rfl) (by omega) (by decide) rfl ?_
    rw [w0.1]
    refine x_iconst (pc' := 15) hC dX1_takeSteps_14 rfl ?_
    refine x_bipush (pc' := 17) hC dX1_takeSteps_15 (by decide) rfl ?_
    refine x_callSN (pc' := 20) (n := 3) hC (c_within (by omega) (by omega) (by omega)) ky_X6_within ks_X6_within (show Cond.methodLinkNest RX1 83 yX6_within RX6 ∈ xNest by simp [xNest]) dX1_takeSteps_17 rfl rfl ⟨Nat.le_of_ble_eq_true rfl, Nat.le_of_ble_eq_true rfl⟩ (Nat.le_of_ble_eq_true rfl) ⟨Nat.le_refl _, Nat.le_refl _⟩ (Or.inl rfl) rfl (x_kd ?_)
    refine x_ifb_ne (tgt := 25) (pc' := 23) hC dX1_takeSteps_20 (by decide) rfl (fun c20 => ?_) (fun c20 => ?_)
    · refine x_aload_n (pc' := 26) hC dX1_takeSteps_25 rfl rfl ?_
      refine x_getR (pc' := 29) (b := 4) hC kf_X1_12 dX1_takeSteps_26 (hP 3 _ rfl) rfl rfl ?_
      refine x_aload_n (pc' := 30) hC dX1_takeSteps_29 rfl rfl ?_
      refine x_getR (pc' := 33) (b := 11) hC kf_X1_27 dX1_takeSteps_30 (hP 3 _ rfl) rfl rfl ?_
      refine x_iconst (pc' := 34) hC dX1_takeSteps_33 rfl ?_
      refine x_iald (pc' := 35) hC dX1_takeSteps_34 (hP 11 _ rfl) (by omega) (by decide) rfl ?_
      rw [w0.1]
      refine x_putI (j' := 2) (pc' := 38) hC kf_X1_87 dX1_takeSteps_35 (hP 4 _ rfl) rfl rfl rfl rfl rfl ?_
      refine x_iconst (pc' := 39) hC dX1_takeSteps_38 rfl ?_
      exact x_zret hC dX1_takeSteps_39 (by first | exact Or.inl rfl | exact Or.inr rfl | omega) (xI.mk (by first | exact ⟨(if_neg (by omega)).symm, FrI.rf, fun z => absurd z (by omega)⟩ | exact ⟨(if_pos (by omega)).symm, FrI.rf.u (by omega), fun _ => hA0.steps⟩))
    · refine x_iconst (pc' := 24) hC dX1_takeSteps_23 rfl ?_
      exact x_zret hC dX1_takeSteps_24 (by first | exact Or.inl rfl | exact Or.inr rfl | omega) (xI.mk (by first | exact ⟨(if_neg (by omega)).symm, FrI.rf, fun z => absurd z (by omega)⟩ | exact ⟨(if_pos (by omega)).symm, FrI.rf.u (by omega), fun _ => hA0.steps⟩))
set_option maxRecDepth 100000 in
set_option maxHeartbeats 4000000 in
theorem c_takeWax {g : xG} {l : Launch} {S : List xS} {μ : xM} {T r : Int → Int} {os n v0 v1 v2 : Int} (hP : xPre S) (hQ : PT T r os) (hA : RdA μ T r os) (hV : VV μ n v0 v1 v2) : xCt g l yX1_takeWax cX1_takeWax 2 (some .boolean) 1 21 0 0 [vR g 3] S μ S (xI (fun a μ' => a = (if n = 2 ∧ v0 < T 0 ∧ v1 ≤ 9 then 1 else 0) ∧ FrI 3 12 μ μ' ∧ (n = 2 ∧ v0 < T 0 ∧ v1 ≤ 9 → RdA μ' (T) (up r (2 + v0) v1) os))) := by
  refine x_enter (by decide) (Nat.le_of_ble_eq_true rfl) ?_
  intro zp ze zs zm za zb zh zc hC hz0
  obtain ⟨q1, q2, -, -, -, -, -, -, -⟩ := hQ
  have hA0 := hA
  obtain ⟨hN, ho⟩ := hA
  obtain ⟨w3, wn, w0, w1, w2⟩ := hV
  refine x_aload_n (pc' := 1) hC dX1_takeWax_0 rfl rfl ?_
  refine x_getR (pc' := 4) (b := 11) hC kf_X1_27 dX1_takeWax_1 (hP 3 _ rfl) rfl rfl ?_
  refine x_iconst (pc' := 5) hC dX1_takeWax_4 rfl ?_
  refine x_iald (pc' := 6) hC dX1_takeWax_5 (hP 11 _ rfl) (by omega) (by decide) rfl ?_
  rw [w0.1]
  refine x_istore_n (pc' := 7) hC dX1_takeWax_6 (by decide) rfl rfl ?_
  refine x_aload_n (pc' := 8) hC dX1_takeWax_7 rfl rfl ?_
  refine x_getI (j' := 3) (pc' := 11) hC kf_X1_31 dX1_takeWax_8 (hP 3 _ rfl) rfl rfl rfl ?_
  rw [w3]
  refine x_iconst (pc' := 12) hC dX1_takeWax_11 rfl ?_
  refine x_icmp_ne (tgt := 37) (pc' := 15) hC dX1_takeWax_12 (by decide) rfl (by omega) (by omega) (fun c12 => ?_) (fun c12 => ?_)
  · refine x_iconst (pc' := 38) hC dX1_takeWax_37 rfl ?_
    exact x_zret hC dX1_takeWax_38 (by first | exact Or.inl rfl | exact Or.inr rfl | omega) (xI.mk (by first | exact ⟨(if_neg (by omega)).symm, FrI.rf, fun z => absurd z (by omega)⟩ | exact ⟨(if_pos (by omega)).symm, FrI.rf.u (by omega), fun _ => hA0.wax (by omega) (by omega)⟩))
  · refine x_aload_n (pc' := 16) hC dX1_takeWax_15 rfl rfl ?_
    refine x_getR (pc' := 19) (b := 4) hC kf_X1_12 dX1_takeWax_16 (hP 3 _ rfl) rfl rfl ?_
    refine x_iload_n (pc' := 20) hC dX1_takeWax_19 rfl rfl ?_
    refine x_callV (pc' := 23) (n := 1) hC (c_hasStep (T := T) (sPlR hP) hN.1 q1 (by omega)) ky_X0_hasStep kv_X0_hasStep kl_X1_90 dX1_takeWax_20 (hP 4 _ rfl) rfl rfl rfl rfl ⟨Nat.le_of_ble_eq_true rfl, Nat.le_of_ble_eq_true rfl⟩ (Nat.le_of_ble_eq_true rfl) ⟨Nat.le_refl _, Nat.le_refl _⟩ (Or.inl rfl) rfl (x_kd ?_)
    refine x_ifb_eq (tgt := 37) (pc' := 26) hC dX1_takeWax_23 (by decide) rfl (fun c23 => ?_) (fun c23 => ?_)
    · refine x_iconst (pc' := 38) hC dX1_takeWax_37 rfl ?_
      exact x_zret hC dX1_takeWax_38 (by first | exact Or.inl rfl | exact Or.inr rfl | omega) (xI.mk (by first | exact ⟨(if_neg (by omega)).symm, FrI.rf, fun z => absurd z (by omega)⟩ | exact ⟨(if_pos (by omega)).symm, FrI.rf.u (by omega), fun _ => hA0.wax (by omega) (by omega)⟩))
    · refine x_aload_n (pc' := 27) hC dX1_takeWax_26 rfl rfl ?_
      refine x_getR (pc' := 30) (b := 11) hC kf_X1_27 dX1_takeWax_27 (hP 3 _ rfl) rfl rfl ?_
      refine x_iconst (pc' := 31) hC dX1_takeWax_30 rfl ?_
      refine x_iald (pc' := 32) hC dX1_takeWax_31 (hP 11 _ rfl) (by omega) (by decide) rfl ?_
      rw [(w1 (by omega)).1]
      refine x_bipush (pc' := 34) hC dX1_takeWax_32 (by decide) rfl ?_
      refine x_icmp_le (tgt := 39) (pc' := 37) hC dX1_takeWax_34 (by decide) rfl (by omega) (by omega) (fun c34 => ?_) (fun c34 => ?_)
      · refine x_aload_n (pc' := 40) hC dX1_takeWax_39 rfl rfl ?_
        refine x_getR (pc' := 43) (b := 6) hC kf_X1_23 dX1_takeWax_40 (hP 3 _ rfl) rfl rfl ?_
        refine x_getR (pc' := 46) (b := 7) hC kf_X1_93 dX1_takeWax_43 (hP 6 _ rfl) rfl rfl ?_
        refine x_iload_n (pc' := 47) hC dX1_takeWax_46 rfl rfl ?_
        refine x_aload_n (pc' := 48) hC dX1_takeWax_47 rfl rfl ?_
        refine x_getR (pc' := 51) (b := 11) hC kf_X1_27 dX1_takeWax_48 (hP 3 _ rfl) rfl rfl ?_
        refine x_iconst (pc' := 52) hC dX1_takeWax_51 rfl ?_
        refine x_iald (pc' := 53) hC dX1_takeWax_52 (hP 11 _ rfl) (by omega) (by decide) rfl ?_
        rw [(w1 (by omega)).1]
        refine x_iast (pc' := 54) hC dX1_takeWax_53 (hP 7 _ rfl) (by omega) (by omega) rfl ?_
        refine x_iconst (pc' := 55) hC dX1_takeWax_54 rfl ?_
        exact x_zret hC dX1_takeWax_55 (by first | exact Or.inl rfl | exact Or.inr rfl | omega) (xI.mk (by first | exact ⟨(if_neg (by omega)).symm, FrI.rf, fun z => absurd z (by omega)⟩ | exact ⟨(if_pos (by omega)).symm, FrI.rf.u (by omega), fun _ => hA0.wax (by omega) (by omega)⟩))
      · refine x_iconst (pc' := 38) hC dX1_takeWax_37 rfl ?_
        exact x_zret hC dX1_takeWax_38 (by first | exact Or.inl rfl | exact Or.inr rfl | omega) (xI.mk (by first | exact ⟨(if_neg (by omega)).symm, FrI.rf, fun z => absurd z (by omega)⟩ | exact ⟨(if_pos (by omega)).symm, FrI.rf.u (by omega), fun _ => hA0.wax (by omega) (by omega)⟩))
set_option maxRecDepth 100000 in
set_option maxHeartbeats 4000000 in
theorem c_takeKnob {g : xG} {l : Launch} {S : List xS} {μ : xM} {T r : Int → Int} {os n v0 v1 v2 : Int} (hP : xPre S) (hQ : PT T r os) (hA : RdA μ T r os) (hV : VV μ n v0 v1 v2) : xCt g l yX1_takeKnob cX1_takeKnob 1 (some .boolean) 2 41 0 0 [vR g 3] S μ S (xI (fun a μ' => a = (if n = 1 ∧ v0 < T 0 then 1 else 0) ∧ FrI 3 12 μ μ' ∧ (n = 1 ∧ v0 < T 0 → RdA μ' (up T 1 (iOr (T 1) (iShl 1 v0))) (r) os))) := by
  refine x_enter (by decide) (Nat.le_of_ble_eq_true rfl) ?_
  intro zp ze zs zm za zb zh zc hC hz0
  have hQ0 := hQ
  obtain ⟨q1, q2, -, -, -, -, -, -, -⟩ := hQ
  have hA0 := hA
  obtain ⟨hN, ho⟩ := hA
  obtain ⟨w3, wn, w0, w1, w2⟩ := hV
  refine x_aload_n (pc' := 1) hC dX1_takeKnob_0 rfl rfl ?_
  refine x_callV (pc' := 4) (n := 0) hC (c_tells hP hQ0 hA0 ⟨w3, wn, w0, w1, w2⟩) ky_X1_tellsOneStep kv_X1_tellsOneStep kl_X1_96 dX1_takeKnob_1 (hP 3 _ rfl) rfl rfl rfl rfl ⟨Nat.le_of_ble_eq_true rfl, Nat.le_of_ble_eq_true rfl⟩ (Nat.le_of_ble_eq_true rfl) ⟨Nat.le_refl _, Nat.le_refl _⟩ (Or.inl rfl) rfl (x_kd ?_)
  refine x_ifb_ne (tgt := 9) (pc' := 7) hC dX1_takeKnob_4 (by decide) rfl (fun c4 => ?_) (fun c4 => ?_)
  · refine x_aload_n (pc' := 10) hC dX1_takeKnob_9 rfl rfl ?_
    refine x_getR (pc' := 13) (b := 4) hC kf_X1_12 dX1_takeKnob_10 (hP 3 _ rfl) rfl rfl ?_
    refine x_dup (pc' := 14) hC dX1_takeKnob_13 rfl rfl ?_
    refine x_getI (j' := 3) (pc' := 17) hC kf_X1_99 dX1_takeKnob_14 (hP 4 _ rfl) rfl rfl rfl ?_
    rw [hN.1.2.2.1]
    refine x_iconst (pc' := 18) hC dX1_takeKnob_17 rfl ?_
    refine x_aload_n (pc' := 19) hC dX1_takeKnob_18 rfl rfl ?_
    refine x_getR (pc' := 22) (b := 11) hC kf_X1_27 dX1_takeKnob_19 (hP 3 _ rfl) rfl rfl ?_
    refine x_iconst (pc' := 23) hC dX1_takeKnob_22 rfl ?_
    refine x_iald (pc' := 24) hC dX1_takeKnob_23 (hP 11 _ rfl) (by omega) (by decide) rfl ?_
    rw [w0.1]
    refine x_ishl (pc' := 25) hC dX1_takeKnob_24 rfl ?_
    refine x_ior (pc' := 26) hC dX1_takeKnob_25 rfl ?_
    refine x_putI (j' := 3) (pc' := 29) hC kf_X1_99 dX1_takeKnob_26 (hP 4 _ rfl) rfl rfl rfl rfl rfl ?_
    refine x_iconst (pc' := 30) hC dX1_takeKnob_29 rfl ?_
    exact x_zret hC dX1_takeKnob_30 (by first | exact Or.inl rfl | exact Or.inr rfl | omega) (xI.mk (by first | exact ⟨(if_neg (by omega)).symm, FrI.rf, fun z => absurd z (by omega)⟩ | exact ⟨(if_pos (by omega)).symm, FrI.rf.u (by omega), fun _ => hA0.knobs⟩))
  · refine x_iconst (pc' := 8) hC dX1_takeKnob_7 rfl ?_
    exact x_zret hC dX1_takeKnob_8 (by first | exact Or.inl rfl | exact Or.inr rfl | omega) (xI.mk (by first | exact ⟨(if_neg (by omega)).symm, FrI.rf, fun z => absurd z (by omega)⟩ | exact ⟨(if_pos (by omega)).symm, FrI.rf.u (by omega), fun _ => hA0.knobs⟩))
set_option maxRecDepth 100000 in
set_option maxHeartbeats 4000000 in
theorem c_takeTurn1 {g : xG} {l : Launch} {S : List xS} {μ : xM} {T r : Int → Int} {os n v0 v1 v2 : Int} (hP : xPre S) (hQ : PT T r os) (hA : RdA μ T r os) (hV : VV μ n v0 v1 v2) : xCt g l yX1_takeTurning cX1_takeTurning 1 (some .boolean) 2 41 0 0 [vR g 3] S μ S (xI (fun a μ' => a = (if n = 1 ∧ v0 < T 0 then 1 else 0) ∧ FrI 3 12 μ μ' ∧ (n = 1 ∧ v0 < T 0 → RdA μ' (up T 2 (iOr (T 2) (iShl 1 v0))) (r) os))) := by
  refine x_enter (by decide) (Nat.le_of_ble_eq_true rfl) ?_
  intro zp ze zs zm za zb zh zc hC hz0
  have hQ0 := hQ
  obtain ⟨q1, q2, -, -, -, -, -, -, -⟩ := hQ
  have hA0 := hA
  obtain ⟨hN, ho⟩ := hA
  obtain ⟨w3, wn, w0, w1, w2⟩ := hV
  refine x_aload_n (pc' := 1) hC dX1_takeTurning_0 rfl rfl ?_
  refine x_callV (pc' := 4) (n := 0) hC (c_tells hP hQ0 hA0 ⟨w3, wn, w0, w1, w2⟩) ky_X1_tellsOneStep kv_X1_tellsOneStep kl_X1_96 dX1_takeTurning_1 (hP 3 _ rfl) rfl rfl rfl rfl ⟨Nat.le_of_ble_eq_true rfl, Nat.le_of_ble_eq_true rfl⟩ (Nat.le_of_ble_eq_true rfl) ⟨Nat.le_refl _, Nat.le_refl _⟩ (Or.inl rfl) rfl (x_kd ?_)
  refine x_ifb_ne (tgt := 9) (pc' := 7) hC dX1_takeTurning_4 (by decide) rfl (fun c4 => ?_) (fun c4 => ?_)
  · refine x_aload_n (pc' := 10) hC dX1_takeTurning_9 rfl rfl ?_
    refine x_getR (pc' := 13) (b := 4) hC kf_X1_12 dX1_takeTurning_10 (hP 3 _ rfl) rfl rfl ?_
    refine x_dup (pc' := 14) hC dX1_takeTurning_13 rfl rfl ?_
    refine x_getI (j' := 4) (pc' := 17) hC kf_X1_102 dX1_takeTurning_14 (hP 4 _ rfl) rfl rfl rfl ?_
    rw [hN.1.2.2.2.1]
    refine x_iconst (pc' := 18) hC dX1_takeTurning_17 rfl ?_
    refine x_aload_n (pc' := 19) hC dX1_takeTurning_18 rfl rfl ?_
    refine x_getR (pc' := 22) (b := 11) hC kf_X1_27 dX1_takeTurning_19 (hP 3 _ rfl) rfl rfl ?_
    refine x_iconst (pc' := 23) hC dX1_takeTurning_22 rfl ?_
    refine x_iald (pc' := 24) hC dX1_takeTurning_23 (hP 11 _ rfl) (by omega) (by decide) rfl ?_
    rw [w0.1]
    refine x_ishl (pc' := 25) hC dX1_takeTurning_24 rfl ?_
    refine x_ior (pc' := 26) hC dX1_takeTurning_25 rfl ?_
    refine x_putI (j' := 4) (pc' := 29) hC kf_X1_102 dX1_takeTurning_26 (hP 4 _ rfl) rfl rfl rfl rfl rfl ?_
    refine x_iconst (pc' := 30) hC dX1_takeTurning_29 rfl ?_
    exact x_zret hC dX1_takeTurning_30 (by first | exact Or.inl rfl | exact Or.inr rfl | omega) (xI.mk (by first | exact ⟨(if_neg (by omega)).symm, FrI.rf, fun z => absurd z (by omega)⟩ | exact ⟨(if_pos (by omega)).symm, FrI.rf.u (by omega), fun _ => hA0.turns⟩))
  · refine x_iconst (pc' := 8) hC dX1_takeTurning_7 rfl ?_
    exact x_zret hC dX1_takeTurning_8 (by first | exact Or.inl rfl | exact Or.inr rfl | omega) (xI.mk (by first | exact ⟨(if_neg (by omega)).symm, FrI.rf, fun z => absurd z (by omega)⟩ | exact ⟨(if_pos (by omega)).symm, FrI.rf.u (by omega), fun _ => hA0.turns⟩))
set_option maxRecDepth 100000 in
set_option maxHeartbeats 4000000 in
theorem c_takeMin {g : xG} {l : Launch} {S : List xS} {μ : xM} {T r : Int → Int} {os n v0 v1 v2 : Int} (hP : xPre S) (hQ : PT T r os) (hA : RdA μ T r os) (hV : VV μ n v0 v1 v2) : xCt g l yX1_takeMinister cX1_takeMinister 2 (some .boolean) 1 21 0 0 [vR g 3] S μ S (xI (fun a μ' => a = (if n = 3 ∧ T 3 < 7 ∧ v0 ≤ 3 ∧ v1 < T 0 ∧ v2 ≤ 9 then 1 else 0) ∧ FrI 3 12 μ μ' ∧ (n = 3 ∧ T 3 < 7 ∧ v0 ≤ 3 ∧ v1 < T 0 ∧ v2 ≤ 9 → RdA μ' (up (up (up T (4 + T 3) v0) (11 + T 3) v2) 3 (T 3 + 1)) (up r (18 + T 3) v1) os))) := by
  refine x_enter (by decide) (Nat.le_of_ble_eq_true rfl) ?_
  intro zp ze zs zm za zb zh zc hC hz0
  obtain ⟨q1, q2, -, -, -, -, -, -, -⟩ := hQ
  have hA0 := hA
  obtain ⟨hN, ho⟩ := hA
  obtain ⟨w3, wn, w0, w1, w2⟩ := hV
  refine x_aload_n (pc' := 1) hC dX1_takeMinister_0 rfl rfl ?_
  refine x_getR (pc' := 4) (b := 4) hC kf_X1_12 dX1_takeMinister_1 (hP 3 _ rfl) rfl rfl ?_
  refine x_getI (j' := 1) (pc' := 7) hC kf_X1_105 dX1_takeMinister_4 (hP 4 _ rfl) rfl rfl rfl ?_
  rw [hN.mi]
  refine x_istore_n (pc' := 8) hC dX1_takeMinister_7 (by decide) rfl rfl ?_
  refine x_aload_n (pc' := 9) hC dX1_takeMinister_8 rfl rfl ?_
  refine x_getI (j' := 3) (pc' := 12) hC kf_X1_31 dX1_takeMinister_9 (hP 3 _ rfl) rfl rfl rfl ?_
  rw [w3]
  refine x_iconst (pc' := 13) hC dX1_takeMinister_12 rfl ?_
  refine x_icmp_ne (tgt := 59) (pc' := 16) hC dX1_takeMinister_13 (by decide) rfl (by omega) (by omega) (fun c13 => ?_) (fun c13 => ?_)
  · refine x_iconst (pc' := 60) hC dX1_takeMinister_59 rfl ?_
    exact x_zret hC dX1_takeMinister_60 (by first | exact Or.inl rfl | exact Or.inr rfl | omega) (xI.mk (by first | exact ⟨(if_neg (by omega)).symm, FrI.rf, fun z => absurd z (by omega)⟩ | exact ⟨(if_pos (by omega)).symm, (((FrI.rf.u (by omega)).u (by omega)).u (by omega)).u (by omega), fun _ => hA0.mini (by omega)⟩))
  · refine x_iload_n (pc' := 17) hC dX1_takeMinister_16 rfl rfl ?_
    refine x_bipush (pc' := 19) hC dX1_takeMinister_17 (by decide) rfl ?_
    refine x_icmp_ge (tgt := 59) (pc' := 22) hC dX1_takeMinister_19 (by decide) rfl (by omega) (by omega) (fun c19 => ?_) (fun c19 => ?_)
    · refine x_iconst (pc' := 60) hC dX1_takeMinister_59 rfl ?_
      exact x_zret hC dX1_takeMinister_60 (by first | exact Or.inl rfl | exact Or.inr rfl | omega) (xI.mk (by first | exact ⟨(if_neg (by omega)).symm, FrI.rf, fun z => absurd z (by omega)⟩ | exact ⟨(if_pos (by omega)).symm, (((FrI.rf.u (by omega)).u (by omega)).u (by omega)).u (by omega), fun _ => hA0.mini (by omega)⟩))
    · refine x_aload_n (pc' := 23) hC dX1_takeMinister_22 rfl rfl ?_
      refine x_getR (pc' := 26) (b := 11) hC kf_X1_27 dX1_takeMinister_23 (hP 3 _ rfl) rfl rfl ?_
      refine x_iconst (pc' := 27) hC dX1_takeMinister_26 rfl ?_
      refine x_iald (pc' := 28) hC dX1_takeMinister_27 (hP 11 _ rfl) (by omega) (by decide) rfl ?_
      rw [w0.1]
      refine x_iconst (pc' := 29) hC dX1_takeMinister_28 rfl ?_
      refine x_icmp_gt (tgt := 59) (pc' := 32) hC dX1_takeMinister_29 (by decide) rfl (by omega) (by omega) (fun c29 => ?_) (fun c29 => ?_)
      · refine x_iconst (pc' := 60) hC dX1_takeMinister_59 rfl ?_
        exact x_zret hC dX1_takeMinister_60 (by first | exact Or.inl rfl | exact Or.inr rfl | omega) (xI.mk (by first | exact ⟨(if_neg (by omega)).symm, FrI.rf, fun z => absurd z (by omega)⟩ | exact ⟨(if_pos (by omega)).symm, (((FrI.rf.u (by omega)).u (by omega)).u (by omega)).u (by omega), fun _ => hA0.mini (by omega)⟩))
      · refine x_aload_n (pc' := 33) hC dX1_takeMinister_32 rfl rfl ?_
        refine x_getR (pc' := 36) (b := 4) hC kf_X1_12 dX1_takeMinister_33 (hP 3 _ rfl) rfl rfl ?_
        refine x_aload_n (pc' := 37) hC dX1_takeMinister_36 rfl rfl ?_
        refine x_getR (pc' := 40) (b := 11) hC kf_X1_27 dX1_takeMinister_37 (hP 3 _ rfl) rfl rfl ?_
        refine x_iconst (pc' := 41) hC dX1_takeMinister_40 rfl ?_
        refine x_iald (pc' := 42) hC dX1_takeMinister_41 (hP 11 _ rfl) (by omega) (by decide) rfl ?_
        rw [(w1 (by omega)).1]
        refine x_callV (pc' := 45) (n := 1) hC (c_hasStep (T := T) (sPlR hP) hN.1 q1 (by omega)) ky_X0_hasStep kv_X0_hasStep kl_X1_90 dX1_takeMinister_42 (hP 4 _ rfl) rfl rfl rfl rfl ⟨Nat.le_of_ble_eq_true rfl, Nat.le_of_ble_eq_true rfl⟩ (Nat.le_of_ble_eq_true rfl) ⟨Nat.le_refl _, Nat.le_refl _⟩ (Or.inl rfl) rfl (x_kd ?_)
        refine x_ifb_eq (tgt := 59) (pc' := 48) hC dX1_takeMinister_45 (by decide) rfl (fun c45 => ?_) (fun c45 => ?_)
        · refine x_iconst (pc' := 60) hC dX1_takeMinister_59 rfl ?_
          exact x_zret hC dX1_takeMinister_60 (by first | exact Or.inl rfl | exact Or.inr rfl | omega) (xI.mk (by first | exact ⟨(if_neg (by omega)).symm, FrI.rf, fun z => absurd z (by omega)⟩ | exact ⟨(if_pos (by omega)).symm, (((FrI.rf.u (by omega)).u (by omega)).u (by omega)).u (by omega), fun _ => hA0.mini (by omega)⟩))
        · refine x_aload_n (pc' := 49) hC dX1_takeMinister_48 rfl rfl ?_
          refine x_getR (pc' := 52) (b := 11) hC kf_X1_27 dX1_takeMinister_49 (hP 3 _ rfl) rfl rfl ?_
          refine x_iconst (pc' := 53) hC dX1_takeMinister_52 rfl ?_
          refine x_iald (pc' := 54) hC dX1_takeMinister_53 (hP 11 _ rfl) (by omega) (by decide) rfl ?_
          rw [(w2 (by omega)).1]
          refine x_bipush (pc' := 56) hC dX1_takeMinister_54 (by decide) rfl ?_
          refine x_icmp_le (tgt := 61) (pc' := 59) hC dX1_takeMinister_56 (by decide) rfl (by omega) (by omega) (fun c56 => ?_) (fun c56 => ?_)
          · refine x_aload_n (pc' := 62) hC dX1_takeMinister_61 rfl rfl ?_
            refine x_getR (pc' := 65) (b := 4) hC kf_X1_12 dX1_takeMinister_62 (hP 3 _ rfl) rfl rfl ?_
            refine x_getR (pc' := 68) (b := 5) hC kf_X1_108 dX1_takeMinister_65 (hP 4 _ rfl) rfl rfl ?_
            refine x_iload_n (pc' := 69) hC dX1_takeMinister_68 rfl rfl ?_
            refine x_aload_n (pc' := 70) hC dX1_takeMinister_69 rfl rfl ?_
            refine x_getR (pc' := 73) (b := 11) hC kf_X1_27 dX1_takeMinister_70 (hP 3 _ rfl) rfl rfl ?_
            refine x_iconst (pc' := 74) hC dX1_takeMinister_73 rfl ?_
            refine x_iald (pc' := 75) hC dX1_takeMinister_74 (hP 11 _ rfl) (by omega) (by decide) rfl ?_
            rw [w0.1]
            refine x_iast (pc' := 76) hC dX1_takeMinister_75 (hP 5 _ rfl) (by omega) (by omega) rfl ?_
            refine x_aload_n (pc' := 77) hC dX1_takeMinister_76 rfl rfl ?_
            refine x_getR (pc' := 80) (b := 6) hC kf_X1_23 dX1_takeMinister_77 (hP 3 _ rfl) rfl rfl ?_
            refine x_getR (pc' := 83) (b := 8) hC kf_X1_111 dX1_takeMinister_80 (hP 6 _ rfl) rfl rfl ?_
            refine x_iload_n (pc' := 84) hC dX1_takeMinister_83 rfl rfl ?_
            refine x_aload_n (pc' := 85) hC dX1_takeMinister_84 rfl rfl ?_
            refine x_getR (pc' := 88) (b := 11) hC kf_X1_27 dX1_takeMinister_85 (hP 3 _ rfl) rfl rfl ?_
            refine x_iconst (pc' := 89) hC dX1_takeMinister_88 rfl ?_
            refine x_iald (pc' := 90) hC dX1_takeMinister_89 (hP 11 _ rfl) (by omega) (by decide) rfl ?_
            rw [xU_nk (by omega), (w1 (by omega)).1]
            refine x_iast (pc' := 91) hC dX1_takeMinister_90 (hP 8 _ rfl) (by omega) (by omega) rfl ?_
            refine x_aload_n (pc' := 92) hC dX1_takeMinister_91 rfl rfl ?_
            refine x_getR (pc' := 95) (b := 6) hC kf_X1_23 dX1_takeMinister_92 (hP 3 _ rfl) rfl rfl ?_
            refine x_getR (pc' := 98) (b := 9) hC kf_X1_114 dX1_takeMinister_95 (hP 6 _ rfl) rfl rfl ?_
            refine x_iload_n (pc' := 99) hC dX1_takeMinister_98 rfl rfl ?_
            refine x_aload_n (pc' := 100) hC dX1_takeMinister_99 rfl rfl ?_
            refine x_getR (pc' := 103) (b := 11) hC kf_X1_27 dX1_takeMinister_100 (hP 3 _ rfl) rfl rfl ?_
            refine x_iconst (pc' := 104) hC dX1_takeMinister_103 rfl ?_
            refine x_iald (pc' := 105) hC dX1_takeMinister_104 (hP 11 _ rfl) (by omega) (by decide) rfl ?_
            rw [xU_nk (by omega), xU_nk (by omega), (w2 (by omega)).1]
            refine x_iast (pc' := 106) hC dX1_takeMinister_105 (hP 9 _ rfl) (by omega) (by omega) rfl ?_
            refine x_aload_n (pc' := 107) hC dX1_takeMinister_106 rfl rfl ?_
            refine x_getR (pc' := 110) (b := 4) hC kf_X1_12 dX1_takeMinister_107 (hP 3 _ rfl) rfl rfl ?_
            refine x_dup (pc' := 111) hC dX1_takeMinister_110 rfl rfl ?_
            refine x_getI (j' := 1) (pc' := 114) hC kf_X1_105 dX1_takeMinister_111 (hP 4 _ rfl) rfl rfl rfl ?_
            rw [xU_nk (by omega), xU_nk (by omega), xU_nk (by omega), hN.mi]
            refine x_iconst (pc' := 115) hC dX1_takeMinister_114 rfl ?_
            refine x_iadd (pc' := 116) hC dX1_takeMinister_115 rfl ?_
            refine x_putI (j' := 1) (pc' := 119) hC kf_X1_105 dX1_takeMinister_116 (hP 4 _ rfl) rfl rfl rfl rfl rfl ?_
            refine x_iconst (pc' := 120) hC dX1_takeMinister_119 rfl ?_
            exact x_zret hC dX1_takeMinister_120 (by first | exact Or.inl rfl | exact Or.inr rfl | omega) (xI.mk (by first | exact ⟨(if_neg (by omega)).symm, FrI.rf, fun z => absurd z (by omega)⟩ | exact ⟨(if_pos (by omega)).symm, (((FrI.rf.u (by omega)).u (by omega)).u (by omega)).u (by omega), fun _ => hA0.mini (by omega)⟩))
          · refine x_iconst (pc' := 60) hC dX1_takeMinister_59 rfl ?_
            exact x_zret hC dX1_takeMinister_60 (by first | exact Or.inl rfl | exact Or.inr rfl | omega) (xI.mk (by first | exact ⟨(if_neg (by omega)).symm, FrI.rf, fun z => absurd z (by omega)⟩ | exact ⟨(if_pos (by omega)).symm, (((FrI.rf.u (by omega)).u (by omega)).u (by omega)).u (by omega), fun _ => hA0.mini (by omega)⟩))
set_option maxRecDepth 100000 in
set_option maxHeartbeats 4000000 in
theorem c_takeFunds {g : xG} {l : Launch} {S : List xS} {μ : xM} {T r : Int → Int} {os n v0 v1 v2 : Int} (hP : xPre S) (hQ : PT T r os) (hA : RdA μ T r os) (hV : VV μ n v0 v1 v2) : xCt g l yX1_takeFunds cX1_takeFunds 1 (some .boolean) 0 0 0 0 [vR g 3] S μ S (xI (fun a μ' => a = (if n = 1 then 1 else 0) ∧ FrI 3 12 μ μ' ∧ (n = 1 → RdA μ' (T) (up r 1 v0) os))) := by
  refine x_enter (by decide) (Nat.le_of_ble_eq_true rfl) ?_
  intro zp ze zs zm za zb zh zc hC hz0
  obtain ⟨q1, q2, -, -, -, -, -, -, -⟩ := hQ
  have hA0 := hA
  obtain ⟨hN, ho⟩ := hA
  obtain ⟨w3, wn, w0, w1, w2⟩ := hV
  refine x_aload_n (pc' := 1) hC dX1_takeFunds_0 rfl rfl ?_
  refine x_getI (j' := 3) (pc' := 4) hC kf_X1_31 dX1_takeFunds_1 (hP 3 _ rfl) rfl rfl rfl ?_
  rw [w3]
  refine x_iconst (pc' := 5) hC dX1_takeFunds_4 rfl ?_
  refine x_icmp_eq (tgt := 10) (pc' := 8) hC dX1_takeFunds_5 (by decide) rfl (by omega) (by omega) (fun c5 => ?_) (fun c5 => ?_)
  · refine x_aload_n (pc' := 11) hC dX1_takeFunds_10 rfl rfl ?_
    refine x_getR (pc' := 14) (b := 6) hC kf_X1_23 dX1_takeFunds_11 (hP 3 _ rfl) rfl rfl ?_
    refine x_aload_n (pc' := 15) hC dX1_takeFunds_14 rfl rfl ?_
    refine x_getR (pc' := 18) (b := 11) hC kf_X1_27 dX1_takeFunds_15 (hP 3 _ rfl) rfl rfl ?_
    refine x_iconst (pc' := 19) hC dX1_takeFunds_18 rfl ?_
    refine x_iald (pc' := 20) hC dX1_takeFunds_19 (hP 11 _ rfl) (by omega) (by decide) rfl ?_
    rw [w0.1]
    refine x_putI (j' := 5) (pc' := 23) hC kf_X1_117 dX1_takeFunds_20 (hP 6 _ rfl) rfl rfl rfl rfl rfl ?_
    refine x_iconst (pc' := 24) hC dX1_takeFunds_23 rfl ?_
    exact x_zret hC dX1_takeFunds_24 (by first | exact Or.inl rfl | exact Or.inr rfl | omega) (xI.mk (by first | exact ⟨(if_neg (by omega)).symm, FrI.rf, fun z => absurd z (by omega)⟩ | exact ⟨(if_pos (by omega)).symm, FrI.rf.u (by omega), fun _ => hA0.funds⟩))
  · refine x_iconst (pc' := 9) hC dX1_takeFunds_8 rfl ?_
    exact x_zret hC dX1_takeFunds_9 (by first | exact Or.inl rfl | exact Or.inr rfl | omega) (xI.mk (by first | exact ⟨(if_neg (by omega)).symm, FrI.rf, fun z => absurd z (by omega)⟩ | exact ⟨(if_pos (by omega)).symm, FrI.rf.u (by omega), fun _ => hA0.funds⟩))
set_option maxRecDepth 100000 in
set_option maxHeartbeats 4000000 in
theorem c_takeItem {g : xG} {l : Launch} {S : List xS} {μ : xM} {c : Int} {T r : Int → Int} {os n v0 v1 v2 : Int} (hP : xPre S) (hQ : PT T r os) (hA : RdA μ T r os) (hV : VV μ n v0 v1 v2) (hc : 0 ≤ c ∧ c ≤ 126) (hos : os = 0 ∨ os = 1) : xCt g l yX1_takeItem cX1_takeItem 2 (some .boolean) 3 61 0 0 [vR g 3, vI c] S μ S (xI (fun a μ' => a = (if tkOk c n v0 v1 v2 T os then 1 else 0) ∧ FrI 3 12 μ μ' ∧ (tkOk c n v0 v1 v2 T os → RdA μ' (tkT c v0 v2 T) (tkR c v0 v1 T r) (tkS c os)))) := by
  refine x_enter (by decide) (Nat.le_of_ble_eq_true rfl) ?_
  intro zp ze zs zm za zb zh zc hC hz0
  have hP0 : PT T r 0 := ⟨hQ.1, hQ.2.1, hQ.2.2.1, hQ.2.2.2.1, hQ.2.2.2.2.1, hQ.2.2.2.2.2.1, hQ.2.2.2.2.2.2.1, hQ.2.2.2.2.2.2.2.1, fun z => absurd z (by omega)⟩
  have hV0 := hV
  have hQ0 := hQ
  obtain ⟨q1, q2, -, -, -, -, -, -, -⟩ := hQ
  have hA0 := hA
  obtain ⟨hN, ho⟩ := hA
  obtain ⟨w3, wn, w0, w1, w2⟩ := hV
  refine x_iload_n (pc' := 1) hC dX1_takeItem_0 rfl rfl ?_
  refine x_bipush (pc' := 3) hC dX1_takeItem_1 (by decide) rfl ?_
  refine x_icmp_ne (tgt := 26) (pc' := 6) hC dX1_takeItem_3 (by decide) rfl (by omega) (by omega) (fun c3 => ?_) (fun c3 => ?_)
  · have hB : RdA (xU μ 3 4 0) T r 0 := ⟨⟨hN.1.frI (lo := 3) (hi := 4) (FrI.rf.u (by omega)) (by omega), fun m m0 m1 => by rw [xU_nk (by omega)]; exact hN.2.1 m m0 m1, hN.2.2.frI (lo := 3) (hi := 4) (FrI.rf.u (by omega)) (by omega)⟩, xU_at2⟩
    have hV1 : VV (xU μ 3 4 0) n v0 v1 v2 := ⟨by rw [xU_nj (by omega)]; exact w3, wn, by rw [xU_nk (by omega)]; exact w0, fun z => by rw [xU_nk (by omega)]; exact w1 z, fun z => by rw [xU_nk (by omega)]; exact w2 z⟩
    refine x_aload_n (pc' := 27) hC dX1_takeItem_26 rfl rfl ?_
    refine x_iconst (pc' := 28) hC dX1_takeItem_27 rfl ?_
    refine x_putI (j' := 4) (pc' := 31) hC kf_X1_35 dX1_takeItem_28 (hP 3 _ rfl) rfl rfl rfl rfl rfl ?_
    refine x_iload_n (pc' := 32) hC dX1_takeItem_31 rfl rfl ?_
    have w32 : c = 102 ∨ c = 107 ∨ c = 109 ∨ c = 116 ∨ c = 119 ∨ (¬ c = 102 ∧ ¬ c = 107 ∧ ¬ c = 109 ∧ ¬ c = 116 ∧ ¬ c = 119) := by omega
    rcases w32 with w32 | w32 | w32 | w32 | w32 | w32
    · refine x_look (off := 72) (tgt := 104) hC dX1_takeItem_32 (by omega) (by decide) (by rw [w32]; decide) (by decide) ?_
      refine x_aload_n (pc' := 105) hC dX1_takeItem_104 rfl rfl ?_
      refine x_callV (pc' := 108) (n := 0) hC (c_takeFunds hP hP0 hB hV1) ky_X1_takeFunds kv_X1_takeFunds kl_X1_80 dX1_takeItem_105 (hP 3 _ rfl) rfl rfl rfl rfl ⟨Nat.le_of_ble_eq_true rfl, Nat.le_of_ble_eq_true rfl⟩ (Nat.le_of_ble_eq_true rfl) ⟨Nat.le_refl _, Nat.le_refl _⟩ (Or.inl rfl) rfl (x_kv (fun μ105 h105 => ?_))
      exact x_zret hC dX1_takeItem_108 (by split <;> omega) (xI.mk (by
      have e1 : tkT c v0 v2 T = T := by unfold tkT; rw [if_neg (by omega), if_neg (by omega), if_neg (by omega), if_neg (by omega)]
      have e2 : tkR c v0 v1 T r = up r 1 v0 := by unfold tkR; rw [if_neg (by omega), if_neg (by omega), if_pos (by omega)]
      have e3 : tkS c os = 0 := by unfold tkS; exact if_neg (by omega)
      rw [e1, e2, e3]
      exact ⟨by rcases Decidable.em (n = 1) with zc | zc; rw [if_pos zc, if_pos (by unfold tkOk; omega)]; rw [if_neg zc, if_neg (by unfold tkOk; omega)], fun k j hk => by rw [h105.1 k j hk, xU_nk (by omega)], fun z => h105.2 (by unfold tkOk at z; omega)⟩))
    · refine x_look (off := 57) (tgt := 89) hC dX1_takeItem_32 (by omega) (by decide) (by rw [w32]; decide) (by decide) ?_
      refine x_aload_n (pc' := 90) hC dX1_takeItem_89 rfl rfl ?_
      refine x_callV (pc' := 93) (n := 0) hC (c_takeKnob hP hP0 hB hV1) ky_X1_takeKnob kv_X1_takeKnob kl_X1_71 dX1_takeItem_90 (hP 3 _ rfl) rfl rfl rfl rfl ⟨Nat.le_of_ble_eq_true rfl, Nat.le_of_ble_eq_true rfl⟩ (Nat.le_of_ble_eq_true rfl) ⟨Nat.le_refl _, Nat.le_refl _⟩ (Or.inl rfl) rfl (x_kv (fun μ90 h90 => ?_))
      exact x_zret hC dX1_takeItem_93 (by split <;> omega) (xI.mk (by
      have e1 : tkT c v0 v2 T = up T 1 (iOr (T 1) (iShl 1 v0)) := by unfold tkT; rw [if_neg (by omega), if_pos (by omega)]
      have e2 : tkR c v0 v1 T r = r := by unfold tkR; rw [if_neg (by omega), if_neg (by omega), if_neg (by omega)]
      have e3 : tkS c os = 0 := by unfold tkS; exact if_neg (by omega)
      rw [e1, e2, e3]
      exact ⟨by rcases Decidable.em (n = 1 ∧ v0 < T 0) with zc | zc; rw [if_pos zc, if_pos (by unfold tkOk; omega)]; rw [if_neg zc, if_neg (by unfold tkOk; omega)], fun k j hk => by rw [h90.1 k j hk, xU_nk (by omega)], fun z => h90.2 (by unfold tkOk at z; omega)⟩))
    · refine x_look (off := 67) (tgt := 99) hC dX1_takeItem_32 (by omega) (by decide) (by rw [w32]; decide) (by decide) ?_
      refine x_aload_n (pc' := 100) hC dX1_takeItem_99 rfl rfl ?_
      refine x_callV (pc' := 103) (n := 0) hC (c_takeMin hP hP0 hB hV1) ky_X1_takeMinister kv_X1_takeMinister kl_X1_77 dX1_takeItem_100 (hP 3 _ rfl) rfl rfl rfl rfl ⟨Nat.le_of_ble_eq_true rfl, Nat.le_of_ble_eq_true rfl⟩ (Nat.le_of_ble_eq_true rfl) ⟨Nat.le_refl _, Nat.le_refl _⟩ (Or.inl rfl) rfl (x_kv (fun μ100 h100 => ?_))
      exact x_zret hC dX1_takeItem_103 (by split <;> omega) (xI.mk (by
      have e1 : tkT c v0 v2 T = up (up (up T (4 + T 3) v0) (11 + T 3) v2) 3 (T 3 + 1) := by unfold tkT; rw [if_neg (by omega), if_neg (by omega), if_neg (by omega), if_pos (by omega)]
      have e2 : tkR c v0 v1 T r = up r (18 + T 3) v1 := by unfold tkR; rw [if_neg (by omega), if_pos (by omega)]
      have e3 : tkS c os = 0 := by unfold tkS; exact if_neg (by omega)
      rw [e1, e2, e3]
      exact ⟨by rcases Decidable.em (n = 3 ∧ T 3 < 7 ∧ v0 ≤ 3 ∧ v1 < T 0 ∧ v2 ≤ 9) with zc | zc; rw [if_pos zc, if_pos (by unfold tkOk; omega)]; rw [if_neg zc, if_neg (by unfold tkOk; omega)], fun k j hk => by rw [h100.1 k j hk, xU_nk (by omega)], fun z => h100.2 (by unfold tkOk at z; omega)⟩))
    · refine x_look (off := 62) (tgt := 94) hC dX1_takeItem_32 (by omega) (by decide) (by rw [w32]; decide) (by decide) ?_
      refine x_aload_n (pc' := 95) hC dX1_takeItem_94 rfl rfl ?_
      refine x_callV (pc' := 98) (n := 0) hC (c_takeTurn1 hP hP0 hB hV1) ky_X1_takeTurning kv_X1_takeTurning kl_X1_74 dX1_takeItem_95 (hP 3 _ rfl) rfl rfl rfl rfl ⟨Nat.le_of_ble_eq_true rfl, Nat.le_of_ble_eq_true rfl⟩ (Nat.le_of_ble_eq_true rfl) ⟨Nat.le_refl _, Nat.le_refl _⟩ (Or.inl rfl) rfl (x_kv (fun μ95 h95 => ?_))
      exact x_zret hC dX1_takeItem_98 (by split <;> omega) (xI.mk (by
      have e1 : tkT c v0 v2 T = up T 2 (iOr (T 2) (iShl 1 v0)) := by unfold tkT; rw [if_neg (by omega), if_neg (by omega), if_pos (by omega)]
      have e2 : tkR c v0 v1 T r = r := by unfold tkR; rw [if_neg (by omega), if_neg (by omega), if_neg (by omega)]
      have e3 : tkS c os = 0 := by unfold tkS; exact if_neg (by omega)
      rw [e1, e2, e3]
      exact ⟨by rcases Decidable.em (n = 1 ∧ v0 < T 0) with zc | zc; rw [if_pos zc, if_pos (by unfold tkOk; omega)]; rw [if_neg zc, if_neg (by unfold tkOk; omega)], fun k j hk => by rw [h95.1 k j hk, xU_nk (by omega)], fun z => h95.2 (by unfold tkOk at z; omega)⟩))
    · refine x_look (off := 52) (tgt := 84) hC dX1_takeItem_32 (by omega) (by decide) (by rw [w32]; decide) (by decide) ?_
      refine x_aload_n (pc' := 85) hC dX1_takeItem_84 rfl rfl ?_
      refine x_callV (pc' := 88) (n := 0) hC (c_takeWax hP hP0 hB hV1) ky_X1_takeWax kv_X1_takeWax kl_X1_68 dX1_takeItem_85 (hP 3 _ rfl) rfl rfl rfl rfl ⟨Nat.le_of_ble_eq_true rfl, Nat.le_of_ble_eq_true rfl⟩ (Nat.le_of_ble_eq_true rfl) ⟨Nat.le_refl _, Nat.le_refl _⟩ (Or.inl rfl) rfl (x_kv (fun μ85 h85 => ?_))
      exact x_zret hC dX1_takeItem_88 (by split <;> omega) (xI.mk (by
      have e1 : tkT c v0 v2 T = T := by unfold tkT; rw [if_neg (by omega), if_neg (by omega), if_neg (by omega), if_neg (by omega)]
      have e2 : tkR c v0 v1 T r = up r (2 + v0) v1 := by unfold tkR; rw [if_pos (by omega)]
      have e3 : tkS c os = 0 := by unfold tkS; exact if_neg (by omega)
      rw [e1, e2, e3]
      exact ⟨by rcases Decidable.em (n = 2 ∧ v0 < T 0 ∧ v1 ≤ 9) with zc | zc; rw [if_pos zc, if_pos (by unfold tkOk; omega)]; rw [if_neg zc, if_neg (by unfold tkOk; omega)], fun k j hk => by rw [h85.1 k j hk, xU_nk (by omega)], fun z => h85.2 (by unfold tkOk at z; omega)⟩))
    · refine x_look (off := 77) (tgt := 109) hC dX1_takeItem_32 (by omega) (by decide) (by simp only [Op.lookupswitch.offset, if_neg]; rw [if_neg (by omega), if_neg (by omega), if_neg (by omega), if_neg (by omega), if_neg (by omega)]) (by decide) ?_
      refine x_iconst (pc' := 110) hC dX1_takeItem_109 rfl ?_
      exact x_zret hC dX1_takeItem_110 (by first | exact Or.inl rfl | exact Or.inr rfl | omega) (xI.mk ⟨(if_neg (by unfold tkOk; omega)).symm, FrI.rf.u (by omega), fun z => absurd z (by unfold tkOk; omega)⟩)
  · refine x_aload_n (pc' := 7) hC dX1_takeItem_6 rfl rfl ?_
    refine x_getI (j' := 4) (pc' := 10) hC kf_X1_35 dX1_takeItem_7 (hP 3 _ rfl) rfl rfl rfl ?_
    rw [ho]
    refine x_if_eq (tgt := 24) (pc' := 13) hC dX1_takeItem_10 (by decide) rfl (by omega) (fun c10 => ?_) (fun c10 => ?_)
    · refine x_iconst (pc' := 25) hC dX1_takeItem_24 rfl ?_
      exact x_zret hC dX1_takeItem_25 (by first | exact Or.inl rfl | exact Or.inr rfl | omega) (xI.mk (by
      have e1 : tkT c v0 v2 T = up T 0 v0 := by unfold tkT; exact if_pos (by omega)
      have e2 : tkR c v0 v1 T r = r := by unfold tkR; rw [if_neg (by omega), if_neg (by omega), if_neg (by omega)]
      have e3 : tkS c os = os := by unfold tkS; exact if_pos (by omega)
      rw [e1, e2, e3]
      first
      | exact ⟨(if_neg (by unfold tkOk; omega)).symm, FrI.rf, fun z => absurd z (by unfold tkOk; omega)⟩
      | exact ⟨(if_neg (by unfold tkOk; omega)).symm, h14.1, fun z => absurd z (by unfold tkOk; omega)⟩
      | exact ⟨(if_pos (by unfold tkOk; omega)).symm, h14.1, fun z => h14.2 (by omega)⟩))
    · refine x_aload_n (pc' := 14) hC dX1_takeItem_13 rfl rfl ?_
      refine x_callV (pc' := 17) (n := 0) hC (c_takeSteps hP hQ0 hA0 hV0) ky_X1_takeSteps kv_X1_takeSteps kl_X1_64 dX1_takeItem_14 (hP 3 _ rfl) rfl rfl rfl rfl ⟨Nat.le_of_ble_eq_true rfl, Nat.le_of_ble_eq_true rfl⟩ (Nat.le_of_ble_eq_true rfl) ⟨Nat.le_refl _, Nat.le_refl _⟩ (Or.inl rfl) rfl (x_kv (fun μ14 h14 => ?_))
      refine x_ifb_eq (tgt := 24) (pc' := 20) hC dX1_takeItem_17 (by decide) rfl (fun c17 => ?_) (fun c17 => ?_)
      · refine x_iconst (pc' := 25) hC dX1_takeItem_24 rfl ?_
        exact x_zret hC dX1_takeItem_25 (by first | exact Or.inl rfl | exact Or.inr rfl | omega) (xI.mk (by
      have e1 : tkT c v0 v2 T = up T 0 v0 := by unfold tkT; exact if_pos (by omega)
      have e2 : tkR c v0 v1 T r = r := by unfold tkR; rw [if_neg (by omega), if_neg (by omega), if_neg (by omega)]
      have e3 : tkS c os = os := by unfold tkS; exact if_pos (by omega)
      rw [e1, e2, e3]
      first
      | exact ⟨(if_neg (by unfold tkOk; omega)).symm, FrI.rf, fun z => absurd z (by unfold tkOk; omega)⟩
      | exact ⟨(if_neg (by unfold tkOk; omega)).symm, h14.1, fun z => absurd z (by unfold tkOk; omega)⟩
      | exact ⟨(if_pos (by unfold tkOk; omega)).symm, h14.1, fun z => h14.2 (by omega)⟩))
      · refine x_iconst (pc' := 21) hC dX1_takeItem_20 rfl ?_
        refine x_goto (tgt := 25) hC dX1_takeItem_21 (by decide) ?_
        exact x_zret hC dX1_takeItem_25 (by first | exact Or.inl rfl | exact Or.inr rfl | omega) (xI.mk (by
      have e1 : tkT c v0 v2 T = up T 0 v0 := by unfold tkT; exact if_pos (by omega)
      have e2 : tkR c v0 v1 T r = r := by unfold tkR; rw [if_neg (by omega), if_neg (by omega), if_neg (by omega)]
      have e3 : tkS c os = os := by unfold tkS; exact if_pos (by omega)
      rw [e1, e2, e3]
      first
      | exact ⟨(if_neg (by unfold tkOk; omega)).symm, FrI.rf, fun z => absurd z (by unfold tkOk; omega)⟩
      | exact ⟨(if_neg (by unfold tkOk; omega)).symm, h14.1, fun z => absurd z (by unfold tkOk; omega)⟩
      | exact ⟨(if_pos (by unfold tkOk; omega)).symm, h14.1, fun z => h14.2 (by omega)⟩))
