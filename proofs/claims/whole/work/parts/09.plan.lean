theorem i_rg (x : Int32) : -2147483648 ≤ x.toInt ∧ x.toInt < 2147483648 := ⟨by have := Int32.le_toInt x; omega, by have := Int32.toInt_lt x; omega⟩
theorem iAnd_rg (a b : Int) : -2147483648 ≤ iAnd a b ∧ iAnd a b < 2147483648 := i_rg _
set_option maxRecDepth 100000 in
set_option maxHeartbeats 4000000 in
theorem c_hasStep {g : xG} {l : Launch} {S : List xS} {μ : xM} {pl : Nat} {T : Int → Int} {x : Int} (hp : xPln S pl) (hA : Pl μ pl T) (hT : 3 ≤ T 0 ∧ T 0 ≤ 16) (hx : -2147483648 ≤ x ∧ x < 2147483648) : xCt g l yX0_hasStep cX0_hasStep 2 (some .boolean) 0 0 0 0 [vR g pl, vI x] S μ S (xI (fun a μ' => a = (if 0 ≤ x ∧ x < T 0 then 1 else 0) ∧ μ' = μ)) := by
  refine x_enter (by decide) (Nat.le_of_ble_eq_true rfl) ?_
  intro zp ze zs zm za zb zh zc hC hz0
  have e0 := hA.2.1
  have e1 := hT.1
  have e2 := hT.2
  refine x_iload_n (pc' := 1) hC dX0_hasStep_0 rfl rfl ?_
  refine x_if_lt (tgt := 16) (pc' := 4) hC dX0_hasStep_1 (by decide) rfl (by omega) (fun c1 => ?_) (fun c1 => ?_)
  · refine x_iconst (pc' := 17) hC dX0_hasStep_16 rfl ?_
    exact x_zret hC dX0_hasStep_17 (by first | exact Or.inl rfl | exact Or.inr rfl | omega) (xI.mk ⟨by first | (rw [if_pos (by omega)]) | (rw [if_neg (by omega)]), rfl⟩)
  · refine x_iload_n (pc' := 5) hC dX0_hasStep_4 rfl rfl ?_
    refine x_aload_n (pc' := 6) hC dX0_hasStep_5 rfl rfl ?_
    refine x_getI (j' := 2) (pc' := 9) hC kf_X0_19 dX0_hasStep_6 hp.1 rfl rfl rfl ?_
    refine x_icmp_ge (tgt := 16) (pc' := 12) hC dX0_hasStep_9 (by decide) rfl (by omega) (by omega) (fun c9 => ?_) (fun c9 => ?_)
    · refine x_iconst (pc' := 17) hC dX0_hasStep_16 rfl ?_
      exact x_zret hC dX0_hasStep_17 (by first | exact Or.inl rfl | exact Or.inr rfl | omega) (xI.mk ⟨by first | (rw [if_pos (by omega)]) | (rw [if_neg (by omega)]), rfl⟩)
    · refine x_iconst (pc' := 13) hC dX0_hasStep_12 rfl ?_
      refine x_goto (tgt := 17) hC dX0_hasStep_13 (by decide) ?_
      exact x_zret hC dX0_hasStep_17 (by first | exact Or.inl rfl | exact Or.inr rfl | omega) (xI.mk ⟨by first | (rw [if_pos (by omega)]) | (rw [if_neg (by omega)]), rfl⟩)
set_option maxRecDepth 100000 in
set_option maxHeartbeats 4000000 in
theorem c_hasMinister {g : xG} {l : Launch} {S : List xS} {μ : xM} {pl : Nat} {T : Int → Int} {x : Int} (hp : xPln S pl) (hA : Pl μ pl T) (hT : WT T) (hx : -2147483648 ≤ x ∧ x < 2147483648) : xCt g l yX0_hasMinister cX0_hasMinister 2 (some .boolean) 0 0 0 0 [vR g pl, vI x] S μ S (xI (fun a μ' => a = (if 0 ≤ x ∧ x < T 3 then 1 else 0) ∧ μ' = μ)) := by
  refine x_enter (by decide) (Nat.le_of_ble_eq_true rfl) ?_
  intro zp ze zs zm za zb zh zc hC hz0
  have e0 := hA.1
  have e1 := hT.2.2.1
  have e2 := hT.2.2.2.1
  refine x_iload_n (pc' := 1) hC dX0_hasMinister_0 rfl rfl ?_
  refine x_if_lt (tgt := 16) (pc' := 4) hC dX0_hasMinister_1 (by decide) rfl (by omega) (fun c1 => ?_) (fun c1 => ?_)
  · refine x_iconst (pc' := 17) hC dX0_hasMinister_16 rfl ?_
    exact x_zret hC dX0_hasMinister_17 (by first | exact Or.inl rfl | exact Or.inr rfl | omega) (xI.mk ⟨by first | (rw [if_pos (by omega)]) | (rw [if_neg (by omega)]), rfl⟩)
  · refine x_iload_n (pc' := 5) hC dX0_hasMinister_4 rfl rfl ?_
    refine x_aload_n (pc' := 6) hC dX0_hasMinister_5 rfl rfl ?_
    refine x_getI (j' := 1) (pc' := 9) hC kf_X0_15 dX0_hasMinister_6 hp.1 rfl rfl rfl ?_
    refine x_icmp_ge (tgt := 16) (pc' := 12) hC dX0_hasMinister_9 (by decide) rfl (by omega) (by omega) (fun c9 => ?_) (fun c9 => ?_)
    · refine x_iconst (pc' := 17) hC dX0_hasMinister_16 rfl ?_
      exact x_zret hC dX0_hasMinister_17 (by first | exact Or.inl rfl | exact Or.inr rfl | omega) (xI.mk ⟨by first | (rw [if_pos (by omega)]) | (rw [if_neg (by omega)]), rfl⟩)
    · refine x_iconst (pc' := 13) hC dX0_hasMinister_12 rfl ?_
      refine x_goto (tgt := 17) hC dX0_hasMinister_13 (by decide) ?_
      exact x_zret hC dX0_hasMinister_17 (by first | exact Or.inl rfl | exact Or.inr rfl | omega) (xI.mk ⟨by first | (rw [if_pos (by omega)]) | (rw [if_neg (by omega)]), rfl⟩)
set_option maxRecDepth 100000 in
set_option maxHeartbeats 4000000 in
theorem c_isTop {g : xG} {l : Launch} {S : List xS} {μ : xM} {pl : Nat} {T : Int → Int} {x : Int} (hp : xPln S pl) (hA : Pl μ pl T) (hT : WT T) (hx : -2147483648 ≤ x ∧ x < 2147483648) : xCt g l yX0_isTop cX0_isTop 2 (some .boolean) 0 0 0 0 [vR g pl, vI x] S μ S (xI (fun a μ' => a = (if x = T 0 - 1 then 1 else 0) ∧ μ' = μ)) := by
  refine x_enter (by decide) (Nat.le_of_ble_eq_true rfl) ?_
  intro zp ze zs zm za zb zh zc hC hz0
  have e0 := hA.2.1
  have e1 := hT.1
  have e2 := hT.2.1
  refine x_iload_n (pc' := 1) hC dX0_isTop_0 rfl rfl ?_
  refine x_aload_n (pc' := 2) hC dX0_isTop_1 rfl rfl ?_
  refine x_getI (j' := 2) (pc' := 5) hC kf_X0_19 dX0_isTop_2 hp.1 rfl rfl rfl ?_
  refine x_iconst (pc' := 6) hC dX0_isTop_5 rfl ?_
  refine x_isub (pc' := 7) hC dX0_isTop_6 rfl ?_
  refine x_icmp_ne (tgt := 14) (pc' := 10) hC dX0_isTop_7 (by decide) rfl (by omega) (by omega) (fun c7 => ?_) (fun c7 => ?_)
  · refine x_iconst (pc' := 15) hC dX0_isTop_14 rfl ?_
    exact x_zret hC dX0_isTop_15 (by first | exact Or.inl rfl | exact Or.inr rfl | omega) (xI.mk ⟨by first | (rw [if_pos (by omega)]) | (rw [if_neg (by omega)]), rfl⟩)
  · refine x_iconst (pc' := 11) hC dX0_isTop_10 rfl ?_
    refine x_goto (tgt := 15) hC dX0_isTop_11 (by decide) ?_
    exact x_zret hC dX0_isTop_15 (by first | exact Or.inl rfl | exact Or.inr rfl | omega) (xI.mk ⟨by first | (rw [if_pos (by omega)]) | (rw [if_neg (by omega)]), rfl⟩)
set_option maxRecDepth 100000 in
set_option maxHeartbeats 4000000 in
theorem c_hasKnob {g : xG} {l : Launch} {S : List xS} {μ : xM} {pl : Nat} {T : Int → Int} {x : Int} (hp : xPln S pl) (hA : Pl μ pl T) : xCt g l yX0_hasKnob cX0_hasKnob 2 (some .boolean) 0 0 0 0 [vR g pl, vI x] S μ S (xI (fun a μ' => a = (if hsb (T 1) x = true then 1 else 0) ∧ μ' = μ)) := by
  refine x_enter (by decide) (Nat.le_of_ble_eq_true rfl) ?_
  intro zp ze zs zm za zb zh zc hC hz0
  have e0 := hA.2.2.1
  refine x_aload_n (pc' := 1) hC dX0_hasKnob_0 rfl rfl ?_
  refine x_getI (j' := 3) (pc' := 4) hC kf_X0_22 dX0_hasKnob_1 hp.1 rfl rfl rfl ?_
  refine x_iload_n (pc' := 5) hC dX0_hasKnob_4 rfl rfl ?_
  refine x_ishr (pc' := 6) hC dX0_hasKnob_5 rfl ?_
  rw [e0]
  refine x_iconst (pc' := 7) hC dX0_hasKnob_6 rfl ?_
  refine x_iand (pc' := 8) hC dX0_hasKnob_7 rfl ?_
  refine x_iconst (pc' := 9) hC dX0_hasKnob_8 rfl ?_
  refine x_icmp_ne (tgt := 16) (pc' := 12) hC dX0_hasKnob_9 (by decide) rfl (iAnd_rg _ _) (by omega) (fun c9 => ?_) (fun c9 => ?_)
  · refine x_iconst (pc' := 17) hC dX0_hasKnob_16 rfl ?_
    exact x_zret hC dX0_hasKnob_17 (by first | exact Or.inl rfl | exact Or.inr rfl | omega) (xI.mk ⟨by first | (rw [if_pos (by simpa [hsb] using c9)]) | (rw [if_neg (by simpa [hsb] using c9)]), rfl⟩)
  · refine x_iconst (pc' := 13) hC dX0_hasKnob_12 rfl ?_
    refine x_goto (tgt := 17) hC dX0_hasKnob_13 (by decide) ?_
    exact x_zret hC dX0_hasKnob_17 (by first | exact Or.inl rfl | exact Or.inr rfl | omega) (xI.mk ⟨by first | (rw [if_pos (by simpa [hsb] using c9)]) | (rw [if_neg (by simpa [hsb] using c9)]), rfl⟩)
set_option maxRecDepth 100000 in
set_option maxHeartbeats 4000000 in
theorem c_hasTurn {g : xG} {l : Launch} {S : List xS} {μ : xM} {pl : Nat} {T : Int → Int} {x : Int} (hp : xPln S pl) (hA : Pl μ pl T) : xCt g l yX0_hasTurn cX0_hasTurn 2 (some .boolean) 0 0 0 0 [vR g pl, vI x] S μ S (xI (fun a μ' => a = (if hsb (T 2) x = true then 1 else 0) ∧ μ' = μ)) := by
  refine x_enter (by decide) (Nat.le_of_ble_eq_true rfl) ?_
  intro zp ze zs zm za zb zh zc hC hz0
  have e0 := hA.2.2.2.1
  refine x_aload_n (pc' := 1) hC dX0_hasTurn_0 rfl rfl ?_
  refine x_getI (j' := 4) (pc' := 4) hC kf_X0_25 dX0_hasTurn_1 hp.1 rfl rfl rfl ?_
  refine x_iload_n (pc' := 5) hC dX0_hasTurn_4 rfl rfl ?_
  refine x_ishr (pc' := 6) hC dX0_hasTurn_5 rfl ?_
  rw [e0]
  refine x_iconst (pc' := 7) hC dX0_hasTurn_6 rfl ?_
  refine x_iand (pc' := 8) hC dX0_hasTurn_7 rfl ?_
  refine x_iconst (pc' := 9) hC dX0_hasTurn_8 rfl ?_
  refine x_icmp_ne (tgt := 16) (pc' := 12) hC dX0_hasTurn_9 (by decide) rfl (iAnd_rg _ _) (by omega) (fun c9 => ?_) (fun c9 => ?_)
  · refine x_iconst (pc' := 17) hC dX0_hasTurn_16 rfl ?_
    exact x_zret hC dX0_hasTurn_17 (by first | exact Or.inl rfl | exact Or.inr rfl | omega) (xI.mk ⟨by first | (rw [if_pos (by simpa [hsb] using c9)]) | (rw [if_neg (by simpa [hsb] using c9)]), rfl⟩)
  · refine x_iconst (pc' := 13) hC dX0_hasTurn_12 rfl ?_
    refine x_goto (tgt := 17) hC dX0_hasTurn_13 (by decide) ?_
    exact x_zret hC dX0_hasTurn_17 (by first | exact Or.inl rfl | exact Or.inr rfl | omega) (xI.mk ⟨by first | (rw [if_pos (by simpa [hsb] using c9)]) | (rw [if_neg (by simpa [hsb] using c9)]), rfl⟩)
