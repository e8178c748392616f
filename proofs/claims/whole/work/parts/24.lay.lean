theorem prs_end {nt p os : Int} {d T r : Int → Int} {k : Nat} (h : ¬ p < nt ∨ k = 0) : prs nt d k p os T r = (-4, T, r) := by
  cases k with
  | zero => rfl
  | succ k => rw [prs, if_neg (by omega)]
theorem prs_bad {nt p os : Int} {d T r : Int → Int} {k : Nat} (h : p < nt) (h2 : ¬ ((rdN d 3 (p + 1) 0).1 ≠ -4 ∧ tkOk (d p) (rdN d 3 (p + 1) 0).2 (nv d (p + 1)) (nv d (nx d (p + 1))) (nv d (nx d (nx d (p + 1)))) T os)) : prs nt d (k + 1) p os T r = (p, T, r) := by
  rw [prs, if_pos h, if_neg h2]
theorem prs_go {nt p os : Int} {d T r : Int → Int} {k : Nat} (h : p < nt) (h2 : ((rdN d 3 (p + 1) 0).1 ≠ -4 ∧ tkOk (d p) (rdN d 3 (p + 1) 0).2 (nv d (p + 1)) (nv d (nx d (p + 1))) (nv d (nx d (nx d (p + 1)))) T os)) : prs nt d (k + 1) p os T r = prs nt d k (rdN d 3 (p + 1) 0).1 (tkS (d p) os) (tkT (d p) (nv d (p + 1)) (nv d (nx d (nx d (p + 1)))) T) (tkR (d p) (nv d (p + 1)) (nv d (nx d (p + 1))) T r) := by
  rw [prs, if_pos h, if_pos h2]
theorem tkS_01 {c os : Int} (h : os = 0 ∨ os = 1) : tkS c os = 0 ∨ tkS c os = 1 := by unfold tkS; split <;> omega
theorem SA_00 {μ μ1 μ2 : xM} (h1 : Pl μ1 4 T00) (h2 : FrB 6 μ1 μ2 ∧ St μ2 6 (fun k => if k = 1 then 20 else 0) ∧ ∀ j : Int, 0 ≤ j → j < 7 → μ2 (6 + 3) j = 0) : RdA (xU μ2 3 4 1) T00 r00 1 := by
  have e : T00 3 = 0 := by decide
  exact ⟨⟨(h1.frI h2.1.I (by omega)).frI (lo := 3) (hi := 4) (FrI.rf.u (by omega)) (by omega), fun m m0 m1 => absurd m1 (by omega), h2.2.1.frI (lo := 3) (hi := 4) (FrI.rf.u (by omega)) (by omega)⟩, xU_at2⟩
theorem RC.lay {μ μ1 : xM} {T r T' r' : Int → Int} {nt : Int} {tx : Int → Int} {un kp : List (Int → Int)} {sl : List (Int × Int)} (h : RC μ T r nt tx un kp sl) (hf : FrI 3 19 μ μ1) (hs : SA μ1 14 12 T' r') : RC (xU (xU (xU μ1 78 2 0) 24 1 0) 66 1 0) T' r' nt tx [] [] [] := by
  obtain ⟨h1, -, ⟨-, -, n1, h3, h4, -⟩, ⟨-, -, n2, h5, h6, -⟩, -⟩ := h
  have f : FrI 24 79 μ1 (xU (xU (xU μ1 78 2 0) 24 1 0) 66 1 0) := ((FrI.rf.u (by omega)).u (by omega)).u (by omega)
  refine ⟨(h1.frI hf (by omega)).frI f (by omega), hs.frI f (by omega) (by omega), ⟨?_, by simp, n1, ?_, h4, fun i u hu => by simp at hu⟩, ⟨?_, by simp, n2, ?_, h6, fun i u hu => by simp at hu⟩, ?_, by simp, fun i u hu => by simp at hu⟩
  · rw [xU_nk (by omega), xU_at2]; rfl
  · rw [xU_nk (by omega), xU_nj (by omega), xU_nk (by omega), hf _ _ (by omega), h3]
  · rw [xU_at2]; rfl
  · rw [xU_nj (by omega), xU_nk (by omega), xU_nk (by omega), hf _ _ (by omega), h5]
  · rw [xU_nk (by omega), xU_nk (by omega), xU_at2]; rfl
set_option maxRecDepth 100000 in
set_option maxHeartbeats 4000000 in
theorem c_clearP {g : xG} {l : Launch} {S : List xS} {μ : xM} {pl : Nat} (hp : xPln S pl) : xCt g l yX0_clear cX0_clear 1 none 0 0 0 0 [vR g pl] S μ S (xN (fun μ' => FrI pl (pl + 2) μ μ' ∧ Pl μ' pl T00)) := by
  refine x_enter (by decide) (Nat.le_of_ble_eq_true rfl) ?_
  intro zp ze zs zm za zb zh zc hC hz0
  have e : T00 3 = 0 := by decide
  refine x_aload_n (pc' := 1) hC dX0_clear_0 rfl rfl ?_
  refine x_iconst (pc' := 2) hC dX0_clear_1 rfl ?_
  refine x_putI (j' := 1) (pc' := 5) hC kf_X0_15 dX0_clear_2 hp.1 rfl rfl rfl rfl rfl ?_
  refine x_aload_n (pc' := 6) hC dX0_clear_5 rfl rfl ?_
  refine x_bipush (pc' := 8) hC dX0_clear_6 (by decide) rfl ?_
  refine x_putI (j' := 2) (pc' := 11) hC kf_X0_19 dX0_clear_8 hp.1 rfl rfl rfl rfl rfl ?_
  refine x_aload_n (pc' := 12) hC dX0_clear_11 rfl rfl ?_
  refine x_iconst (pc' := 13) hC dX0_clear_12 rfl ?_
  refine x_putI (j' := 3) (pc' := 16) hC kf_X0_22 dX0_clear_13 hp.1 rfl rfl rfl rfl rfl ?_
  refine x_aload_n (pc' := 17) hC dX0_clear_16 rfl rfl ?_
  refine x_iconst (pc' := 18) hC dX0_clear_17 rfl ?_
  refine x_putI (j' := 4) (pc' := 21) hC kf_X0_25 dX0_clear_18 hp.1 rfl rfl rfl rfl rfl ?_
  exact x_vret hC dX0_clear_21 (xN.mk ⟨(((FrI.rf.u (by omega)).u (by omega)).u (by omega)).u (by omega), by rw [xU_nj (by omega), xU_nj (by omega), xU_nj (by omega), xU_at2]; rfl, by rw [xU_nj (by omega), xU_nj (by omega), xU_at2]; rfl, by rw [xU_nj (by omega), xU_at2]; rfl, by rw [xU_at2]; rfl, fun m m0 m1 => absurd m1 (by omega)⟩)
set_option maxRecDepth 100000 in
set_option maxHeartbeats 4000000 in
theorem c_copyP {g : xG} {l : Launch} {S : List xS} {μ : xM} {pl pm : Nat} {T : Int → Int} (hp : xPln S pl) (hp2 : xPln S pm) (hd : pl + 2 ≤ pm ∨ pm + 2 ≤ pl) (hT : T 3 ≤ 7) (hA : Pl μ pm T) : xCt g l yX0_copy cX0_copy 2 none 1 40 0 0 [vR g pl, vR g pm] S μ S (xN (fun μ' => FrI pl (pl + 2) μ μ' ∧ Pl μ' pl T)) := by
  refine x_enter (by decide) (Nat.le_of_ble_eq_true rfl) ?_
  intro zp ze zs zm za zb zh zc hC hz0
  obtain ⟨a1, a2, a3, a4, a5⟩ := hA
  refine x_aload_n (pc' := 1) hC dX0_copy_0 rfl rfl ?_
  refine x_getR (pc' := 4) (b := pm + 1) hC kf_X0_9 dX0_copy_1 hp2.1 rfl rfl ?_
  refine x_iconst (pc' := 5) hC dX0_copy_4 rfl ?_
  refine x_aload_n (pc' := 6) hC dX0_copy_5 rfl rfl ?_
  refine x_getR (pc' := 9) (b := pl + 1) hC kf_X0_9 dX0_copy_6 hp.1 rfl rfl ?_
  refine x_iconst (pc' := 10) hC dX0_copy_9 rfl ?_
  refine x_aload_n (pc' := 11) hC dX0_copy_10 rfl rfl ?_
  refine x_getR (pc' := 14) (b := pl + 1) hC kf_X0_9 dX0_copy_11 hp.1 rfl rfl ?_
  refine x_alenI (n' := 7) (pc' := 15) hC dX0_copy_14 hp.2 rfl rfl ?_
  refine x_copyi (pc' := 18) (n := 7) (n' := 7) hC kl_X0_28 dX0_copy_15 hp2.2 hp.2 (by decide) (by decide) (by decide) rfl ⟨Nat.le_of_ble_eq_true rfl, Nat.le_of_ble_eq_true (by decide)⟩ rfl ?_
  refine x_aload_n (pc' := 19) hC dX0_copy_18 rfl rfl ?_
  refine x_aload_n (pc' := 20) hC dX0_copy_19 rfl rfl ?_
  refine x_getI (j' := 1) (pc' := 23) hC kf_X0_15 dX0_copy_20 hp2.1 rfl rfl rfl ?_
  rw [xCp_ne (by omega), a1]
  refine x_putI (j' := 1) (pc' := 26) hC kf_X0_15 dX0_copy_23 hp.1 rfl rfl rfl rfl rfl ?_
  refine x_aload_n (pc' := 27) hC dX0_copy_26 rfl rfl ?_
  refine x_aload_n (pc' := 28) hC dX0_copy_27 rfl rfl ?_
  refine x_getI (j' := 2) (pc' := 31) hC kf_X0_19 dX0_copy_28 hp2.1 rfl rfl rfl ?_
  rw [xU_nk (by omega), xCp_ne (by omega), a2]
  refine x_putI (j' := 2) (pc' := 34) hC kf_X0_19 dX0_copy_31 hp.1 rfl rfl rfl rfl rfl ?_
  refine x_aload_n (pc' := 35) hC dX0_copy_34 rfl rfl ?_
  refine x_aload_n (pc' := 36) hC dX0_copy_35 rfl rfl ?_
  refine x_getI (j' := 3) (pc' := 39) hC kf_X0_22 dX0_copy_36 hp2.1 rfl rfl rfl ?_
  rw [xU_nk (by omega), xU_nk (by omega), xCp_ne (by omega), a3]
  refine x_putI (j' := 3) (pc' := 42) hC kf_X0_22 dX0_copy_39 hp.1 rfl rfl rfl rfl rfl ?_
  refine x_aload_n (pc' := 43) hC dX0_copy_42 rfl rfl ?_
  refine x_aload_n (pc' := 44) hC dX0_copy_43 rfl rfl ?_
  refine x_getI (j' := 4) (pc' := 47) hC kf_X0_25 dX0_copy_44 hp2.1 rfl rfl rfl ?_
  rw [xU_nk (by omega), xU_nk (by omega), xU_nk (by omega), xCp_ne (by omega), a4]
  refine x_putI (j' := 4) (pc' := 50) hC kf_X0_25 dX0_copy_47 hp.1 rfl rfl rfl rfl rfl ?_
  exact x_vret hC dX0_copy_50 (xN.mk ⟨((((show FrI pl (pl + 2) μ (xCp μ (pm + 1) (pl + 1) 7) from fun k j hk => xCp_ne (by omega)).u (by omega)).u (by omega)).u (by omega)).u (by omega), by rw [xU_nj (by omega), xU_nj (by omega), xU_nj (by omega), xU_at2], by rw [xU_nj (by omega), xU_nj (by omega), xU_at2], by rw [xU_nj (by omega), xU_at2], xU_at2, fun m m0 m1 => by rw [xU_nk (by omega), xU_nk (by omega), xU_nk (by omega), xU_nk (by omega), xCp_at m0 (by omega)]; exact a5 m m0 m1⟩)
set_option maxRecDepth 100000 in
set_option maxHeartbeats 4000000 in
theorem c_firstFault {g : xG} {l : Launch} {S : List xS} {μ : xM} {nt : Int} {tx : Int → Int} (hP : xPre S) (hA : Tx μ nt tx) : xCt g l yX1_firstFault cX1_firstFault 5 (some .int) 4 82 0 0 [vR g 3, vR g 1] S μ S (xI (fun a μ' => a = (prsA nt tx).1 ∧ FrI 3 12 μ μ' ∧ (a = -4 → SA μ' 6 4 (prsA nt tx).2.1 (prsA nt tx).2.2) ∧ -4 ≤ a ∧ a ≤ 200)) := by
  refine x_enter (by decide) (Nat.le_of_ble_eq_true rfl) ?_
  intro zp ze zs zm za zb zh zc hC hz0
  have n0 := hA.2.1
  have n1 := hA.2.2.1
  have loop : ∀ (zn : Nat) (k : Nat) (p i os : Int) (T1 r1 : Int → Int) (μ1 : xM) (hi : i + k = nt) (hi0 : 0 ≤ i) (hp : 0 ≤ p ∧ p ≤ nt) (hos : os = 0 ∨ os = 1) (hQ : PT T1 r1 os) (hA1 : RdA μ1 T1 r1 os) (hF : FrI 3 12 μ μ1) (he : prs nt (dch nt tx) k p os T1 r1 = prsA nt tx), k < zn → xX g 5 zp l ze { frames := 4, cells := 0, slots := 0, locals := 82 } zs zm za zb zh zc 0 0 (MQ zb (xQ g S (xI (fun a μ' => a = (prsA nt tx).1 ∧ FrI 3 12 μ μ' ∧ (a = -4 → SA μ' 6 4 (prsA nt tx).2.1 (prsA nt tx).2.2) ∧ -4 ≤ a ∧ a ≤ 200))) za zs 0 0 (xA0 g)) S μ1 23 [some (vR g 3), some (vR g 1), some (vI p), some (vI i), none] [] := by
    intro zn
    induction zn with
    | zero => intros; rename_i hz; exact absurd hz (Nat.not_lt_zero _)
    | succ zn ih =>
      intro k p i os T1 r1 μ1 hi hi0 hp hos hQ hA1 hF he hn
      have hT1 := hA.frI hF (by omega)
      refine x_iload_n (pc' := 24) hC dX1_firstFault_23 rfl rfl ?_
      refine x_aload_n (pc' := 25) hC dX1_firstFault_24 rfl rfl ?_
      refine x_getI (j' := 1) (pc' := 28) hC kf_X1_43 dX1_firstFault_25 (hP 1 _ rfl) rfl rfl rfl ?_
      rw [hT1.1]
      refine x_icmp_ge (tgt := 80) (pc' := 31) hC dX1_firstFault_28 (by decide) rfl (by omega) (by omega) (fun c28 => ?_) (fun c28 => ?_)
      · refine x_bipush (pc' := 82) hC dX1_firstFault_80 (by decide) rfl ?_
        exact x_iret hC dX1_firstFault_82 (xI.mk (by rw [← he, prs_end (by omega)]; exact ⟨rfl, hF, fun _ => hA1.1, by omega, by omega⟩))
      · refine x_iload_n (pc' := 32) hC dX1_firstFault_31 rfl rfl ?_
        refine x_aload_n (pc' := 33) hC dX1_firstFault_32 rfl rfl ?_
        refine x_getI (j' := 1) (pc' := 36) hC kf_X1_43 dX1_firstFault_33 (hP 1 _ rfl) rfl rfl rfl ?_
        rw [hT1.1]
        refine x_icmp_ge (tgt := 80) (pc' := 39) hC dX1_firstFault_36 (by decide) rfl (by omega) (by omega) (fun c36 => ?_) (fun c36 => ?_)
        · refine x_bipush (pc' := 82) hC dX1_firstFault_80 (by decide) rfl ?_
          exact x_iret hC dX1_firstFault_82 (xI.mk (by rw [← he, prs_end (by omega)]; exact ⟨rfl, hF, fun _ => hA1.1, by omega, by omega⟩))
        · obtain ⟨k1, rfl⟩ : ∃ k1 : Nat, k = k1 + 1 := ⟨k - 1, by omega⟩
          refine x_aload_n (pc' := 40) hC dX1_firstFault_39 rfl rfl ?_
          refine x_aload_n (pc' := 41) hC dX1_firstFault_40 rfl rfl ?_
          refine x_iload_n (pc' := 42) hC dX1_firstFault_41 rfl rfl ?_
          refine x_iconst (pc' := 43) hC dX1_firstFault_42 rfl ?_
          refine x_iadd (pc' := 44) hC dX1_firstFault_43 rfl ?_
          refine x_callV (pc' := 47) (n := 2) hC (c_readNumbers rfl hP hT1 (by omega)) ky_X1_readNumbers kv_X1_readNumbers kl_X1_48 dX1_firstFault_44 (hP 3 _ rfl) rfl rfl rfl rfl ⟨Nat.le_of_ble_eq_true rfl, Nat.le_of_ble_eq_true rfl⟩ (Nat.le_of_ble_eq_true rfl) ⟨Nat.le_refl _, Nat.le_refl _⟩ (Or.inl rfl) rfl (x_ki (fun a44 μ44 h44 => ?_))
          refine x_istore (pc' := 49) hC dX1_firstFault_47 (by decide) rfl rfl ?_
          refine x_iload (pc' := 51) hC dX1_firstFault_49 rfl rfl ?_
          refine x_bipush (pc' := 53) hC dX1_firstFault_51 (by decide) rfl ?_
          refine x_icmp_eq (tgt := 69) (pc' := 56) hC dX1_firstFault_53 (by decide) rfl (by rcases Decidable.em (a44 = -4) with z | z; omega; have := h44.2.2 z; omega) (by omega) (fun c53 => ?_) (fun c53 => ?_)
          · refine x_iload_n (pc' := 70) hC dX1_firstFault_69 rfl rfl ?_
            exact x_iret hC dX1_firstFault_70 (xI.mk (by first
      | (rw [← he, prs_bad (by omega) (by rw [← h44.1]; omega)]; exact ⟨rfl, hF.tr h44.2.1.I, fun z => absurd z (by omega), by omega, by omega⟩)
      | (rw [← he, prs_bad (by omega) (by rw [e6]; exact fun z => c66 z.2)]; exact ⟨rfl, (hF.tr h44.2.1.I).tr h63.1, fun z => absurd z (by omega), by omega, by omega⟩)))
          · obtain ⟨e1, e2, e3, e4, e7⟩ := h44.2.2 c53
            have e5 := e2.vv e1 e3
            have hX := hT1.frI h44.2.1.I (by omega)
            have e6 : dch nt tx p = tx p := by rw [dch, if_pos (by omega)]
            have e8 := (hX.2.2.2 p (by omega) (by omega)).2
            refine x_aload_n (pc' := 57) hC dX1_firstFault_56 rfl rfl ?_
            refine x_aload_n (pc' := 58) hC dX1_firstFault_57 rfl rfl ?_
            refine x_getR (pc' := 61) (b := 2) hC kf_X1_52 dX1_firstFault_58 (hP 1 _ rfl) rfl rfl ?_
            refine x_iload_n (pc' := 62) hC dX1_firstFault_61 rfl rfl ?_
            refine x_cald (pc' := 63) hC dX1_firstFault_62 (hP 2 _ rfl) (by omega) (by decide) rfl ?_
            rw [(hX.2.2.2 p (by omega) (by omega)).1]
            refine x_callV (pc' := 66) (n := 1) hC (c_takeItem hP hQ (hA1.N h44.2.1) e5 (by omega) hos) ky_X1_takeItem kv_X1_takeItem kl_X1_56 dX1_firstFault_63 (hP 3 _ rfl) rfl rfl rfl rfl ⟨Nat.le_of_ble_eq_true rfl, Nat.le_of_ble_eq_true rfl⟩ (Nat.le_of_ble_eq_true rfl) ⟨Nat.le_refl _, Nat.le_refl _⟩ (Or.inl rfl) rfl (x_kv (fun μ63 h63 => ?_))
            refine x_ifb_ne (tgt := 71) (pc' := 69) hC dX1_firstFault_66 (by decide) rfl (fun c66 => ?_) (fun c66 => ?_)
            · refine x_iload (pc' := 73) hC dX1_firstFault_71 rfl rfl ?_
              refine x_istore_n (pc' := 74) hC dX1_firstFault_73 (by decide) rfl rfl ?_
              refine x_iinc (pc' := 77) hC dX1_firstFault_74 rfl (by decide) rfl rfl ?_
              refine x_goto (tgt := 23) hC dX1_firstFault_77 (by decide) ?_
              refine x_vs (vs' := [some (vR g 3), some (vR g 1), some (vI a44), some (vI (i + 1)), none]) (by intro i v; match i with | 0 => exact id | 1 => exact id | 2 => exact id | 3 => exact id | 4 => (intro h; cases h) | i + 5 => (intro h; cases h)) ?_
              exact ih k1 a44 _ _ _ _ _ (by omega) (by omega) (by omega) (tkS_01 hos) (PT_tk hQ c66) (h63.2 c66) ((hF.tr h44.2.1.I).tr h63.1) (by rw [← he, prs_go (by omega) ⟨by rw [← h44.1]; exact c53, by rw [e6]; exact c66⟩, h44.1, e6]) (by omega)
            · refine x_iload_n (pc' := 70) hC dX1_firstFault_69 rfl rfl ?_
              exact x_iret hC dX1_firstFault_70 (xI.mk (by first
      | (rw [← he, prs_bad (by omega) (by rw [← h44.1]; omega)]; exact ⟨rfl, hF.tr h44.2.1.I, fun z => absurd z (by omega), by omega, by omega⟩)
      | (rw [← he, prs_bad (by omega) (by rw [e6]; exact fun z => c66 z.2)]; exact ⟨rfl, (hF.tr h44.2.1.I).tr h63.1, fun z => absurd z (by omega), by omega, by omega⟩)))
  refine x_aload_n (pc' := 1) hC dX1_firstFault_0 rfl rfl ?_
  refine x_getR (pc' := 4) (b := 4) hC kf_X1_12 dX1_firstFault_1 (hP 3 _ rfl) rfl rfl ?_
  refine x_callV (pc' := 7) (n := 0) hC (c_clearP (sPlR hP)) ky_X0_clear kv_X0_clear kl_X1_39 dX1_firstFault_4 (hP 4 _ rfl) rfl rfl rfl rfl ⟨Nat.le_of_ble_eq_true rfl, Nat.le_of_ble_eq_true rfl⟩ (Nat.le_of_ble_eq_true rfl) ⟨Nat.le_refl _, Nat.le_refl _⟩ (Or.inl rfl) rfl (x_kn (fun μ4 h4 => ?_))
  refine x_aload_n (pc' := 8) hC dX1_firstFault_7 rfl rfl ?_
  refine x_getR (pc' := 11) (b := 6) hC kf_X1_23 dX1_firstFault_8 (hP 3 _ rfl) rfl rfl ?_
  refine x_callV (pc' := 14) (n := 0) hC (c_clearS (sRea hP)) ky_X4_clear kv_X4_clear kl_X1_42 dX1_firstFault_11 (hP 6 _ rfl) rfl rfl rfl rfl ⟨Nat.le_of_ble_eq_true rfl, Nat.le_of_ble_eq_true rfl⟩ (Nat.le_of_ble_eq_true rfl) ⟨Nat.le_refl _, Nat.le_refl _⟩ (Or.inl rfl) rfl (x_kn (fun μ11 h11 => ?_))
  refine x_aload_n (pc' := 15) hC dX1_firstFault_14 rfl rfl ?_
  refine x_iconst (pc' := 16) hC dX1_firstFault_15 rfl ?_
  refine x_putI (j' := 4) (pc' := 19) hC kf_X1_35 dX1_firstFault_16 (hP 3 _ rfl) rfl rfl rfl rfl rfl ?_
  refine x_iconst (pc' := 20) hC dX1_firstFault_19 rfl ?_
  refine x_istore_n (pc' := 21) hC dX1_firstFault_20 (by decide) rfl rfl ?_
  refine x_iconst (pc' := 22) hC dX1_firstFault_21 rfl ?_
  refine x_istore_n (pc' := 23) hC dX1_firstFault_22 (by decide) rfl rfl ?_
  exact loop (nt.toNat + 1) nt.toNat 0 0 1 _ _ _ (by omega) (by omega) (by omega) (Or.inr rfl) PT_00 (SA_00 (μ := μ) h4.2 h11) (((h4.1.mono (by omega) (by omega)).tr (h11.1.I.mono (by omega) (by omega))).u (by omega)) rfl (by omega)
set_option maxRecDepth 100000 in
set_option maxHeartbeats 4000000 in
theorem k_fault {g : xG} {l : Launch} {S : List xS} {μ : xM} {T r : Int → Int} {nt : Int} {tx : Int → Int} {un kp : List (Int → Int)} {sl : List (Int × Int)} (hP : xPre S) (hA : RC μ T r nt tx un kp sl) (hF : WF T r un kp) : xCt g l yX6_fault cX6_fault 1 (some .int) 5 106 0 0 [vR g 0] S μ S (xI (fun a μ' => a = aFault nt tx ∧ RC μ' T r nt tx un kp sl ∧ FrI 0 81 μ μ')) := by
  refine x_enter (by decide) (Nat.le_of_ble_eq_true rfl) ?_
  intro zp ze zs zm za zb zh zc hC hz0
  refine x_aload_n (pc' := 1) hC dX6_fault_0 rfl rfl ?_
  refine x_getR (pc' := 4) (b := 3) hC kf_X6_19 dX6_fault_1 (hP 0 _ rfl) rfl rfl ?_
  refine x_aload_n (pc' := 5) hC dX6_fault_4 rfl rfl ?_
  refine x_getR (pc' := 8) (b := 1) hC kf_X6_10 dX6_fault_5 (hP 0 _ rfl) rfl rfl ?_
  refine x_callV (pc' := 11) (n := 1) hC (c_firstFault hP hA.1) ky_X1_firstFault kv_X1_firstFault kl_X6_88 dX6_fault_8 (hP 3 _ rfl) rfl rfl rfl rfl ⟨Nat.le_of_ble_eq_true rfl, Nat.le_of_ble_eq_true rfl⟩ (Nat.le_of_ble_eq_true rfl) ⟨Nat.le_refl _, Nat.le_refl _⟩ (Or.inl rfl) rfl (x_ki (fun a8 μ8 h8 => ?_))
  exact x_iret hC dX6_fault_11 (xI.mk ⟨h8.1, hA.scr h8.2.1 (by omega), h8.2.1.mono (by omega) (by omega)⟩)
set_option maxRecDepth 100000 in
set_option maxHeartbeats 4000000 in
theorem c_layOut {g : xG} {l : Launch} {S : List xS} {μ : xM} {T r : Int → Int} {nt : Int} {tx : Int → Int} {un kp : List (Int → Int)} {sl : List (Int × Int)} (hP : xPre S) (hA : RC μ T r nt tx un kp sl) (hF : WF T r un kp) : xCt g l yX6_layOut cX6_layOut 1 (some .boolean) 5 106 0 0 [vR g 0] S μ S (xI (fun a μ' => a = (if okLay nt tx then 1 else 0) ∧ (okLay nt tx → RC μ' (prsA nt tx).2.1 (prsA nt tx).2.2 nt tx [] [] []) ∧ (¬ okLay nt tx → RC μ' T r nt tx un kp sl) ∧ FrI 0 81 μ μ')) := by
  refine x_enter (by decide) (Nat.le_of_ble_eq_true rfl) ?_
  intro zp ze zs zm za zb zh zc hC hz0
  obtain ⟨os, hPT⟩ := prsA_PT nt tx
  refine x_aload_n (pc' := 1) hC dX6_layOut_0 rfl rfl ?_
  refine x_getR (pc' := 4) (b := 3) hC kf_X6_19 dX6_layOut_1 (hP 0 _ rfl) rfl rfl ?_
  refine x_aload_n (pc' := 5) hC dX6_layOut_4 rfl rfl ?_
  refine x_getR (pc' := 8) (b := 1) hC kf_X6_10 dX6_layOut_5 (hP 0 _ rfl) rfl rfl ?_
  refine x_callV (pc' := 11) (n := 1) hC (c_firstFault hP hA.1) ky_X1_firstFault kv_X1_firstFault kl_X6_88 dX6_layOut_8 (hP 3 _ rfl) rfl rfl rfl rfl ⟨Nat.le_of_ble_eq_true rfl, Nat.le_of_ble_eq_true rfl⟩ (Nat.le_of_ble_eq_true rfl) ⟨Nat.le_refl _, Nat.le_refl _⟩ (Or.inl rfl) rfl (x_ki (fun a8 μ8 h8 => ?_))
  refine x_bipush (pc' := 13) hC dX6_layOut_11 (by decide) rfl ?_
  refine x_icmp_ne (tgt := 29) (pc' := 16) hC dX6_layOut_13 (by decide) rfl (by have := h8.2.2.2; omega) (by omega) (fun c13 => ?_) (fun c13 => ?_)
  · have b1 : ¬ okLay nt tx := fun z => c13 (h8.1.trans z.1)
    refine x_iconst (pc' := 30) hC dX6_layOut_29 rfl ?_
    exact x_zret hC dX6_layOut_30 (by first | exact Or.inl rfl | exact Or.inr rfl | omega) (xI.mk ⟨(if_neg b1).symm, fun z => absurd z b1, fun _ => hA.scr h8.2.1 (by omega), h8.2.1.mono (by omega) (by omega)⟩)
  · refine x_aload_n (pc' := 17) hC dX6_layOut_16 rfl rfl ?_
    refine x_getR (pc' := 20) (b := 3) hC kf_X6_19 dX6_layOut_17 (hP 0 _ rfl) rfl rfl ?_
    refine x_getR (pc' := 23) (b := 4) hC kf_X6_222 dX6_layOut_20 (hP 3 _ rfl) rfl rfl ?_
    refine x_getI (j' := 1) (pc' := 26) hC kf_X6_92 dX6_layOut_23 (hP 4 _ rfl) rfl rfl rfl ?_
    rw [(h8.2.2.1 (by omega)).mi]
    refine x_if_ne (tgt := 31) (pc' := 29) hC dX6_layOut_26 (by decide) rfl (by have := hPT.2.1; omega) (fun c26 => ?_) (fun c26 => ?_)
    · have b1 : okLay nt tx := ⟨by rw [← h8.1]; omega, c26⟩
      have b2 := h8.2.2.1 (by omega)
      have b3 := hPT.2.1
      refine x_aload_n (pc' := 32) hC dX6_layOut_31 rfl rfl ?_
      refine x_getR (pc' := 35) (b := 12) hC kf_X6_26 dX6_layOut_32 (hP 0 _ rfl) rfl rfl ?_
      refine x_aload_n (pc' := 36) hC dX6_layOut_35 rfl rfl ?_
      refine x_getR (pc' := 39) (b := 3) hC kf_X6_19 dX6_layOut_36 (hP 0 _ rfl) rfl rfl ?_
      refine x_getR (pc' := 42) (b := 4) hC kf_X6_222 dX6_layOut_39 (hP 3 _ rfl) rfl rfl ?_
      refine x_callV (pc' := 45) (n := 1) hC (c_copyP (sPl hP) (sPlR hP) (by omega) hPT.2.1.2 (h8.2.2.1 (by omega)).1) ky_X0_copy kv_X0_copy kl_X6_223 dX6_layOut_42 (hP 12 _ rfl) rfl rfl rfl rfl ⟨Nat.le_of_ble_eq_true rfl, Nat.le_of_ble_eq_true rfl⟩ (Nat.le_of_ble_eq_true rfl) ⟨Nat.le_refl _, Nat.le_refl _⟩ (Or.inl rfl) rfl (x_kn (fun μ42 h42 => ?_))
      refine x_aload_n (pc' := 46) hC dX6_layOut_45 rfl rfl ?_
      refine x_getR (pc' := 49) (b := 14) hC kf_X6_35 dX6_layOut_46 (hP 0 _ rfl) rfl rfl ?_
      refine x_aload_n (pc' := 50) hC dX6_layOut_49 rfl rfl ?_
      refine x_getR (pc' := 53) (b := 3) hC kf_X6_19 dX6_layOut_50 (hP 0 _ rfl) rfl rfl ?_
      refine x_getR (pc' := 56) (b := 6) hC kf_X6_225 dX6_layOut_53 (hP 3 _ rfl) rfl rfl ?_
      refine x_callV (pc' := 59) (n := 1) hC (c_copy (sNow hP) (sRea hP) (by omega) ((h8.2.2.1 (by omega)).2.2.frI h42.1 (by omega))) ky_X4_copy kv_X4_copy kl_X6_159 dX6_layOut_56 (hP 14 _ rfl) rfl rfl rfl rfl ⟨Nat.le_of_ble_eq_true rfl, Nat.le_of_ble_eq_true rfl⟩ (Nat.le_of_ble_eq_true rfl) ⟨Nat.le_refl _, Nat.le_refl _⟩ (Or.inl rfl) rfl (x_kn (fun μ56 h56 => ?_))
      refine x_aload_n (pc' := 60) hC dX6_layOut_59 rfl rfl ?_
      refine x_getR (pc' := 63) (b := 78) hC kf_X6_57 dX6_layOut_60 (hP 0 _ rfl) rfl rfl ?_
      refine x_iconst (pc' := 64) hC dX6_layOut_63 rfl ?_
      refine x_putI (j' := 2) (pc' := 67) hC kf_X6_192 dX6_layOut_64 (hP 78 _ rfl) rfl rfl rfl rfl rfl ?_
      refine x_aload_n (pc' := 68) hC dX6_layOut_67 rfl rfl ?_
      refine x_getR (pc' := 71) (b := 24) hC kf_X6_47 dX6_layOut_68 (hP 0 _ rfl) rfl rfl ?_
      refine x_iconst (pc' := 72) hC dX6_layOut_71 rfl ?_
      refine x_putI (j' := 1) (pc' := 75) hC kf_X6_153 dX6_layOut_72 (hP 24 _ rfl) rfl rfl rfl rfl rfl ?_
      refine x_aload_n (pc' := 76) hC dX6_layOut_75 rfl rfl ?_
      refine x_getR (pc' := 79) (b := 66) hC kf_X6_51 dX6_layOut_76 (hP 0 _ rfl) rfl rfl ?_
      refine x_iconst (pc' := 80) hC dX6_layOut_79 rfl ?_
      refine x_putI (j' := 1) (pc' := 83) hC kf_X6_153 dX6_layOut_80 (hP 66 _ rfl) rfl rfl rfl rfl rfl ?_
      refine x_iconst (pc' := 84) hC dX6_layOut_83 rfl ?_
      exact x_zret hC dX6_layOut_84 (by first | exact Or.inl rfl | exact Or.inr rfl | omega) (xI.mk (by
      have f : FrI 3 19 μ μ56 := ((h8.2.1.mono (by omega) (by omega)).tr (h42.1.mono (by omega) (by omega))).tr (h56.1.I.mono (by omega) (by omega))
      refine ⟨(if_pos b1).symm, fun _ => hA.lay f ⟨h42.2.frI h56.1.I (by omega), fun m m0 m1 => ?_, h56.2.1⟩, fun z => absurd b1 z, (((f.mono (by omega) (by omega)).u (by omega)).u (by omega)).u (by omega)⟩
      rw [h56.2.2 m m0 (by omega), h42.1 _ _ (by omega)]
      exact b2.2.1 m m0 m1))
    · have b1 : ¬ okLay nt tx := fun z => z.2 (by omega)
      refine x_iconst (pc' := 30) hC dX6_layOut_29 rfl ?_
      exact x_zret hC dX6_layOut_30 (by first | exact Or.inl rfl | exact Or.inr rfl | omega) (xI.mk ⟨(if_neg b1).symm, fun z => absurd z b1, fun _ => hA.scr h8.2.1 (by omega), h8.2.1.mono (by omega) (by omega)⟩)
set_option maxRecDepth 100000 in
set_option maxHeartbeats 4000000 in
theorem k_lay {g : xG} {l : Launch} {S : List xS} {μ : xM} {T r : Int → Int} {nt : Int} {tx : Int → Int} {un kp : List (Int → Int)} {sl : List (Int × Int)} (hP : xPre S) (hA : RC μ T r nt tx un kp sl) (hF : WF T r un kp) : xCt g l yX6_lay cX6_lay 1 (some .int) 6 126 0 0 [vR g 0] S μ S (xI (fun a μ' => a = aLay nt tx ∧ (okLay nt tx → RC μ' (prsA nt tx).2.1 (prsA nt tx).2.2 nt tx [] [] []) ∧ (¬ okLay nt tx → RC μ' T r nt tx un kp sl) ∧ FrI 0 81 μ μ')) := by
  refine x_enter (by decide) (Nat.le_of_ble_eq_true rfl) ?_
  intro zp ze zs zm za zb zh zc hC hz0
  refine x_aload_n (pc' := 1) hC dX6_lay_0 rfl rfl ?_
  refine x_callV (pc' := 4) (n := 0) hC (c_layOut hP hA hF) ky_X6_layOut kv_X6_layOut kl_X6_77 dX6_lay_1 (hP 0 _ rfl) rfl rfl rfl rfl ⟨Nat.le_of_ble_eq_true rfl, Nat.le_of_ble_eq_true rfl⟩ (Nat.le_of_ble_eq_true rfl) ⟨Nat.le_refl _, Nat.le_refl _⟩ (Or.inl rfl) rfl (x_kv (fun μ1 h1 => ?_))
  refine x_ifb_eq (tgt := 17) (pc' := 7) hC dX6_lay_4 (by decide) rfl (fun c4 => ?_) (fun c4 => ?_)
  · refine x_bipush (pc' := 19) hC dX6_lay_17 (by decide) rfl ?_
    exact x_iret hC dX6_lay_19 (xI.mk ⟨by unfold aLay; first | rw [if_pos c4] | rw [if_neg c4], h1⟩)
  · refine x_aload_n (pc' := 8) hC dX6_lay_7 rfl rfl ?_
    refine x_getR (pc' := 11) (b := 12) hC kf_X6_26 dX6_lay_8 (hP 0 _ rfl) rfl rfl ?_
    refine x_getI (j' := 1) (pc' := 14) hC kf_X6_92 dX6_lay_11 (hP 12 _ rfl) rfl rfl rfl ?_
    rw [(h1.1 c4).2.1.mi]
    refine x_goto (tgt := 19) hC dX6_lay_14 (by decide) ?_
    exact x_iret hC dX6_lay_19 (xI.mk ⟨by unfold aLay; first | rw [if_pos c4] | rw [if_neg c4], h1⟩)
