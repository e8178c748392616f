theorem xU_self {μ : xM} {k : Nat} {j : Int} : xU μ k j (μ k j) = μ := by
  funext k' j'
  by_cases h : k' = k ∧ j' = j
  · obtain ⟨rfl, rfl⟩ := h
    rw [xU_at2]
  · simp [xU, h]
set_option maxRecDepth 100000 in
set_option maxHeartbeats 4000000 in
theorem c_speedOf {g : xG} {l : Launch} {S : List xS} {μ : xM} {b pl : Nat} {T r : Int → Int} {m : Int} (hb : xStd S b pl) (hA : SA μ b pl T r) (hT : WT T) (hR : WR T r) (hm : 0 ≤ m ∧ m < T 3) : xCt g l yX4_speedOf cX4_speedOf 4 (some .int) 1 21 0 0 [vR g b, vI m] S μ S (xI (fun a μ' => a = lack T r m ∧ μ' = μ)) := by
  refine x_enter (by decide) (Nat.le_of_ble_eq_true rfl) ?_
  intro zp ze zs zm za zb zh zc hC hz0
  have t0 := hT.1
  have t1 := hT.2.1
  have t2 := hT.2.2.1
  have t3 := hT.2.2.2.1
  have q := hR.2.1 m hm.1 hm.2
  have q2 := hT.2.2.2.2 m hm.1 hm.2
  have q3 := hR.1 (r (18 + m)) (by omega) (by omega)
  refine x_aload_n (pc' := 1) hC dX4_speedOf_0 rfl rfl ?_
  refine x_getR (pc' := 4) (b := b + 2) hC kf_X4_15 dX4_speedOf_1 hb.1 rfl rfl ?_
  refine x_iload_n (pc' := 5) hC dX4_speedOf_4 rfl rfl ?_
  refine x_iald (pc' := 6) hC dX4_speedOf_5 hb.2.2.1 (by omega) (by decide) rfl ?_
  rw [hA.pc (by omega) (by omega)]
  refine x_istore_n (pc' := 7) hC dX4_speedOf_6 (by decide) rfl rfl ?_
  refine x_aload_n (pc' := 8) hC dX4_speedOf_7 rfl rfl ?_
  refine x_getR (pc' := 11) (b := pl) hC kf_X4_31 dX4_speedOf_8 hb.1 rfl rfl ?_
  refine x_iload_n (pc' := 12) hC dX4_speedOf_11 rfl rfl ?_
  refine x_callV (pc' := 15) (n := 1) hC (c_hasStep (T := T) hb.pl hA.1 ⟨hT.1, hT.2.1⟩ (by omega)) ky_X0_hasStep kv_X0_hasStep kl_X4_55 dX4_speedOf_12 hb.2.2.2.2.2.1.1 rfl rfl rfl rfl ⟨Nat.le_of_ble_eq_true rfl, Nat.le_of_ble_eq_true rfl⟩ (Nat.le_of_ble_eq_true rfl) ⟨Nat.le_refl _, Nat.le_refl _⟩ (Or.inl rfl) rfl (x_kd ?_)
  refine x_ifb_ne (tgt := 20) (pc' := 18) hC dX4_speedOf_15 (by decide) rfl (fun c15 => ?_) (fun c15 => ?_)
  · refine x_aload_n (pc' := 21) hC dX4_speedOf_20 rfl rfl ?_
    refine x_getR (pc' := 24) (b := pl) hC kf_X4_31 dX4_speedOf_21 hb.1 rfl rfl ?_
    refine x_getR (pc' := 27) (b := pl + 1) hC kf_X4_83 dX4_speedOf_24 hb.2.2.2.2.2.1.1 rfl rfl ?_
    refine x_iload_n (pc' := 28) hC dX4_speedOf_27 rfl rfl ?_
    refine x_iald (pc' := 29) hC dX4_speedOf_28 hb.2.2.2.2.2.1.2 (by omega) (by decide) rfl ?_
    rw [hA.kd hm.1 hm.2]
    refine x_iconst (pc' := 30) hC dX4_speedOf_29 rfl ?_
    refine x_icmp_ne (tgt := 48) (pc' := 33) hC dX4_speedOf_30 (by decide) rfl (by omega) (by omega) (fun c30 => ?_) (fun c30 => ?_)
    · refine x_iconst (pc' := 49) hC dX4_speedOf_48 rfl ?_
      refine x_istore_n (pc' := 50) hC dX4_speedOf_49 (by decide) rfl rfl ?_
      refine x_aload_n (pc' := 51) hC dX4_speedOf_50 rfl rfl ?_
      refine x_getR (pc' := 54) (b := b + 1) hC kf_X4_9 dX4_speedOf_51 hb.1 rfl rfl ?_
      refine x_iload_n (pc' := 55) hC dX4_speedOf_54 rfl rfl ?_
      refine x_iald (pc' := 56) hC dX4_speedOf_55 hb.2.1 (by omega) (by decide) rfl ?_
      rw [hA.wx (by omega) (by omega)]
      refine x_aload_n (pc' := 57) hC dX4_speedOf_56 rfl rfl ?_
      refine x_getR (pc' := 60) (b := b + 3) hC kf_X4_18 dX4_speedOf_57 hb.1 rfl rfl ?_
      refine x_iload_n (pc' := 61) hC dX4_speedOf_60 rfl rfl ?_
      refine x_iald (pc' := 62) hC dX4_speedOf_61 hb.2.2.2.1 (by omega) (by decide) rfl ?_
      rw [hA.gp hm.1 hm.2]
      refine x_isub (pc' := 63) hC dX4_speedOf_62 rfl ?_
      refine x_iload_n (pc' := 64) hC dX4_speedOf_63 rfl rfl ?_
      refine x_isub (pc' := 65) hC dX4_speedOf_64 rfl ?_
      exact x_iret hC dX4_speedOf_65 (xI.mk ⟨by unfold lack; first | rw [if_pos (by omega)] | rw [if_neg (by omega)], rfl⟩)
    · refine x_aload_n (pc' := 34) hC dX4_speedOf_33 rfl rfl ?_
      refine x_getR (pc' := 37) (b := pl) hC kf_X4_31 dX4_speedOf_34 hb.1 rfl rfl ?_
      refine x_iload_n (pc' := 38) hC dX4_speedOf_37 rfl rfl ?_
      refine x_callV (pc' := 41) (n := 1) hC (c_isTop (T := T) hb.pl hA.1 hT (by omega)) ky_X0_isTop kv_X0_isTop kl_X4_86 dX4_speedOf_38 hb.2.2.2.2.2.1.1 rfl rfl rfl rfl ⟨Nat.le_of_ble_eq_true rfl, Nat.le_of_ble_eq_true rfl⟩ (Nat.le_of_ble_eq_true rfl) ⟨Nat.le_refl _, Nat.le_refl _⟩ (Or.inl rfl) rfl (x_kd ?_)
      refine x_ifb_eq (tgt := 48) (pc' := 44) hC dX4_speedOf_41 (by decide) rfl (fun c41 => ?_) (fun c41 => ?_)
      · refine x_iconst (pc' := 49) hC dX4_speedOf_48 rfl ?_
        refine x_istore_n (pc' := 50) hC dX4_speedOf_49 (by decide) rfl rfl ?_
        refine x_aload_n (pc' := 51) hC dX4_speedOf_50 rfl rfl ?_
        refine x_getR (pc' := 54) (b := b + 1) hC kf_X4_9 dX4_speedOf_51 hb.1 rfl rfl ?_
        refine x_iload_n (pc' := 55) hC dX4_speedOf_54 rfl rfl ?_
        refine x_iald (pc' := 56) hC dX4_speedOf_55 hb.2.1 (by omega) (by decide) rfl ?_
        rw [hA.wx (by omega) (by omega)]
        refine x_aload_n (pc' := 57) hC dX4_speedOf_56 rfl rfl ?_
        refine x_getR (pc' := 60) (b := b + 3) hC kf_X4_18 dX4_speedOf_57 hb.1 rfl rfl ?_
        refine x_iload_n (pc' := 61) hC dX4_speedOf_60 rfl rfl ?_
        refine x_iald (pc' := 62) hC dX4_speedOf_61 hb.2.2.2.1 (by omega) (by decide) rfl ?_
        rw [hA.gp hm.1 hm.2]
        refine x_isub (pc' := 63) hC dX4_speedOf_62 rfl ?_
        refine x_iload_n (pc' := 64) hC dX4_speedOf_63 rfl rfl ?_
        refine x_isub (pc' := 65) hC dX4_speedOf_64 rfl ?_
        exact x_iret hC dX4_speedOf_65 (xI.mk ⟨by unfold lack; first | rw [if_pos (by omega)] | rw [if_neg (by omega)], rfl⟩)
      · refine x_iconst (pc' := 45) hC dX4_speedOf_44 rfl ?_
        refine x_goto (tgt := 49) hC dX4_speedOf_45 (by decide) ?_
        refine x_istore_n (pc' := 50) hC dX4_speedOf_49 (by decide) rfl rfl ?_
        refine x_aload_n (pc' := 51) hC dX4_speedOf_50 rfl rfl ?_
        refine x_getR (pc' := 54) (b := b + 1) hC kf_X4_9 dX4_speedOf_51 hb.1 rfl rfl ?_
        refine x_iload_n (pc' := 55) hC dX4_speedOf_54 rfl rfl ?_
        refine x_iald (pc' := 56) hC dX4_speedOf_55 hb.2.1 (by omega) (by decide) rfl ?_
        rw [hA.wx (by omega) (by omega)]
        refine x_aload_n (pc' := 57) hC dX4_speedOf_56 rfl rfl ?_
        refine x_getR (pc' := 60) (b := b + 3) hC kf_X4_18 dX4_speedOf_57 hb.1 rfl rfl ?_
        refine x_iload_n (pc' := 61) hC dX4_speedOf_60 rfl rfl ?_
        refine x_iald (pc' := 62) hC dX4_speedOf_61 hb.2.2.2.1 (by omega) (by decide) rfl ?_
        rw [hA.gp hm.1 hm.2]
        refine x_isub (pc' := 63) hC dX4_speedOf_62 rfl ?_
        refine x_iload_n (pc' := 64) hC dX4_speedOf_63 rfl rfl ?_
        refine x_isub (pc' := 65) hC dX4_speedOf_64 rfl ?_
        exact x_iret hC dX4_speedOf_65 (xI.mk ⟨by unfold lack; first | rw [if_pos (by omega)] | rw [if_neg (by omega)], rfl⟩)
  · exact absurd ⟨q.1, q.2⟩ c15
set_option maxRecDepth 100000 in
set_option maxHeartbeats 4000000 in
theorem c_comeDown {g : xG} {l : Launch} {S : List xS} {μ : xM} {b pl : Nat} {T r : Int → Int} {m sp0 : Int} (hb : xStd S b pl) (hA : SA μ b pl T r) (hT : WT T) (hR : WR T r) (hm : 0 ≤ m ∧ m < T 3) (hs : -1000 ≤ sp0 ∧ sp0 ≤ 60) : xCt g l yX4_comeDown cX4_comeDown 8 none 1 21 0 0 [vR g b, vI m, vI sp0] S μ S (xN (fun μ' => FrS b μ μ' ∧ St μ' b (slide T m 16 sp0 r))) := by
  refine x_enter (by decide) (Nat.le_of_ble_eq_true rfl) ?_
  intro zp ze zs zm za zb zh zc hC hz0
  have t0 := hT.1
  have t1 := hT.2.1
  have t2 := hT.2.2.1
  have t3 := hT.2.2.2.1
  have q := hR.2.1 m hm.1 hm.2
  have q2 := hT.2.2.2.2 m hm.1 hm.2
  have loop : ∀ (zn : Nat) (br gt sp : Int) (r1 : Int → Int) (μ1 : xM) (f : Nat) (hbr : br = if T (4 + m) = 1 then 4 else 2) (hgt : gt = if T (4 + m) = 2 then 1 else 0) (h1 : FrS b μ μ1) (h2 : St (xU μ1 (b + 2) m (r1 (18 + m))) b r1) (h3 : WR T r1) (h4 : -1000 ≤ sp ∧ sp ≤ 200 - 9 * r1 (18 + m)) (hf : r1 (18 + m) ≤ f) (h5 : slide T m f sp r1 = (slide T m 16 sp0 r)), f < zn → xX g 8 zp l ze { frames := 1, cells := 0, slots := 0, locals := 21 } zs zm za zb zh zc 0 0 (MQ zb (xQ g S (xN (fun μ' => FrS b μ μ' ∧ St μ' b (slide T m 16 sp0 r)))) za zs 0 0 (xA0 g)) S μ1 50 [some (vR g b), some (vI m), some (vI sp0), some (vI br), some (vI gt), some (vI sp), some (vI (r1 (18 + m))), none] [] := by
    intro zn
    induction zn with
    | zero => intros; rename_i hz; exact absurd hz (Nat.not_lt_zero _)
    | succ zn ih =>
      intro br gt sp r1 μ1 f hbr hgt h1 h2 h3 h4 hf h5 hn
      have p1 := h3.2.1 m hm.1 hm.2
      have hw : ∀ j : Int, 0 ≤ j → j < 16 → μ1 (b + 1) j = r1 (2 + j) := fun j j0 j1 => by rw [← h2.2.2.1 j j0 j1, xU_nk (by omega)]
      refine x_iload (pc' := 52) hC dX4_comeDown_50 rfl rfl ?_
      refine x_if_le (tgt := 151) (pc' := 55) hC dX4_comeDown_52 (by decide) rfl (by omega) (fun c52 => ?_) (fun c52 => ?_)
      · refine x_aload_n (pc' := 152) hC dX4_comeDown_151 rfl rfl ?_
        refine x_getR (pc' := 155) (b := b + 2) hC kf_X4_15 dX4_comeDown_152 hb.1 rfl rfl ?_
        refine x_iload_n (pc' := 156) hC dX4_comeDown_155 rfl rfl ?_
        refine x_iload (pc' := 158) hC dX4_comeDown_156 rfl rfl ?_
        refine x_iast (pc' := 159) hC dX4_comeDown_158 hb.2.2.1 (by omega) (by omega) rfl ?_
        exact x_vret hC dX4_comeDown_159 (xN.mk ⟨h1.u2, by rw [← h5, slide_stop (by omega)]; exact h2⟩)
      · refine x_iload (pc' := 57) hC dX4_comeDown_55 rfl rfl ?_
        refine x_if_le (tgt := 151) (pc' := 60) hC dX4_comeDown_57 (by decide) rfl (by omega) (fun c57 => ?_) (fun c57 => ?_)
        · refine x_aload_n (pc' := 152) hC dX4_comeDown_151 rfl rfl ?_
          refine x_getR (pc' := 155) (b := b + 2) hC kf_X4_15 dX4_comeDown_152 hb.1 rfl rfl ?_
          refine x_iload_n (pc' := 156) hC dX4_comeDown_155 rfl rfl ?_
          refine x_iload (pc' := 158) hC dX4_comeDown_156 rfl rfl ?_
          refine x_iast (pc' := 159) hC dX4_comeDown_158 hb.2.2.1 (by omega) (by omega) rfl ?_
          exact x_vret hC dX4_comeDown_159 (xN.mk ⟨h1.u2, by rw [← h5, slide_stop (by omega)]; exact h2⟩)
        · obtain ⟨f', rfl⟩ : ∃ f' : Nat, f = f' + 1 := ⟨f - 1, by omega⟩
          rw [slide, if_pos (by omega)] at h5
          have p2 := h3.1 (r1 (18 + m)) (by omega) (by omega)
          have p3 := h3.1 (r1 (18 + m) - 1) (by omega) (by omega)
          refine x_aload_n (pc' := 61) hC dX4_comeDown_60 rfl rfl ?_
          refine x_getR (pc' := 64) (b := b + 1) hC kf_X4_9 dX4_comeDown_61 hb.1 rfl rfl ?_
          refine x_iload (pc' := 66) hC dX4_comeDown_64 rfl rfl ?_
          refine x_iconst (pc' := 67) hC dX4_comeDown_66 rfl ?_
          refine x_aload_n (pc' := 68) hC dX4_comeDown_67 rfl rfl ?_
          refine x_getR (pc' := 71) (b := b + 1) hC kf_X4_9 dX4_comeDown_68 hb.1 rfl rfl ?_
          refine x_iload (pc' := 73) hC dX4_comeDown_71 rfl rfl ?_
          refine x_iald (pc' := 74) hC dX4_comeDown_73 hb.2.1 (by omega) (by decide) rfl ?_
          rw [hw _ (by omega) (by omega)]
          refine x_iconst (pc' := 75) hC dX4_comeDown_74 rfl ?_
          refine x_isub (pc' := 76) hC dX4_comeDown_75 rfl ?_
          refine x_mmax (pc' := 79) hC kl_X4_65 dX4_comeDown_76 (by omega) (by omega) ⟨Nat.le_of_ble_eq_true rfl, Nat.le_of_ble_eq_true rfl⟩ (Nat.le_of_ble_eq_true rfl) ⟨Nat.le_refl _, Nat.le_refl _⟩ rfl ?_
          refine x_iast (pc' := 80) hC dX4_comeDown_79 hb.2.1 (by omega) (by omega) rfl ?_
          refine x_aload_n (pc' := 81) hC dX4_comeDown_80 rfl rfl ?_
          refine x_getR (pc' := 84) (b := pl) hC kf_X4_31 dX4_comeDown_81 hb.1 rfl rfl ?_
          refine x_iload (pc' := 86) hC dX4_comeDown_84 rfl rfl ?_
          refine x_iconst (pc' := 87) hC dX4_comeDown_86 rfl ?_
          refine x_isub (pc' := 88) hC dX4_comeDown_87 rfl ?_
          refine x_callV (pc' := 91) (n := 1) hC (c_hasKnob (T := T) hb.pl (hA.1.fr hb.lt h1.u1)) ky_X0_hasKnob kv_X0_hasKnob kl_X4_93 dX4_comeDown_88 hb.2.2.2.2.2.1.1 rfl rfl rfl rfl ⟨Nat.le_of_ble_eq_true rfl, Nat.le_of_ble_eq_true rfl⟩ (Nat.le_of_ble_eq_true rfl) ⟨Nat.le_refl _, Nat.le_refl _⟩ (Or.inl rfl) rfl (x_kd ?_)
          refine x_ifb_ne (tgt := 113) (pc' := 94) hC dX4_comeDown_91 (by decide) rfl (fun c91 => ?_) (fun c91 => ?_)
          · have hst : stp T m (r1 (18 + m) - 1) = true := by simp [stp, c91]
            refine x_iconst (pc' := 114) hC dX4_comeDown_113 rfl ?_
            refine x_goto (tgt := 118) hC dX4_comeDown_114 (by decide) ?_
            refine x_istore (pc' := 120) hC dX4_comeDown_118 (by decide) rfl rfl ?_
            refine x_iload (pc' := 122) hC dX4_comeDown_120 rfl rfl ?_
            refine x_if_eq (tgt := 129) (pc' := 125) hC dX4_comeDown_122 (by decide) rfl (by omega) (fun c122 => ?_) (fun c122 => ?_)
            · exact absurd c122 (by decide)
            · rw [if_pos hst] at h5
              refine x_iconst (pc' := 126) hC dX4_comeDown_125 rfl ?_
              refine x_goto (tgt := 143) hC dX4_comeDown_126 (by decide) ?_
              refine x_istore (pc' := 145) hC dX4_comeDown_143 (by decide) rfl rfl ?_
              refine x_iinc (pc' := 148) hC dX4_comeDown_145 rfl (by decide) rfl rfl ?_
              refine x_goto (tgt := 50) hC dX4_comeDown_148 (by decide) ?_
              refine x_vs (vs' := [some (vR g b), some (vI m), some (vI sp0), some (vI br), some (vI gt), some (vI _), some (vI (r1 (18 + m) + -1)), none]) (by intro i v; match i with | 0 => exact id | 1 => exact id | 2 => exact id | 3 => exact id | 4 => exact id | 5 => exact id | 6 => exact id | 7 => (intro h; cases h) | i + 8 => (intro h; cases h)) ?_
              have e9 : r1 (18 + m) + -1 = (up (up r1 (2 + r1 (18 + m)) (max 0 (r1 (2 + r1 (18 + m)) - 1))) (18 + m) (r1 (18 + m) - 1)) (18 + m) := by rw [up_at]; omega
              rw [e9]
              exact ih br gt _ _ _ f' hbr hgt h1.u1 (by rw [← e9]; exact h2.down (by omega) (by omega) (by omega) (by omega)) (WR_place hT (WR_wax h3 (by omega) (by omega) (by omega)) hm.1 (by omega)) (by rw [← e9]; omega) (by rw [← e9]; omega) h5 (by omega)
          · refine x_iload (pc' := 96) hC dX4_comeDown_94 rfl rfl ?_
            refine x_if_eq (tgt := 117) (pc' := 99) hC dX4_comeDown_96 (by decide) rfl (by omega) (fun c96 => ?_) (fun c96 => ?_)
            · have hst : stp T m (r1 (18 + m) - 1) = false := by have z : ¬ T (4 + m) = 2 := (fun z => by rw [if_pos z] at hgt; omega); simp [stp, c91, z]
              refine x_iconst (pc' := 118) hC dX4_comeDown_117 rfl ?_
              refine x_istore (pc' := 120) hC dX4_comeDown_118 (by decide) rfl rfl ?_
              refine x_iload (pc' := 122) hC dX4_comeDown_120 rfl rfl ?_
              refine x_if_eq (tgt := 129) (pc' := 125) hC dX4_comeDown_122 (by decide) rfl (by omega) (fun c122 => ?_) (fun c122 => ?_)
              · rw [if_neg (by simp [hst]), ← hbr] at h5
                refine x_iload (pc' := 131) hC dX4_comeDown_129 rfl rfl ?_
                refine x_aload_n (pc' := 132) hC dX4_comeDown_131 rfl rfl ?_
                refine x_getR (pc' := 135) (b := b + 1) hC kf_X4_9 dX4_comeDown_132 hb.1 rfl rfl ?_
                refine x_iload (pc' := 137) hC dX4_comeDown_135 rfl rfl ?_
                refine x_iconst (pc' := 138) hC dX4_comeDown_137 rfl ?_
                refine x_isub (pc' := 139) hC dX4_comeDown_138 rfl ?_
                refine x_iald (pc' := 140) hC dX4_comeDown_139 hb.2.1 (by omega) (by decide) rfl ?_
                rw [xU_nj (by omega), hw _ (by omega) (by omega)]
                refine x_iadd (pc' := 141) hC dX4_comeDown_140 rfl ?_
                refine x_iload_n (pc' := 142) hC dX4_comeDown_141 rfl rfl ?_
                refine x_isub (pc' := 143) hC dX4_comeDown_142 rfl ?_
                refine x_istore (pc' := 145) hC dX4_comeDown_143 (by decide) rfl rfl ?_
                refine x_iinc (pc' := 148) hC dX4_comeDown_145 rfl (by decide) rfl rfl ?_
                refine x_goto (tgt := 50) hC dX4_comeDown_148 (by decide) ?_
                refine x_vs (vs' := [some (vR g b), some (vI m), some (vI sp0), some (vI br), some (vI gt), some (vI _), some (vI (r1 (18 + m) + -1)), none]) (by intro i v; match i with | 0 => exact id | 1 => exact id | 2 => exact id | 3 => exact id | 4 => exact id | 5 => exact id | 6 => exact id | 7 => (intro h; cases h) | i + 8 => (intro h; cases h)) ?_
                have e9 : r1 (18 + m) + -1 = (up (up r1 (2 + r1 (18 + m)) (max 0 (r1 (2 + r1 (18 + m)) - 1))) (18 + m) (r1 (18 + m) - 1)) (18 + m) := by rw [up_at]; omega
                rw [e9]
                exact ih br gt _ _ _ f' hbr hgt h1.u1 (by rw [← e9]; exact h2.down (by omega) (by omega) (by omega) (by omega)) (WR_place hT (WR_wax h3 (by omega) (by omega) (by omega)) hm.1 (by omega)) (by rw [← e9]; omega) (by rw [← e9]; omega) h5 (by omega)
              · exact absurd c122 (by decide)
            · refine x_aload_n (pc' := 100) hC dX4_comeDown_99 rfl rfl ?_
              refine x_getR (pc' := 103) (b := pl) hC kf_X4_31 dX4_comeDown_100 hb.1 rfl rfl ?_
              refine x_iload (pc' := 105) hC dX4_comeDown_103 rfl rfl ?_
              refine x_iconst (pc' := 106) hC dX4_comeDown_105 rfl ?_
              refine x_isub (pc' := 107) hC dX4_comeDown_106 rfl ?_
              refine x_callV (pc' := 110) (n := 1) hC (c_hasTurn (T := T) hb.pl (hA.1.fr hb.lt h1.u1)) ky_X0_hasTurn kv_X0_hasTurn kl_X4_96 dX4_comeDown_107 hb.2.2.2.2.2.1.1 rfl rfl rfl rfl ⟨Nat.le_of_ble_eq_true rfl, Nat.le_of_ble_eq_true rfl⟩ (Nat.le_of_ble_eq_true rfl) ⟨Nat.le_refl _, Nat.le_refl _⟩ (Or.inl rfl) rfl (x_kd ?_)
              refine x_ifb_eq (tgt := 117) (pc' := 113) hC dX4_comeDown_110 (by decide) rfl (fun c110 => ?_) (fun c110 => ?_)
              · have hst : stp T m (r1 (18 + m) - 1) = false := by simp [stp, c91, c110]
                refine x_iconst (pc' := 118) hC dX4_comeDown_117 rfl ?_
                refine x_istore (pc' := 120) hC dX4_comeDown_118 (by decide) rfl rfl ?_
                refine x_iload (pc' := 122) hC dX4_comeDown_120 rfl rfl ?_
                refine x_if_eq (tgt := 129) (pc' := 125) hC dX4_comeDown_122 (by decide) rfl (by omega) (fun c122 => ?_) (fun c122 => ?_)
                · rw [if_neg (by simp [hst]), ← hbr] at h5
                  refine x_iload (pc' := 131) hC dX4_comeDown_129 rfl rfl ?_
                  refine x_aload_n (pc' := 132) hC dX4_comeDown_131 rfl rfl ?_
                  refine x_getR (pc' := 135) (b := b + 1) hC kf_X4_9 dX4_comeDown_132 hb.1 rfl rfl ?_
                  refine x_iload (pc' := 137) hC dX4_comeDown_135 rfl rfl ?_
                  refine x_iconst (pc' := 138) hC dX4_comeDown_137 rfl ?_
                  refine x_isub (pc' := 139) hC dX4_comeDown_138 rfl ?_
                  refine x_iald (pc' := 140) hC dX4_comeDown_139 hb.2.1 (by omega) (by decide) rfl ?_
                  rw [xU_nj (by omega), hw _ (by omega) (by omega)]
                  refine x_iadd (pc' := 141) hC dX4_comeDown_140 rfl ?_
                  refine x_iload_n (pc' := 142) hC dX4_comeDown_141 rfl rfl ?_
                  refine x_isub (pc' := 143) hC dX4_comeDown_142 rfl ?_
                  refine x_istore (pc' := 145) hC dX4_comeDown_143 (by decide) rfl rfl ?_
                  refine x_iinc (pc' := 148) hC dX4_comeDown_145 rfl (by decide) rfl rfl ?_
                  refine x_goto (tgt := 50) hC dX4_comeDown_148 (by decide) ?_
                  refine x_vs (vs' := [some (vR g b), some (vI m), some (vI sp0), some (vI br), some (vI gt), some (vI _), some (vI (r1 (18 + m) + -1)), none]) (by intro i v; match i with | 0 => exact id | 1 => exact id | 2 => exact id | 3 => exact id | 4 => exact id | 5 => exact id | 6 => exact id | 7 => (intro h; cases h) | i + 8 => (intro h; cases h)) ?_
                  have e9 : r1 (18 + m) + -1 = (up (up r1 (2 + r1 (18 + m)) (max 0 (r1 (2 + r1 (18 + m)) - 1))) (18 + m) (r1 (18 + m) - 1)) (18 + m) := by rw [up_at]; omega
                  rw [e9]
                  exact ih br gt _ _ _ f' hbr hgt h1.u1 (by rw [← e9]; exact h2.down (by omega) (by omega) (by omega) (by omega)) (WR_place hT (WR_wax h3 (by omega) (by omega) (by omega)) hm.1 (by omega)) (by rw [← e9]; omega) (by rw [← e9]; omega) h5 (by omega)
                · exact absurd c122 (by decide)
              · have hst : stp T m (r1 (18 + m) - 1) = true := by have z : T (4 + m) = 2 := Classical.byContradiction (fun z => by rw [if_neg z] at hgt; exact c96 hgt); simp [stp, c110, z]
                refine x_iconst (pc' := 114) hC dX4_comeDown_113 rfl ?_
                refine x_goto (tgt := 118) hC dX4_comeDown_114 (by decide) ?_
                refine x_istore (pc' := 120) hC dX4_comeDown_118 (by decide) rfl rfl ?_
                refine x_iload (pc' := 122) hC dX4_comeDown_120 rfl rfl ?_
                refine x_if_eq (tgt := 129) (pc' := 125) hC dX4_comeDown_122 (by decide) rfl (by omega) (fun c122 => ?_) (fun c122 => ?_)
                · exact absurd c122 (by decide)
                · rw [if_pos hst] at h5
                  refine x_iconst (pc' := 126) hC dX4_comeDown_125 rfl ?_
                  refine x_goto (tgt := 143) hC dX4_comeDown_126 (by decide) ?_
                  refine x_istore (pc' := 145) hC dX4_comeDown_143 (by decide) rfl rfl ?_
                  refine x_iinc (pc' := 148) hC dX4_comeDown_145 rfl (by decide) rfl rfl ?_
                  refine x_goto (tgt := 50) hC dX4_comeDown_148 (by decide) ?_
                  refine x_vs (vs' := [some (vR g b), some (vI m), some (vI sp0), some (vI br), some (vI gt), some (vI _), some (vI (r1 (18 + m) + -1)), none]) (by intro i v; match i with | 0 => exact id | 1 => exact id | 2 => exact id | 3 => exact id | 4 => exact id | 5 => exact id | 6 => exact id | 7 => (intro h; cases h) | i + 8 => (intro h; cases h)) ?_
                  have e9 : r1 (18 + m) + -1 = (up (up r1 (2 + r1 (18 + m)) (max 0 (r1 (2 + r1 (18 + m)) - 1))) (18 + m) (r1 (18 + m) - 1)) (18 + m) := by rw [up_at]; omega
                  rw [e9]
                  exact ih br gt _ _ _ f' hbr hgt h1.u1 (by rw [← e9]; exact h2.down (by omega) (by omega) (by omega) (by omega)) (WR_place hT (WR_wax h3 (by omega) (by omega) (by omega)) hm.1 (by omega)) (by rw [← e9]; omega) (by rw [← e9]; omega) h5 (by omega)
  refine x_aload_n (pc' := 1) hC dX4_comeDown_0 rfl rfl ?_
  refine x_getR (pc' := 4) (b := pl) hC kf_X4_31 dX4_comeDown_1 hb.1 rfl rfl ?_
  refine x_getR (pc' := 7) (b := pl + 1) hC kf_X4_83 dX4_comeDown_4 hb.2.2.2.2.2.1.1 rfl rfl ?_
  refine x_iload_n (pc' := 8) hC dX4_comeDown_7 rfl rfl ?_
  refine x_iald (pc' := 9) hC dX4_comeDown_8 hb.2.2.2.2.2.1.2 (by omega) (by decide) rfl ?_
  rw [hA.kd hm.1 hm.2]
  refine x_iconst (pc' := 10) hC dX4_comeDown_9 rfl ?_
  refine x_icmp_ne (tgt := 17) (pc' := 13) hC dX4_comeDown_10 (by decide) rfl (by omega) (by omega) (fun c10 => ?_) (fun c10 => ?_)
  · refine x_iconst (pc' := 18) hC dX4_comeDown_17 rfl ?_
    refine x_istore_n (pc' := 19) hC dX4_comeDown_18 (by decide) rfl rfl ?_
    refine x_aload_n (pc' := 20) hC dX4_comeDown_19 rfl rfl ?_
    refine x_getR (pc' := 23) (b := pl) hC kf_X4_31 dX4_comeDown_20 hb.1 rfl rfl ?_
    refine x_getR (pc' := 26) (b := pl + 1) hC kf_X4_83 dX4_comeDown_23 hb.2.2.2.2.2.1.1 rfl rfl ?_
    refine x_iload_n (pc' := 27) hC dX4_comeDown_26 rfl rfl ?_
    refine x_iald (pc' := 28) hC dX4_comeDown_27 hb.2.2.2.2.2.1.2 (by omega) (by decide) rfl ?_
    rw [hA.kd hm.1 hm.2]
    refine x_iconst (pc' := 29) hC dX4_comeDown_28 rfl ?_
    refine x_icmp_ne (tgt := 36) (pc' := 32) hC dX4_comeDown_29 (by decide) rfl (by omega) (by omega) (fun c29 => ?_) (fun c29 => ?_)
    · refine x_iconst (pc' := 37) hC dX4_comeDown_36 rfl ?_
      refine x_istore (pc' := 39) hC dX4_comeDown_37 (by decide) rfl rfl ?_
      refine x_iload_n (pc' := 40) hC dX4_comeDown_39 rfl rfl ?_
      refine x_istore (pc' := 42) hC dX4_comeDown_40 (by decide) rfl rfl ?_
      refine x_aload_n (pc' := 43) hC dX4_comeDown_42 rfl rfl ?_
      refine x_getR (pc' := 46) (b := b + 2) hC kf_X4_15 dX4_comeDown_43 hb.1 rfl rfl ?_
      refine x_iload_n (pc' := 47) hC dX4_comeDown_46 rfl rfl ?_
      refine x_iald (pc' := 48) hC dX4_comeDown_47 hb.2.2.1 (by omega) (by decide) rfl ?_
      rw [hA.pc (by omega) (by omega)]
      refine x_istore (pc' := 50) hC dX4_comeDown_48 (by decide) rfl rfl ?_
      exact loop 17 _ _ _ r μ 16 (by first | rw [if_pos (by omega)] | rw [if_neg (by omega)]) (by first | rw [if_pos (by omega)] | rw [if_neg (by omega)]) FrS.rf (by rw [← hA.pc (j := m) (by omega) (by omega)]; exact (xU_self (μ := μ)).symm ▸ hA.2.2) hR (by omega) (by omega) rfl (by omega)
    · refine x_iconst (pc' := 33) hC dX4_comeDown_32 rfl ?_
      refine x_goto (tgt := 37) hC dX4_comeDown_33 (by decide) ?_
      refine x_istore (pc' := 39) hC dX4_comeDown_37 (by decide) rfl rfl ?_
      refine x_iload_n (pc' := 40) hC dX4_comeDown_39 rfl rfl ?_
      refine x_istore (pc' := 42) hC dX4_comeDown_40 (by decide) rfl rfl ?_
      refine x_aload_n (pc' := 43) hC dX4_comeDown_42 rfl rfl ?_
      refine x_getR (pc' := 46) (b := b + 2) hC kf_X4_15 dX4_comeDown_43 hb.1 rfl rfl ?_
      refine x_iload_n (pc' := 47) hC dX4_comeDown_46 rfl rfl ?_
      refine x_iald (pc' := 48) hC dX4_comeDown_47 hb.2.2.1 (by omega) (by decide) rfl ?_
      rw [hA.pc (by omega) (by omega)]
      refine x_istore (pc' := 50) hC dX4_comeDown_48 (by decide) rfl rfl ?_
      exact loop 17 _ _ _ r μ 16 (by first | rw [if_pos (by omega)] | rw [if_neg (by omega)]) (by first | rw [if_pos (by omega)] | rw [if_neg (by omega)]) FrS.rf (by rw [← hA.pc (j := m) (by omega) (by omega)]; exact (xU_self (μ := μ)).symm ▸ hA.2.2) hR (by omega) (by omega) rfl (by omega)
  · refine x_iconst (pc' := 14) hC dX4_comeDown_13 rfl ?_
    refine x_goto (tgt := 18) hC dX4_comeDown_14 (by decide) ?_
    refine x_istore_n (pc' := 19) hC dX4_comeDown_18 (by decide) rfl rfl ?_
    refine x_aload_n (pc' := 20) hC dX4_comeDown_19 rfl rfl ?_
    refine x_getR (pc' := 23) (b := pl) hC kf_X4_31 dX4_comeDown_20 hb.1 rfl rfl ?_
    refine x_getR (pc' := 26) (b := pl + 1) hC kf_X4_83 dX4_comeDown_23 hb.2.2.2.2.2.1.1 rfl rfl ?_
    refine x_iload_n (pc' := 27) hC dX4_comeDown_26 rfl rfl ?_
    refine x_iald (pc' := 28) hC dX4_comeDown_27 hb.2.2.2.2.2.1.2 (by omega) (by decide) rfl ?_
    rw [hA.kd hm.1 hm.2]
    refine x_iconst (pc' := 29) hC dX4_comeDown_28 rfl ?_
    refine x_icmp_ne (tgt := 36) (pc' := 32) hC dX4_comeDown_29 (by decide) rfl (by omega) (by omega) (fun c29 => ?_) (fun c29 => ?_)
    · refine x_iconst (pc' := 37) hC dX4_comeDown_36 rfl ?_
      refine x_istore (pc' := 39) hC dX4_comeDown_37 (by decide) rfl rfl ?_
      refine x_iload_n (pc' := 40) hC dX4_comeDown_39 rfl rfl ?_
      refine x_istore (pc' := 42) hC dX4_comeDown_40 (by decide) rfl rfl ?_
      refine x_aload_n (pc' := 43) hC dX4_comeDown_42 rfl rfl ?_
      refine x_getR (pc' := 46) (b := b + 2) hC kf_X4_15 dX4_comeDown_43 hb.1 rfl rfl ?_
      refine x_iload_n (pc' := 47) hC dX4_comeDown_46 rfl rfl ?_
      refine x_iald (pc' := 48) hC dX4_comeDown_47 hb.2.2.1 (by omega) (by decide) rfl ?_
      rw [hA.pc (by omega) (by omega)]
      refine x_istore (pc' := 50) hC dX4_comeDown_48 (by decide) rfl rfl ?_
      exact loop 17 _ _ _ r μ 16 (by first | rw [if_pos (by omega)] | rw [if_neg (by omega)]) (by first | rw [if_pos (by omega)] | rw [if_neg (by omega)]) FrS.rf (by rw [← hA.pc (j := m) (by omega) (by omega)]; exact (xU_self (μ := μ)).symm ▸ hA.2.2) hR (by omega) (by omega) rfl (by omega)
    · refine x_iconst (pc' := 33) hC dX4_comeDown_32 rfl ?_
      refine x_goto (tgt := 37) hC dX4_comeDown_33 (by decide) ?_
      refine x_istore (pc' := 39) hC dX4_comeDown_37 (by decide) rfl rfl ?_
      refine x_iload_n (pc' := 40) hC dX4_comeDown_39 rfl rfl ?_
      refine x_istore (pc' := 42) hC dX4_comeDown_40 (by decide) rfl rfl ?_
      refine x_aload_n (pc' := 43) hC dX4_comeDown_42 rfl rfl ?_
      refine x_getR (pc' := 46) (b := b + 2) hC kf_X4_15 dX4_comeDown_43 hb.1 rfl rfl ?_
      refine x_iload_n (pc' := 47) hC dX4_comeDown_46 rfl rfl ?_
      refine x_iald (pc' := 48) hC dX4_comeDown_47 hb.2.2.1 (by omega) (by decide) rfl ?_
      rw [hA.pc (by omega) (by omega)]
      refine x_istore (pc' := 50) hC dX4_comeDown_48 (by decide) rfl rfl ?_
      exact loop 17 _ _ _ r μ 16 (by first | rw [if_pos (by omega)] | rw [if_neg (by omega)]) (by first | rw [if_pos (by omega)] | rw [if_neg (by omega)]) FrS.rf (by rw [← hA.pc (j := m) (by omega) (by omega)]; exact (xU_self (μ := μ)).symm ▸ hA.2.2) hR (by omega) (by omega) rfl (by omega)
