theorem plotB_iff {T r : Int → Int} {m n v x : Int} : plotB T r m n v x = true ↔ r (2 + x) + v ≤ 9 ∧ gov T (goYears T n.toNat (up r (2 + x) (r (2 + x) + v))) = m := by
  unfold plotB
  rw [Bool.and_eq_true, decide_eq_true_iff, decide_eq_true_iff]
theorem waxBy_0 {T r : Int → Int} {x : Int} (h : WR T r) (h0 : 0 ≤ x) (h1 : x < 16) : waxBy r x 0 = r := by
  have := h.1 x h0 h1
  unfold waxBy
  rw [show max 0 (min 9 (r (2 + x) + 0)) = r (2 + x) by omega]
  exact up_self
/-- all but the side and one place of what is told -/
def FrG (s : Int) (μ μ' : xM) : Prop := ∀ (k : Nat) (j : Int), k ≠ 87 → (k ≠ 83 ∨ j ≠ s) → μ' k j = μ k j
theorem FrG.rf {s : Int} {μ : xM} : FrG s μ μ := fun _ _ _ _ => rfl
theorem FrG.fr {s : Int} {μ μ1 μ2 : xM} (h : FrG s μ μ1) (h2 : FrI 87 88 μ1 μ2) : FrG s μ μ2 := fun k j a b => (h2 k j (by omega)).trans (h k j a b)
theorem FrG.u {s v : Int} {μ μ1 : xM} (h : FrG s μ μ1) : FrG s μ (xU μ1 83 s v) := fun k j a b => by
  rcases b with b | b
  · rw [xU_nk b]; exact h k j a (Or.inl b)
  · rw [xU_nj b]; exact h k j a (Or.inr b)
theorem FrG.end {s v : Int} {μ μ1 : xM} (h : FrG s μ μ1) (hv : μ 83 s = v) : FrI 87 88 μ (xU μ1 83 s v) := fun k j hk => by
  by_cases hz : k = 83 ∧ j = s
  · obtain ⟨rfl, rfl⟩ := hz; rw [xU_at2, hv]
  · exact h.u k j (by omega) (by omega)
theorem TT.gr {μ μ1 : xM} {T : Int → Int} {m v : Int} (h : TT μ 83 T) (hT : WT T) (hm : 0 ≤ m ∧ m < T 3) (hf : FrG (11 + m) μ μ1) (hv : μ1 83 (11 + m) = v) : TT μ1 83 (up T (11 + m) v) := by
  have t3 := hT.2.2.2.1
  obtain ⟨⟨a1, a2, a3, a4⟩, h5⟩ := h
  refine ⟨⟨by rw [hf _ _ (by omega) (by omega), a1, up_ne (by omega)], by rw [hf _ _ (by omega) (by omega), a2, up_ne (by omega)], by rw [hf _ _ (by omega) (by omega), a3, up_ne (by omega)], by rw [hf _ _ (by omega) (by omega), a4, up_ne (by omega)]⟩, fun k b1 b2 => ?_⟩
  rw [up_ne (by omega)] at b2
  have z := h5 k b1 b2
  refine ⟨by rw [hf _ _ (by omega) (by omega), z.1, up_ne (by omega)], ?_⟩
  by_cases hk : k = m
  · subst hk; rw [hv, up_at]
  · rw [hf _ _ (by omega) (by omega), z.2, up_ne (by omega)]
theorem Rw.gr {μ μ1 : xM} {r : Int → Int} {s : Int} (h : Rw μ 85 r) (hf : FrG s μ μ1) : Rw μ1 85 r := fun j a b => by rw [hf _ _ (by omega) (by omega)]; exact h j a b
theorem Sm.gr {μ μ1 : xM} {T : Int → Int} {sl : List (Int × Int)} {m v : Int} (h : Sm μ T sl) (hm : 0 ≤ m) (hf : FrG (11 + m) μ μ1) : Sm μ1 (up T (11 + m) v) sl :=
  ⟨by rw [hf _ _ (by omega) (by omega)]; exact h.1, h.2.1, fun i q hq => by rw [hf _ _ (by omega) (by omega), hf _ _ (by omega) (by omega), up_ne (by omega), up_ne (by omega)]; exact h.2.2 i q hq⟩
theorem gcd_pos {A B V : Nat} (h : Nat.gcd V 0 = Nat.gcd A B) (hB : 0 < B) : V = Nat.gcd A B ∧ 0 < V := by
  rw [Nat.gcd_zero_right] at h
  exact ⟨h, h ▸ Nat.gcd_pos_of_pos_right A hB⟩
set_option maxRecDepth 100000 in
set_option maxHeartbeats 4000000 in
theorem q_plot {g : xG} {l : Launch} {S : List xS} {μ : xM} {T r : Int → Int} {nt : Int} {tx : Int → Int} {un kp : List (Int → Int)} {sl : List (Int × Int)} {m n w : Int} (hM : xPreM S) (hA : RM μ T r nt tx un kp sl) (hF : WF T r un kp) (hm : -2147483648 ≤ m ∧ m < 2147483648) (hn : -2147483648 ≤ n ∧ n < 2147483648) (hw : -2147483648 ≤ w ∧ w < 2147483648) : xCt g l yX7_plot cX7_plot 6 (some .int) 7 156 0 0 [vR g 81, vI m, vI n, vI w] S μ S (xI (fun a μ' => a = aPlot T r m n w ∧ RM μ' T r nt tx un kp sl ∧ FrI 81 92 μ μ')) := by
  refine x_enter (by decide) (Nat.le_of_ble_eq_true rfl) ?_
  intro zp ze zs zm za zb zh zc hC hz0
  have hT := hF.1
  have hR := hF.2.1.1
  have hy := hF.2.1.2
  have t0 := hT.1
  have t1 := hT.2.1
  have t2 := hT.2.2.1
  have t3 := hT.2.2.2.1
  have hQ := hA.2.1
  have hN := hA.2.2.1
  obtain ⟨⟨m0, m1, m2, m3⟩, m4⟩ := hA.2.1
  have q9 := hR.1 0 (by omega) (by omega)
  have loop : ∀ (zn : Nat) (k : Nat) (v : Int) (μ1 : xM) (b1 : 0 ≤ m ∧ m < T 3) (b2 : 1 ≤ n ∧ n ≤ 9) (b3 : 0 ≤ w ∧ w ≤ 1) (hv1 : v + k = 10) (hv2 : 1 ≤ v) (h1 : FrI 87 88 μ μ1) (h4 : pick (firstVX (plotB T r m n) (T 0).toNat k v) w = aPlot T r m n w), k < zn → xX g 6 zp l ze { frames := 7, cells := 0, slots := 0, locals := 156 } zs zm za zb zh zc 0 0 (MQ zb (xQ g S (xI (fun a μ' => a = aPlot T r m n w ∧ RM μ' T r nt tx un kp sl ∧ FrI 81 92 μ μ'))) za zs 0 0 (xA0 g)) S μ1 57 [some (vR g 81), some (vI m), some (vI n), some (vI w), some (vI v), none] [] := by
    intro zn
    induction zn with
    | zero => intros; rename_i hz; exact absurd hz (Nat.not_lt_zero _)
    | succ zn ih9 =>
      intro k v μ1 b1 b2 b3 hv1 hv2 h1 h4 hn
      have loop2 : ∀ (zn : Nat) (j : Nat) (x : Int) (μ2 : xM) (hx1 : x + j = T 0) (hx2 : 0 ≤ x) (h2 : FrI 87 88 μ μ2) (hv3 : v ≤ 9) (h5 : firstX (plotB T r m n v) j x = firstX (plotB T r m n v) (T 0).toNat 0), j < zn → xX g 6 zp l ze { frames := 7, cells := 0, slots := 0, locals := 156 } zs zm za zb zh zc 0 0 (MQ zb (xQ g S (xI (fun a μ' => a = aPlot T r m n w ∧ RM μ' T r nt tx un kp sl ∧ FrI 81 92 μ μ'))) za zs 0 0 (xA0 g)) S μ2 67 [some (vR g 81), some (vI m), some (vI n), some (vI w), some (vI v), some (vI x)] [] := by
        intro zn
        induction zn with
        | zero => intros; rename_i hz; exact absurd hz (Nat.not_lt_zero _)
        | succ zn ih =>
          intro j x μ2 hx1 hx2 h2 hv3 h5 hn
          obtain ⟨k1, rfl⟩ : ∃ k1 : Nat, k = k1 + 1 := ⟨k - 1, by omega⟩
          refine x_iload (pc' := 69) hC dX7_plot_67 rfl rfl ?_
          refine x_aload_n (pc' := 70) hC dX7_plot_69 rfl rfl ?_
          refine x_getR (pc' := 73) (b := 83) hC kf_X7_13 dX7_plot_70 (hM 0 _ rfl) rfl rfl ?_
          refine x_iconst (pc' := 74) hC dX7_plot_73 rfl ?_
          refine x_iald (pc' := 75) hC dX7_plot_74 (hM 2 _ rfl) (by omega) (by decide) rfl ?_
          rw [h2 _ _ (by omega), m0]
          refine x_icmp_ge (tgt := 126) (pc' := 78) hC dX7_plot_75 (by decide) rfl (by omega) (by omega) (fun c75 => ?_) (fun c75 => ?_)
          · have j0 : j = 0 := by omega
            subst j0
            rw [firstX] at h5
            rw [firstVX, if_pos h5.symm] at h4
            refine x_iinc (pc' := 129) hC dX7_plot_126 rfl (by decide) rfl rfl ?_
            refine x_goto (tgt := 57) hC dX7_plot_129 (by decide) ?_
            refine x_vs (vs' := [some (vR g 81), some (vI m), some (vI n), some (vI w), some (vI (v + 1)), none]) (by intro i v; match i with | 0 => exact id | 1 => exact id | 2 => exact id | 3 => exact id | 4 => exact id | 5 => (intro h; cases h) | i + 6 => (intro h; cases h)) ?_
            exact ih9 k1 _ _ b1 b2 b3 (by omega) (by omega) h2 h4 (by omega)
          · obtain ⟨j1, rfl⟩ : ∃ j1 : Nat, j = j1 + 1 := ⟨j - 1, by omega⟩
            rw [firstX] at h5
            refine x_aload_n (pc' := 79) hC dX7_plot_78 rfl rfl ?_
            refine x_getR (pc' := 82) (b := 85) hC kf_X7_19 dX7_plot_79 (hM 0 _ rfl) rfl rfl ?_
            refine x_iconst (pc' := 83) hC dX7_plot_82 rfl ?_
            refine x_iload (pc' := 85) hC dX7_plot_83 rfl rfl ?_
            refine x_iadd (pc' := 86) hC dX7_plot_85 rfl ?_
            refine x_iald (pc' := 87) hC dX7_plot_86 (hM 4 _ rfl) (by omega) (by decide) rfl ?_
            have q3 := hR.1 x (by omega) (by omega)
            rw [h2 _ _ (by omega), hN (2 + x) (by omega) (by omega)]
            refine x_iload (pc' := 89) hC dX7_plot_87 rfl rfl ?_
            refine x_iadd (pc' := 90) hC dX7_plot_89 rfl ?_
            refine x_bipush (pc' := 92) hC dX7_plot_90 (by decide) rfl ?_
            refine x_icmp_ge (tgt := 120) (pc' := 95) hC dX7_plot_92 (by decide) rfl (by omega) (by omega) (fun c92 => ?_) (fun c92 => ?_)
            · rw [if_neg (fun z => absurd (plotB_iff.mp z).1 (by omega))] at h5
              refine x_iinc (pc' := 123) hC dX7_plot_120 rfl (by decide) rfl rfl ?_
              refine x_goto (tgt := 67) hC dX7_plot_123 (by decide) ?_
              first | exact ih j1 _ _ (by omega) (by omega) (h2.tr h102) (by omega) h5 (by omega) | exact ih j1 _ _ (by omega) (by omega) h2 (by omega) h5 (by omega)
            · refine x_aload_n (pc' := 96) hC dX7_plot_95 rfl rfl ?_
              refine x_iload_n (pc' := 97) hC dX7_plot_96 rfl rfl ?_
              refine x_iload_n (pc' := 98) hC dX7_plot_97 rfl rfl ?_
              refine x_iload (pc' := 100) hC dX7_plot_98 rfl rfl ?_
              refine x_iload (pc' := 102) hC dX7_plot_100 rfl rfl ?_
              refine x_callV (pc' := 105) (n := 4) hC (m_governsWith hM hT hR (hQ.fr h2 (by omega)) (hN.fr h2 (by omega)) (by omega) ⟨by omega, by omega⟩ ⟨by omega, by omega⟩ (by omega) (by omega)) ky_X7_governsWith kv_X7_governsWith kl_X7_155 dX7_plot_102 (hM 0 _ rfl) rfl rfl rfl rfl ⟨Nat.le_of_ble_eq_true rfl, Nat.le_of_ble_eq_true rfl⟩ (Nat.le_of_ble_eq_true rfl) ⟨Nat.le_refl _, Nat.le_refl _⟩ (Or.inl rfl) rfl (x_kv (fun μ102 h102 => ?_))
              refine x_ifb_eq (tgt := 120) (pc' := 108) hC dX7_plot_105 (by decide) rfl (fun c105 => ?_) (fun c105 => ?_)
              · rw [if_neg (fun z => c105 (plotB_iff.mp z).2)] at h5
                refine x_iinc (pc' := 123) hC dX7_plot_120 rfl (by decide) rfl rfl ?_
                refine x_goto (tgt := 67) hC dX7_plot_123 (by decide) ?_
                first | exact ih j1 _ _ (by omega) (by omega) (h2.tr h102) (by omega) h5 (by omega) | exact ih j1 _ _ (by omega) (by omega) h2 (by omega) h5 (by omega)
              · rw [if_pos (plotB_iff.mpr ⟨by omega, c105⟩)] at h5
                rw [firstVX, ← h5, if_neg (by omega)] at h4
                refine x_iload_n (pc' := 109) hC dX7_plot_108 rfl rfl ?_
                refine x_if_ne (tgt := 117) (pc' := 112) hC dX7_plot_109 (by decide) rfl (by omega) (fun c109 => ?_) (fun c109 => ?_)
                · refine x_iload (pc' := 119) hC dX7_plot_117 rfl rfl ?_
                  exact x_iret hC dX7_plot_119 (xI.mk ⟨by rw [← h4]; unfold pick; rw [if_neg (by omega)]; first | rw [if_neg c109] | rw [if_pos (by omega)], hA.scr (h2.tr h102) (by omega), (h2.tr h102).mono (by omega) (by omega)⟩)
                · refine x_iload (pc' := 114) hC dX7_plot_112 rfl rfl ?_
                  refine x_goto (tgt := 119) hC dX7_plot_114 (by decide) ?_
                  exact x_iret hC dX7_plot_119 (xI.mk ⟨by rw [← h4]; unfold pick; rw [if_neg (by omega)]; first | rw [if_neg c109] | rw [if_pos (by omega)], hA.scr (h2.tr h102) (by omega), (h2.tr h102).mono (by omega) (by omega)⟩)
      refine x_iload (pc' := 59) hC dX7_plot_57 rfl rfl ?_
      refine x_bipush (pc' := 61) hC dX7_plot_59 (by decide) rfl ?_
      refine x_icmp_ge (tgt := 132) (pc' := 64) hC dX7_plot_61 (by decide) rfl (by omega) (by omega) (fun c61 => ?_) (fun c61 => ?_)
      · refine x_bipush (pc' := 134) hC dX7_plot_132 (by decide) rfl ?_
        exact x_iret hC dX7_plot_134 (xI.mk ⟨by rw [← h4, show k = 0 by omega]; rfl, hA.scr h1 (by omega), h1.mono (by omega) (by omega)⟩)
      · refine x_iconst (pc' := 65) hC dX7_plot_64 rfl ?_
        refine x_istore (pc' := 67) hC dX7_plot_65 (by decide) rfl rfl ?_
        exact loop2 ((T 0).toNat + 1) (T 0).toNat _ _ (by omega) (by omega) h1 (by omega) rfl (by omega)
  refine x_aload_n (pc' := 1) hC dX7_plot_0 rfl rfl ?_
  refine x_iload_n (pc' := 2) hC dX7_plot_1 rfl rfl ?_
  refine x_callV (pc' := 5) (n := 1) hC (m_isOne hM hT hQ (by omega)) ky_X7_isOne kv_X7_isOne kl_X7_131 dX7_plot_2 (hM 0 _ rfl) rfl rfl rfl rfl ⟨Nat.le_of_ble_eq_true rfl, Nat.le_of_ble_eq_true rfl⟩ (Nat.le_of_ble_eq_true rfl) ⟨Nat.le_refl _, Nat.le_refl _⟩ (Or.inl rfl) rfl (x_kd ?_)
  refine x_ifb_eq (tgt := 30) (pc' := 8) hC dX7_plot_5 (by decide) rfl (fun c5 => ?_) (fun c5 => ?_)
  · refine x_iconst (pc' := 31) hC dX7_plot_30 rfl ?_
    exact x_iret hC dX7_plot_31 (xI.mk ⟨by unfold aPlot; rw [if_neg (by omega)], hA, FrI.rf⟩)
  · refine x_iload_n (pc' := 9) hC dX7_plot_8 rfl rfl ?_
    refine x_i2l (pc' := 10) hC dX7_plot_9 (by omega) rfl ?_
    refine x_lconst (pc' := 11) (a := 1) hC dX7_plot_10 (by decide) rfl ?_
    refine x_ldc2 (pc' := 14) (a := 9) hC kc_X7_153 dX7_plot_11 (by decide) rfl ?_
    refine x_callS (pc' := 17) (n := 3) hC (m_in (by omega) (by omega) (by omega)) ky_X7_in ks_X7_in kl_X7_58 dX7_plot_14 rfl rfl ⟨Nat.le_of_ble_eq_true rfl, Nat.le_of_ble_eq_true rfl⟩ (Nat.le_of_ble_eq_true rfl) ⟨Nat.le_refl _, Nat.le_refl _⟩ (Or.inl rfl) rfl (x_kd ?_)
    refine x_ifb_eq (tgt := 30) (pc' := 20) hC dX7_plot_17 (by decide) rfl (fun c17 => ?_) (fun c17 => ?_)
    · refine x_iconst (pc' := 31) hC dX7_plot_30 rfl ?_
      exact x_iret hC dX7_plot_31 (xI.mk ⟨by unfold aPlot; rw [if_neg (by omega)], hA, FrI.rf⟩)
    · refine x_iload_n (pc' := 21) hC dX7_plot_20 rfl rfl ?_
      refine x_i2l (pc' := 22) hC dX7_plot_21 (by omega) rfl ?_
      refine x_lconst (pc' := 23) (a := 0) hC dX7_plot_22 (by decide) rfl ?_
      refine x_lconst (pc' := 24) (a := 1) hC dX7_plot_23 (by decide) rfl ?_
      refine x_callS (pc' := 27) (n := 3) hC (m_in (by omega) (by omega) (by omega)) ky_X7_in ks_X7_in kl_X7_58 dX7_plot_24 rfl rfl ⟨Nat.le_of_ble_eq_true rfl, Nat.le_of_ble_eq_true rfl⟩ (Nat.le_of_ble_eq_true rfl) ⟨Nat.le_refl _, Nat.le_refl _⟩ (Or.inl rfl) rfl (x_kd ?_)
      refine x_ifb_ne (tgt := 32) (pc' := 30) hC dX7_plot_27 (by decide) rfl (fun c27 => ?_) (fun c27 => ?_)
      · refine x_aload_n (pc' := 33) hC dX7_plot_32 rfl rfl ?_
        refine x_iload_n (pc' := 34) hC dX7_plot_33 rfl rfl ?_
        refine x_iload_n (pc' := 35) hC dX7_plot_34 rfl rfl ?_
        refine x_iconst (pc' := 36) hC dX7_plot_35 rfl ?_
        refine x_iconst (pc' := 37) hC dX7_plot_36 rfl ?_
        refine x_callV (pc' := 40) (n := 4) hC (m_governsWith hM hT hR hQ hN (by omega) ⟨by omega, by omega⟩ ⟨by omega, by omega⟩ (by omega) (by omega)) ky_X7_governsWith kv_X7_governsWith kl_X7_155 dX7_plot_37 (hM 0 _ rfl) rfl rfl rfl rfl ⟨Nat.le_of_ble_eq_true rfl, Nat.le_of_ble_eq_true rfl⟩ (Nat.le_of_ble_eq_true rfl) ⟨Nat.le_refl _, Nat.le_refl _⟩ (Or.inl rfl) rfl (x_kv (fun μ37 h37 => ?_))
        refine x_ifb_eq (tgt := 54) (pc' := 43) hC dX7_plot_40 (by decide) rfl (fun c40 => ?_) (fun c40 => ?_)
        · refine x_iconst (pc' := 55) hC dX7_plot_54 rfl ?_
          refine x_istore (pc' := 57) hC dX7_plot_55 (by decide) rfl rfl ?_
          refine x_vs (vs' := [some (vR g 81), some (vI m), some (vI n), some (vI w), some (vI 1), none]) (by intro i v; match i with | 0 => exact id | 1 => exact id | 2 => exact id | 3 => exact id | 4 => exact id | 5 => (intro h; cases h) | i + 6 => (intro h; cases h)) ?_
          exact loop 10 9 _ _ c5 c17 c27 (by omega) (by omega) h37 (by unfold aPlot; rw [if_pos ⟨c5, c17, c27⟩, if_neg (fun z => c40 (plotB_iff.mp z).2)]) (by omega)
        · refine x_iload_n (pc' := 44) hC dX7_plot_43 rfl rfl ?_
          refine x_if_ne (tgt := 51) (pc' := 47) hC dX7_plot_44 (by decide) rfl (by omega) (fun c44 => ?_) (fun c44 => ?_)
          · refine x_bipush (pc' := 53) hC dX7_plot_51 (by decide) rfl ?_
            exact x_iret hC dX7_plot_53 (xI.mk ⟨by unfold aPlot; rw [if_pos ⟨c5, c17, c27⟩, if_pos (plotB_iff.mpr ⟨by omega, c40⟩)]; first | rw [if_neg c44] | rw [if_pos (by omega)], hA.scr h37 (by omega), h37.mono (by omega) (by omega)⟩)
          · refine x_iconst (pc' := 48) hC dX7_plot_47 rfl ?_
            refine x_goto (tgt := 53) hC dX7_plot_48 (by decide) ?_
            exact x_iret hC dX7_plot_53 (xI.mk ⟨by unfold aPlot; rw [if_pos ⟨c5, c17, c27⟩, if_pos (plotB_iff.mpr ⟨by omega, c40⟩)]; first | rw [if_neg c44] | rw [if_pos (by omega)], hA.scr h37 (by omega), h37.mono (by omega) (by omega)⟩)
      · refine x_iconst (pc' := 31) hC dX7_plot_30 rfl ?_
        exact x_iret hC dX7_plot_31 (xI.mk ⟨by unfold aPlot; rw [if_neg (by omega)], hA, FrI.rf⟩)
set_option maxRecDepth 100000 in
set_option maxHeartbeats 4000000 in
theorem q_hold {g : xG} {l : Launch} {S : List xS} {μ : xM} {T r : Int → Int} {nt : Int} {tx : Int → Int} {un kp : List (Int → Int)} {sl : List (Int × Int)} {n w : Int} (hM : xPreM S) (hA : RM μ T r nt tx un kp sl) (hF : WF T r un kp) (hn : -2147483648 ≤ n ∧ n < 2147483648) (hw : -2147483648 ≤ w ∧ w < 2147483648) : xCt g l yX7_hold cX7_hold 5 (some .int) 6 137 0 0 [vR g 81, vI n, vI w] S μ S (xI (fun a μ' => a = aHold T r n w ∧ RM μ' T r nt tx un kp sl ∧ FrI 81 92 μ μ')) := by
  refine x_enter (by decide) (Nat.le_of_ble_eq_true rfl) ?_
  intro zp ze zs zm za zb zh zc hC hz0
  have hT := hF.1
  have hR := hF.2.1.1
  have hy := hF.2.1.2
  have t0 := hT.1
  have t1 := hT.2.1
  have t2 := hT.2.2.1
  have t3 := hT.2.2.2.1
  have hQ := hA.2.1
  have hN := hA.2.2.1
  obtain ⟨⟨m0, m1, m2, m3⟩, m4⟩ := hA.2.1
  have loop : ∀ (zn : Nat) (k : Nat) (v : Int) (μ1 : xM) (b2 : 1 ≤ n ∧ n ≤ 9) (b3 : 0 ≤ w ∧ w ≤ 1) (hv1 : v + k = 6) (hv2 : 1 ≤ v) (h1 : FrI 87 88 μ μ1) (h4 : pick (firstVX (holdB T r n) (T 0).toNat k v) w = aHold T r n w), k < zn → xX g 5 zp l ze { frames := 6, cells := 0, slots := 0, locals := 137 } zs zm za zb zh zc 0 0 (MQ zb (xQ g S (xI (fun a μ' => a = aHold T r n w ∧ RM μ' T r nt tx un kp sl ∧ FrI 81 92 μ μ'))) za zs 0 0 (xA0 g)) S μ1 47 [some (vR g 81), some (vI n), some (vI w), some (vI v), none] [] := by
    intro zn
    induction zn with
    | zero => intros; rename_i hz; exact absurd hz (Nat.not_lt_zero _)
    | succ zn ih9 =>
      intro k v μ1 b2 b3 hv1 hv2 h1 h4 hn
      have loop2 : ∀ (zn : Nat) (j : Nat) (x : Int) (μ2 : xM) (hx1 : x + j = T 0) (hx2 : 0 ≤ x) (h2 : FrI 87 88 μ μ2) (hv3 : v ≤ 5) (h5 : firstX (holdB T r n v) j x = firstX (holdB T r n v) (T 0).toNat 0), j < zn → xX g 5 zp l ze { frames := 6, cells := 0, slots := 0, locals := 137 } zs zm za zb zh zc 0 0 (MQ zb (xQ g S (xI (fun a μ' => a = aHold T r n w ∧ RM μ' T r nt tx un kp sl ∧ FrI 81 92 μ μ'))) za zs 0 0 (xA0 g)) S μ2 56 [some (vR g 81), some (vI n), some (vI w), some (vI v), some (vI x)] [] := by
        intro zn
        induction zn with
        | zero => intros; rename_i hz; exact absurd hz (Nat.not_lt_zero _)
        | succ zn ih =>
          intro j x μ2 hx1 hx2 h2 hv3 h5 hn
          obtain ⟨k1, rfl⟩ : ∃ k1 : Nat, k = k1 + 1 := ⟨k - 1, by omega⟩
          refine x_iload (pc' := 58) hC dX7_hold_56 rfl rfl ?_
          refine x_aload_n (pc' := 59) hC dX7_hold_58 rfl rfl ?_
          refine x_getR (pc' := 62) (b := 83) hC kf_X7_13 dX7_hold_59 (hM 0 _ rfl) rfl rfl ?_
          refine x_iconst (pc' := 63) hC dX7_hold_62 rfl ?_
          refine x_iald (pc' := 64) hC dX7_hold_63 (hM 2 _ rfl) (by omega) (by decide) rfl ?_
          rw [h2 _ _ (by omega), m0]
          refine x_icmp_ge (tgt := 95) (pc' := 67) hC dX7_hold_64 (by decide) rfl (by omega) (by omega) (fun c64 => ?_) (fun c64 => ?_)
          · have j0 : j = 0 := by omega
            subst j0
            rw [firstX] at h5
            rw [firstVX, if_pos h5.symm] at h4
            refine x_iinc (pc' := 98) hC dX7_hold_95 rfl (by decide) rfl rfl ?_
            refine x_goto (tgt := 47) hC dX7_hold_98 (by decide) ?_
            refine x_vs (vs' := [some (vR g 81), some (vI n), some (vI w), some (vI (v + 1)), none]) (by intro i v; match i with | 0 => exact id | 1 => exact id | 2 => exact id | 3 => exact id | 4 => (intro h; cases h) | i + 5 => (intro h; cases h)) ?_
            exact ih9 k1 _ _ b2 b3 (by omega) (by omega) h2 h4 (by omega)
          · obtain ⟨j1, rfl⟩ : ∃ j1 : Nat, j = j1 + 1 := ⟨j - 1, by omega⟩
            rw [firstX] at h5
            refine x_aload_n (pc' := 68) hC dX7_hold_67 rfl rfl ?_
            refine x_iload_n (pc' := 69) hC dX7_hold_68 rfl rfl ?_
            refine x_iload (pc' := 71) hC dX7_hold_69 rfl rfl ?_
            refine x_iload_n (pc' := 72) hC dX7_hold_71 rfl rfl ?_
            refine x_callV (pc' := 75) (n := 3) hC (m_holds hM hT hR (hQ.fr h2 (by omega)) (hN.fr h2 (by omega)) ⟨by omega, by omega⟩ ⟨by omega, by omega⟩ ⟨by omega, by omega⟩) ky_X7_holds kv_X7_holds kl_X7_159 dX7_hold_72 (hM 0 _ rfl) rfl rfl rfl rfl ⟨Nat.le_of_ble_eq_true rfl, Nat.le_of_ble_eq_true rfl⟩ (Nat.le_of_ble_eq_true rfl) ⟨Nat.le_refl _, Nat.le_refl _⟩ (Or.inl rfl) rfl (x_kv (fun μ72 h72 => ?_))
            refine x_ifb_eq (tgt := 89) (pc' := 78) hC dX7_hold_75 (by decide) rfl (fun c75 => ?_) (fun c75 => ?_)
            · rw [if_neg c75] at h5
              refine x_iinc (pc' := 92) hC dX7_hold_89 rfl (by decide) rfl rfl ?_
              refine x_goto (tgt := 56) hC dX7_hold_92 (by decide) ?_
              exact ih j1 _ _ (by omega) (by omega) (h2.tr h72) (by omega) h5 (by omega)
            · rw [if_pos c75] at h5
              rw [firstVX, ← h5, if_neg (by omega)] at h4
              refine x_iload_n (pc' := 79) hC dX7_hold_78 rfl rfl ?_
              refine x_if_ne (tgt := 86) (pc' := 82) hC dX7_hold_79 (by decide) rfl (by omega) (fun c79 => ?_) (fun c79 => ?_)
              · refine x_iload (pc' := 88) hC dX7_hold_86 rfl rfl ?_
                exact x_iret hC dX7_hold_88 (xI.mk ⟨by rw [← h4]; unfold pick; rw [if_neg (by omega)]; first | rw [if_neg c79] | rw [if_pos (by omega)], hA.scr (h2.tr h72) (by omega), (h2.tr h72).mono (by omega) (by omega)⟩)
              · refine x_iload_n (pc' := 83) hC dX7_hold_82 rfl rfl ?_
                refine x_goto (tgt := 88) hC dX7_hold_83 (by decide) ?_
                exact x_iret hC dX7_hold_88 (xI.mk ⟨by rw [← h4]; unfold pick; rw [if_neg (by omega)]; first | rw [if_neg c79] | rw [if_pos (by omega)], hA.scr (h2.tr h72) (by omega), (h2.tr h72).mono (by omega) (by omega)⟩)
      refine x_iload_n (pc' := 48) hC dX7_hold_47 rfl rfl ?_
      refine x_bipush (pc' := 50) hC dX7_hold_48 (by decide) rfl ?_
      refine x_icmp_ge (tgt := 101) (pc' := 53) hC dX7_hold_50 (by decide) rfl (by omega) (by omega) (fun c50 => ?_) (fun c50 => ?_)
      · refine x_bipush (pc' := 103) hC dX7_hold_101 (by decide) rfl ?_
        exact x_iret hC dX7_hold_103 (xI.mk ⟨by rw [← h4, show k = 0 by omega]; rfl, hA.scr h1 (by omega), h1.mono (by omega) (by omega)⟩)
      · refine x_iconst (pc' := 54) hC dX7_hold_53 rfl ?_
        refine x_istore (pc' := 56) hC dX7_hold_54 (by decide) rfl rfl ?_
        exact loop2 ((T 0).toNat + 1) (T 0).toNat _ _ (by omega) (by omega) h1 (by omega) rfl (by omega)
  refine x_iload_n (pc' := 1) hC dX7_hold_0 rfl rfl ?_
  refine x_i2l (pc' := 2) hC dX7_hold_1 (by omega) rfl ?_
  refine x_lconst (pc' := 3) (a := 1) hC dX7_hold_2 (by decide) rfl ?_
  refine x_ldc2 (pc' := 6) (a := 9) hC kc_X7_153 dX7_hold_3 (by decide) rfl ?_
  refine x_callS (pc' := 9) (n := 3) hC (m_in (by omega) (by omega) (by omega)) ky_X7_in ks_X7_in kl_X7_58 dX7_hold_6 rfl rfl ⟨Nat.le_of_ble_eq_true rfl, Nat.le_of_ble_eq_true rfl⟩ (Nat.le_of_ble_eq_true rfl) ⟨Nat.le_refl _, Nat.le_refl _⟩ (Or.inl rfl) rfl (x_kd ?_)
  refine x_ifb_eq (tgt := 22) (pc' := 12) hC dX7_hold_9 (by decide) rfl (fun c9 => ?_) (fun c9 => ?_)
  · refine x_iconst (pc' := 23) hC dX7_hold_22 rfl ?_
    exact x_iret hC dX7_hold_23 (xI.mk ⟨by unfold aHold; rw [if_neg (by omega)], hA, FrI.rf⟩)
  · refine x_iload_n (pc' := 13) hC dX7_hold_12 rfl rfl ?_
    refine x_i2l (pc' := 14) hC dX7_hold_13 (by omega) rfl ?_
    refine x_lconst (pc' := 15) (a := 0) hC dX7_hold_14 (by decide) rfl ?_
    refine x_lconst (pc' := 16) (a := 1) hC dX7_hold_15 (by decide) rfl ?_
    refine x_callS (pc' := 19) (n := 3) hC (m_in (by omega) (by omega) (by omega)) ky_X7_in ks_X7_in kl_X7_58 dX7_hold_16 rfl rfl ⟨Nat.le_of_ble_eq_true rfl, Nat.le_of_ble_eq_true rfl⟩ (Nat.le_of_ble_eq_true rfl) ⟨Nat.le_refl _, Nat.le_refl _⟩ (Or.inl rfl) rfl (x_kd ?_)
    refine x_ifb_ne (tgt := 24) (pc' := 22) hC dX7_hold_19 (by decide) rfl (fun c19 => ?_) (fun c19 => ?_)
    · refine x_aload_n (pc' := 25) hC dX7_hold_24 rfl rfl ?_
      refine x_iload_n (pc' := 26) hC dX7_hold_25 rfl rfl ?_
      refine x_iconst (pc' := 27) hC dX7_hold_26 rfl ?_
      refine x_iconst (pc' := 28) hC dX7_hold_27 rfl ?_
      refine x_callV (pc' := 31) (n := 3) hC (m_holds hM hT hR hQ hN ⟨by omega, by omega⟩ ⟨by omega, by omega⟩ ⟨by omega, by omega⟩) ky_X7_holds kv_X7_holds kl_X7_159 dX7_hold_28 (hM 0 _ rfl) rfl rfl rfl rfl ⟨Nat.le_of_ble_eq_true rfl, Nat.le_of_ble_eq_true rfl⟩ (Nat.le_of_ble_eq_true rfl) ⟨Nat.le_refl _, Nat.le_refl _⟩ (Or.inl rfl) rfl (x_kv (fun μ28 h28 => ?_))
      refine x_ifb_eq (tgt := 45) (pc' := 34) hC dX7_hold_31 (by decide) rfl (fun c31 => ?_) (fun c31 => ?_)
      · refine x_iconst (pc' := 46) hC dX7_hold_45 rfl ?_
        refine x_istore_n (pc' := 47) hC dX7_hold_46 (by decide) rfl rfl ?_
        refine x_vs (vs' := [some (vR g 81), some (vI n), some (vI w), some (vI 1), none]) (by intro i v; match i with | 0 => exact id | 1 => exact id | 2 => exact id | 3 => exact id | 4 => (intro h; cases h) | i + 5 => (intro h; cases h)) ?_
        exact loop 6 5 _ _ c9 c19 (by omega) (by omega) h28 (by unfold aHold; rw [if_pos ⟨c9, c19⟩, if_neg c31]) (by omega)
      · refine x_iload_n (pc' := 35) hC dX7_hold_34 rfl rfl ?_
        refine x_if_ne (tgt := 42) (pc' := 38) hC dX7_hold_35 (by decide) rfl (by omega) (fun c35 => ?_) (fun c35 => ?_)
        · refine x_bipush (pc' := 44) hC dX7_hold_42 (by decide) rfl ?_
          exact x_iret hC dX7_hold_44 (xI.mk ⟨by unfold aHold; rw [if_pos ⟨c9, c19⟩, if_pos c31]; first | rw [if_neg c35] | rw [if_pos (by omega)], hA.scr h28 (by omega), h28.mono (by omega) (by omega)⟩)
        · refine x_iconst (pc' := 39) hC dX7_hold_38 rfl ?_
          refine x_goto (tgt := 44) hC dX7_hold_39 (by decide) ?_
          exact x_iret hC dX7_hold_44 (xI.mk ⟨by unfold aHold; rw [if_pos ⟨c9, c19⟩, if_pos c31]; first | rw [if_neg c35] | rw [if_pos (by omega)], hA.scr h28 (by omega), h28.mono (by omega) (by omega)⟩)
    · refine x_iconst (pc' := 23) hC dX7_hold_22 rfl ?_
      exact x_iret hC dX7_hold_23 (xI.mk ⟨by unfold aHold; rw [if_neg (by omega)], hA, FrI.rf⟩)
set_option maxRecDepth 100000 in
set_option maxHeartbeats 4000000 in
theorem q_waxes {g : xG} {l : Launch} {S : List xS} {μ : xM} {T r : Int → Int} {nt : Int} {tx : Int → Int} {un kp : List (Int → Int)} {sl : List (Int × Int)} {x : Int} (hM : xPreM S) (hA : RM μ T r nt tx un kp sl) (hF : WF T r un kp) (hx : -2147483648 ≤ x ∧ x < 2147483648) : xCt g l yX7_waxes cX7_waxes 4 (some .int) 6 132 0 0 [vR g 81, vI x] S μ S (xI (fun a μ' => a = aWaxes T r sl x ∧ RM μ' T r nt tx un kp sl ∧ FrI 81 92 μ μ')) := by
  refine x_enter (by decide) (Nat.le_of_ble_eq_true rfl) ?_
  intro zp ze zs zm za zb zh zc hC hz0
  have hT := hF.1
  have hR := hF.2.1.1
  have hy := hF.2.1.2
  have t0 := hT.1
  have t1 := hT.2.1
  have t2 := hT.2.2.1
  have t3 := hT.2.2.2.1
  have hQ := hA.2.1
  have hN := hA.2.2.1
  obtain ⟨⟨m0, m1, m2, m3⟩, m4⟩ := hA.2.1
  have loop : ∀ (zn : Nat) (k : Nat) (i bi : Int) (μ1 : xM) (c5 : 0 ≤ x ∧ x < T 0) (hi : i = k) (hk : k ≤ 10) (hbi : bi = bitsF (fun w => seenB (goYear T (up r (2 + x) w)) sl) k) (h1 : FrI 87 88 μ μ1), 10 - k < zn → xX g 4 zp l ze { frames := 6, cells := 0, slots := 0, locals := 132 } zs zm za zb zh zc 0 0 (MQ zb (xQ g S (xI (fun a μ' => a = aWaxes T r sl x ∧ RM μ' T r nt tx un kp sl ∧ FrI 81 92 μ μ'))) za zs 0 0 (xA0 g)) S μ1 14 [some (vR g 81), some (vI x), some (vI bi), some (vI i)] [] := by
    intro zn
    induction zn with
    | zero => intros; rename_i hz; exact absurd hz (Nat.not_lt_zero _)
    | succ zn ih =>
      intro k i bi μ1 c5 hi hk hbi h1 hn
      subst hi
      refine x_iload_n (pc' := 15) hC dX7_waxes_14 rfl rfl ?_
      refine x_bipush (pc' := 17) hC dX7_waxes_15 (by decide) rfl ?_
      refine x_icmp_ge (tgt := 56) (pc' := 20) hC dX7_waxes_17 (by decide) rfl (by omega) (by omega) (fun c17 => ?_) (fun c17 => ?_)
      · refine x_iload_n (pc' := 57) hC dX7_waxes_56 rfl rfl ?_
        exact x_iret hC dX7_waxes_57 (xI.mk ⟨by unfold aWaxes; rw [if_pos c5, hbi, show k = 10 by omega], hA.scr h1 (by omega), h1.mono (by omega) (by omega)⟩)
      · refine x_aload_n (pc' := 21) hC dX7_waxes_20 rfl rfl ?_
        refine x_callV (pc' := 24) (n := 0) hC (m_aside hM (hN.fr h1 (by omega))) ky_X7_aside kv_X7_aside kl_X7_136 dX7_waxes_21 (hM 0 _ rfl) rfl rfl rfl rfl ⟨Nat.le_of_ble_eq_true rfl, Nat.le_of_ble_eq_true rfl⟩ (Nat.le_of_ble_eq_true rfl) ⟨Nat.le_refl _, Nat.le_refl _⟩ (Or.inl rfl) rfl (x_kn (fun μ21 h21 => ?_))
        refine x_aload_n (pc' := 25) hC dX7_waxes_24 rfl rfl ?_
        refine x_getR (pc' := 28) (b := 87) hC kf_X7_25 dX7_waxes_25 (hM 0 _ rfl) rfl rfl ?_
        refine x_iconst (pc' := 29) hC dX7_waxes_28 rfl ?_
        refine x_iload_n (pc' := 30) hC dX7_waxes_29 rfl rfl ?_
        refine x_iadd (pc' := 31) hC dX7_waxes_30 rfl ?_
        refine x_iload_n (pc' := 32) hC dX7_waxes_31 rfl rfl ?_
        refine x_iast (pc' := 33) hC dX7_waxes_32 (hM 6 _ rfl) (by omega) (by omega) rfl ?_
        refine x_iload_n (pc' := 34) hC dX7_waxes_33 rfl rfl ?_
        refine x_aload_n (pc' := 35) hC dX7_waxes_34 rfl rfl ?_
        refine x_callV (pc' := 38) (n := 0) hC (m_isSeen (T := T) (r := up r (2 + x) k) hM hT (WR_wax hR (by omega) (by omega) (by omega)) ⟨hQ.fr ((h1.tr h21.1).u (by omega)) (by omega), h21.2.u⟩ (hA.2.2.2.2.2.fr ((h1.tr h21.1).u (by omega)) (by omega) (by omega))) ky_X7_isSeen kv_X7_isSeen kl_X7_169 dX7_waxes_35 (hM 0 _ rfl) rfl rfl rfl rfl ⟨Nat.le_of_ble_eq_true rfl, Nat.le_of_ble_eq_true rfl⟩ (Nat.le_of_ble_eq_true rfl) ⟨Nat.le_refl _, Nat.le_refl _⟩ (Or.inl rfl) rfl (x_kv (fun μ35 h35 => ?_))
        refine x_ifb_eq (tgt := 47) (pc' := 41) hC dX7_waxes_38 (by decide) rfl (fun c38 => ?_) (fun c38 => ?_)
        · refine x_iconst (pc' := 48) hC dX7_waxes_47 rfl ?_
          refine x_ior (pc' := 49) hC dX7_waxes_48 rfl ?_
          refine x_istore_n (pc' := 50) hC dX7_waxes_49 (by decide) rfl rfl ?_
          refine x_iinc (pc' := 53) hC dX7_waxes_50 rfl (by decide) rfl rfl ?_
          refine x_goto (tgt := 14) hC dX7_waxes_53 (by decide) ?_
          exact ih (k + 1) _ _ _ c5 (by omega) (by omega) (by rw [bitsF, hbi]; first | rw [if_pos c38] | rw [if_neg c38]) (((h1.tr h21.1).u (by omega)).tr h35) (by omega)
        · refine x_iconst (pc' := 42) hC dX7_waxes_41 rfl ?_
          refine x_iload_n (pc' := 43) hC dX7_waxes_42 rfl rfl ?_
          refine x_ishl (pc' := 44) hC dX7_waxes_43 rfl ?_
          refine x_goto (tgt := 48) hC dX7_waxes_44 (by decide) ?_
          refine x_ior (pc' := 49) hC dX7_waxes_48 rfl ?_
          refine x_istore_n (pc' := 50) hC dX7_waxes_49 (by decide) rfl rfl ?_
          refine x_iinc (pc' := 53) hC dX7_waxes_50 rfl (by decide) rfl rfl ?_
          refine x_goto (tgt := 14) hC dX7_waxes_53 (by decide) ?_
          exact ih (k + 1) _ _ _ c5 (by omega) (by omega) (by rw [bitsF, hbi]; first | rw [if_pos c38] | rw [if_neg c38]) (((h1.tr h21.1).u (by omega)).tr h35) (by omega)
  refine x_aload_n (pc' := 1) hC dX7_waxes_0 rfl rfl ?_
  refine x_iload_n (pc' := 2) hC dX7_waxes_1 rfl rfl ?_
  refine x_callV (pc' := 5) (n := 1) hC (m_isStep hM hT hQ (by omega)) ky_X7_isStep kv_X7_isStep kl_X7_139 dX7_waxes_2 (hM 0 _ rfl) rfl rfl rfl rfl ⟨Nat.le_of_ble_eq_true rfl, Nat.le_of_ble_eq_true rfl⟩ (Nat.le_of_ble_eq_true rfl) ⟨Nat.le_refl _, Nat.le_refl _⟩ (Or.inl rfl) rfl (x_kd ?_)
  refine x_ifb_ne (tgt := 10) (pc' := 8) hC dX7_waxes_5 (by decide) rfl (fun c5 => ?_) (fun c5 => ?_)
  · refine x_iconst (pc' := 11) hC dX7_waxes_10 rfl ?_
    refine x_istore_n (pc' := 12) hC dX7_waxes_11 (by decide) rfl rfl ?_
    refine x_iconst (pc' := 13) hC dX7_waxes_12 rfl ?_
    refine x_istore_n (pc' := 14) hC dX7_waxes_13 (by decide) rfl rfl ?_
    exact loop 11 0 _ _ μ c5 rfl (by omega) rfl FrI.rf (by omega)
  · refine x_iconst (pc' := 9) hC dX7_waxes_8 rfl ?_
    exact x_iret hC dX7_waxes_9 (xI.mk ⟨by unfold aWaxes; rw [if_neg (by omega)], hA, FrI.rf⟩)
set_option maxRecDepth 100000 in
set_option maxHeartbeats 4000000 in
theorem q_grips {g : xG} {l : Launch} {S : List xS} {μ : xM} {T r : Int → Int} {nt : Int} {tx : Int → Int} {un kp : List (Int → Int)} {sl : List (Int × Int)} {m : Int} (hM : xPreM S) (hA : RM μ T r nt tx un kp sl) (hF : WF T r un kp) (hm : -2147483648 ≤ m ∧ m < 2147483648) : xCt g l yX7_grips cX7_grips 5 (some .int) 6 132 0 0 [vR g 81, vI m] S μ S (xI (fun a μ' => a = aGrips T r sl m ∧ RM μ' T r nt tx un kp sl ∧ FrI 81 92 μ μ')) := by
  refine x_enter (by decide) (Nat.le_of_ble_eq_true rfl) ?_
  intro zp ze zs zm za zb zh zc hC hz0
  have hT := hF.1
  have hR := hF.2.1.1
  have hy := hF.2.1.2
  have t0 := hT.1
  have t1 := hT.2.1
  have t2 := hT.2.2.1
  have t3 := hT.2.2.2.1
  have hQ := hA.2.1
  have hN := hA.2.2.1
  obtain ⟨⟨m0, m1, m2, m3⟩, m4⟩ := hA.2.1
  have loop : ∀ (zn : Nat) (k : Nat) (i bi : Int) (μ1 : xM) (c5 : 0 ≤ m ∧ m < T 3) (hi : i = k) (hk : k ≤ 10) (hbi : bi = bitsF (fun v => seenB (goYear (up T (11 + m) v) r) sl) k) (h1 : FrG (11 + m) μ μ1), 10 - k < zn → xX g 5 zp l ze { frames := 6, cells := 0, slots := 0, locals := 132 } zs zm za zb zh zc 0 0 (MQ zb (xQ g S (xI (fun a μ' => a = aGrips T r sl m ∧ RM μ' T r nt tx un kp sl ∧ FrI 81 92 μ μ'))) za zs 0 0 (xA0 g)) S μ1 25 [some (vR g 81), some (vI m), some (vI (T (11 + m))), some (vI bi), some (vI i)] [] := by
    intro zn
    induction zn with
    | zero => intros; rename_i hz; exact absurd hz (Nat.not_lt_zero _)
    | succ zn ih =>
      intro k i bi μ1 c5 hi hk hbi h1 hn
      subst hi
      refine x_iload (pc' := 27) hC dX7_grips_25 rfl rfl ?_
      refine x_bipush (pc' := 29) hC dX7_grips_27 (by decide) rfl ?_
      refine x_icmp_ge (tgt := 71) (pc' := 32) hC dX7_grips_29 (by decide) rfl (by omega) (by omega) (fun c29 => ?_) (fun c29 => ?_)
      · refine x_aload_n (pc' := 72) hC dX7_grips_71 rfl rfl ?_
        refine x_getR (pc' := 75) (b := 83) hC kf_X7_13 dX7_grips_72 (hM 0 _ rfl) rfl rfl ?_
        refine x_bipush (pc' := 77) hC dX7_grips_75 (by decide) rfl ?_
        refine x_iload_n (pc' := 78) hC dX7_grips_77 rfl rfl ?_
        refine x_iadd (pc' := 79) hC dX7_grips_78 rfl ?_
        refine x_iload_n (pc' := 80) hC dX7_grips_79 rfl rfl ?_
        refine x_iast (pc' := 81) hC dX7_grips_80 (hM 2 _ rfl) (by omega) (by omega) rfl ?_
        refine x_iload_n (pc' := 82) hC dX7_grips_81 rfl rfl ?_
        exact x_iret hC dX7_grips_82 (xI.mk ⟨by unfold aGrips; rw [if_pos c5, hbi, show k = 10 by omega], hA.scr (h1.end (m4 m c5.1 c5.2).2) (by omega), (h1.end (m4 m c5.1 c5.2).2).mono (by omega) (by omega)⟩)
      · refine x_aload_n (pc' := 33) hC dX7_grips_32 rfl rfl ?_
        refine x_callV (pc' := 36) (n := 0) hC (m_aside hM (hN.gr h1)) ky_X7_aside kv_X7_aside kl_X7_136 dX7_grips_33 (hM 0 _ rfl) rfl rfl rfl rfl ⟨Nat.le_of_ble_eq_true rfl, Nat.le_of_ble_eq_true rfl⟩ (Nat.le_of_ble_eq_true rfl) ⟨Nat.le_refl _, Nat.le_refl _⟩ (Or.inl rfl) rfl (x_kn (fun μ33 h33 => ?_))
        refine x_aload_n (pc' := 37) hC dX7_grips_36 rfl rfl ?_
        refine x_getR (pc' := 40) (b := 83) hC kf_X7_13 dX7_grips_37 (hM 0 _ rfl) rfl rfl ?_
        refine x_bipush (pc' := 42) hC dX7_grips_40 (by decide) rfl ?_
        refine x_iload_n (pc' := 43) hC dX7_grips_42 rfl rfl ?_
        refine x_iadd (pc' := 44) hC dX7_grips_43 rfl ?_
        refine x_iload (pc' := 46) hC dX7_grips_44 rfl rfl ?_
        refine x_iast (pc' := 47) hC dX7_grips_46 (hM 2 _ rfl) (by omega) (by omega) rfl ?_
        refine x_iload_n (pc' := 48) hC dX7_grips_47 rfl rfl ?_
        refine x_aload_n (pc' := 49) hC dX7_grips_48 rfl rfl ?_
        refine x_callV (pc' := 52) (n := 0) hC (m_isSeen (T := up T (11 + m) k) (r := r) hM (hT.grip c5 (by omega)) (WR.grip hT c5 hR) ⟨hQ.gr hT c5 (h1.fr h33.1).u xU_at2, h33.2.fr (lo := 83) (hi := 84) (FrI.rf.u (by omega)) (by omega)⟩ (hA.2.2.2.2.2.gr c5.1 (h1.fr h33.1).u)) ky_X7_isSeen kv_X7_isSeen kl_X7_169 dX7_grips_49 (hM 0 _ rfl) rfl rfl rfl rfl ⟨Nat.le_of_ble_eq_true rfl, Nat.le_of_ble_eq_true rfl⟩ (Nat.le_of_ble_eq_true rfl) ⟨Nat.le_refl _, Nat.le_refl _⟩ (Or.inl rfl) rfl (x_kv (fun μ49 h49 => ?_))
        refine x_ifb_eq (tgt := 62) (pc' := 55) hC dX7_grips_52 (by decide) rfl (fun c52 => ?_) (fun c52 => ?_)
        · refine x_iconst (pc' := 63) hC dX7_grips_62 rfl ?_
          refine x_ior (pc' := 64) hC dX7_grips_63 rfl ?_
          refine x_istore_n (pc' := 65) hC dX7_grips_64 (by decide) rfl rfl ?_
          refine x_iinc (pc' := 68) hC dX7_grips_65 rfl (by decide) rfl rfl ?_
          refine x_goto (tgt := 25) hC dX7_grips_68 (by decide) ?_
          exact ih (k + 1) _ _ _ c5 (by omega) (by omega) (by rw [bitsF, hbi]; first | rw [if_pos c52] | rw [if_neg c52]) ((h1.fr h33.1).u.fr h49) (by omega)
        · refine x_iconst (pc' := 56) hC dX7_grips_55 rfl ?_
          refine x_iload (pc' := 58) hC dX7_grips_56 rfl rfl ?_
          refine x_ishl (pc' := 59) hC dX7_grips_58 rfl ?_
          refine x_goto (tgt := 63) hC dX7_grips_59 (by decide) ?_
          refine x_ior (pc' := 64) hC dX7_grips_63 rfl ?_
          refine x_istore_n (pc' := 65) hC dX7_grips_64 (by decide) rfl rfl ?_
          refine x_iinc (pc' := 68) hC dX7_grips_65 rfl (by decide) rfl rfl ?_
          refine x_goto (tgt := 25) hC dX7_grips_68 (by decide) ?_
          exact ih (k + 1) _ _ _ c5 (by omega) (by omega) (by rw [bitsF, hbi]; first | rw [if_pos c52] | rw [if_neg c52]) ((h1.fr h33.1).u.fr h49) (by omega)
  refine x_aload_n (pc' := 1) hC dX7_grips_0 rfl rfl ?_
  refine x_iload_n (pc' := 2) hC dX7_grips_1 rfl rfl ?_
  refine x_callV (pc' := 5) (n := 1) hC (m_isOne hM hT hQ (by omega)) ky_X7_isOne kv_X7_isOne kl_X7_131 dX7_grips_2 (hM 0 _ rfl) rfl rfl rfl rfl ⟨Nat.le_of_ble_eq_true rfl, Nat.le_of_ble_eq_true rfl⟩ (Nat.le_of_ble_eq_true rfl) ⟨Nat.le_refl _, Nat.le_refl _⟩ (Or.inl rfl) rfl (x_kd ?_)
  refine x_ifb_ne (tgt := 10) (pc' := 8) hC dX7_grips_5 (by decide) rfl (fun c5 => ?_) (fun c5 => ?_)
  · refine x_aload_n (pc' := 11) hC dX7_grips_10 rfl rfl ?_
    refine x_getR (pc' := 14) (b := 83) hC kf_X7_13 dX7_grips_11 (hM 0 _ rfl) rfl rfl ?_
    refine x_bipush (pc' := 16) hC dX7_grips_14 (by decide) rfl ?_
    refine x_iload_n (pc' := 17) hC dX7_grips_16 rfl rfl ?_
    refine x_iadd (pc' := 18) hC dX7_grips_17 rfl ?_
    refine x_iald (pc' := 19) hC dX7_grips_18 (hM 2 _ rfl) (by omega) (by decide) rfl ?_
    rw [(m4 m c5.1 c5.2).2]
    refine x_istore_n (pc' := 20) hC dX7_grips_19 (by decide) rfl rfl ?_
    refine x_iconst (pc' := 21) hC dX7_grips_20 rfl ?_
    refine x_istore_n (pc' := 22) hC dX7_grips_21 (by decide) rfl rfl ?_
    refine x_iconst (pc' := 23) hC dX7_grips_22 rfl ?_
    refine x_istore (pc' := 25) hC dX7_grips_23 (by decide) rfl rfl ?_
    exact loop 11 0 _ _ μ c5 rfl (by omega) rfl FrG.rf (by omega)
  · refine x_iconst (pc' := 9) hC dX7_grips_8 rfl ?_
    exact x_iret hC dX7_grips_9 (xI.mk ⟨by unfold aGrips; rw [if_neg (by omega)], hA, FrI.rf⟩)
set_option maxRecDepth 100000 in
set_option maxHeartbeats 4000000 in
theorem q_century {g : xG} {l : Launch} {S : List xS} {μ : xM} {T r : Int → Int} {nt : Int} {tx : Int → Int} {un kp : List (Int → Int)} {sl : List (Int × Int)} {z n w : Int} (hM : xPreM S) (hA : RM μ T r nt tx un kp sl) (hF : WF T r un kp) (hz : -2147483648 ≤ z ∧ z < 2147483648) (hn : -2147483648 ≤ n ∧ n < 2147483648) (hw : -2147483648 ≤ w ∧ w < 2147483648) : xCt g l yX7_century cX7_century 10 (some .int) 5 110 0 0 [vR g 81, vI z, vI n, vI w] S μ S (xI (fun a μ' => a = aCentury T r z n w ∧ RM μ' T r nt tx un kp sl ∧ FrI 81 92 μ μ')) := by
  refine x_enter (by decide) (Nat.le_of_ble_eq_true rfl) ?_
  intro zp ze zs zm za zb zh zc hC hz0
  have hT := hF.1
  have hR := hF.2.1.1
  have hy := hF.2.1.2
  have t0 := hT.1
  have t1 := hT.2.1
  have t2 := hT.2.2.1
  have t3 := hT.2.2.2.1
  have hQ := hA.2.1
  have hN := hA.2.2.1
  obtain ⟨⟨m0, m1, m2, m3⟩, m4⟩ := hA.2.1
  have loop : ∀ (zn : Nat) (k : Nat) (i gg cc : Int) (μ1 : xM) (r1 : Int → Int) (b1 : 0 ≤ z ∧ z ≤ 9999) (b2 : 1 ≤ n ∧ n ≤ 60) (b3 : 0 ≤ w ∧ w ≤ 1) (hi : i + k = n) (hi0 : 0 ≤ i) (hg : 0 ≤ gg ∧ gg < T 3) (h1 : FrI 87 88 μ μ1) (h1r : Rw μ1 87 r1) (h3 : WR T r1) (h4 : cenF T z k i r1 gg cc = cenF T z n.toNat 0 r (gov T r) 0), k < zn → xX g 10 zp l ze { frames := 5, cells := 0, slots := 0, locals := 110 } zs zm za zb zh zc 0 0 (MQ zb (xQ g S (xI (fun a μ' => a = aCentury T r z n w ∧ RM μ' T r nt tx un kp sl ∧ FrI 81 92 μ μ'))) za zs 0 0 (xA0 g)) S μ1 52 [some (vR g 81), some (vI z), some (vI n), some (vI w), some (vI cc), some (vI gg), some (vI i), none, none, none] [] := by
    intro zn
    induction zn with
    | zero => intros; rename_i hz; exact absurd hz (Nat.not_lt_zero _)
    | succ zn ih =>
      intro k i gg cc μ1 r1 b1 b2 b3 hi hi0 hg h1 h1r h3 h4 hn
      have d9 := drawF_rg z i
      have hW := WR_weath hT h3 (show 0 ≤ drawF z i by omega)
      have g9 := gov_in (T := T) (r := goYear T (weath T r1 (drawF z i))) hT
      have sq := sq_rg (x := 7919 * z + 6151 * i + 1) (by omega)
      have z1 := Int.emod_nonneg (drawF z i) (show T 0 ≠ 0 by omega)
      have z2 := Int.emod_lt_of_pos (drawF z i) (show 0 < T 0 by omega)
      have z3 := Int.emod_nonneg (drawF z i / 32) (show T 0 ≠ 0 by omega)
      have z4 := Int.emod_lt_of_pos (drawF z i / 32) (show 0 < T 0 by omega)
      have mid : ∀ (μ2 : xM) (r2 : Int → Int) (h2 : FrI 87 88 μ μ2) (h2r : Rw μ2 87 r2) (h3b : WR T r2) (he2 : r2 = if drawF z i / 16 % 2 = 0 then waxBy r1 (drawF z i % T 0) 1 else r1) (hin : i < n), xX g 10 zp l ze { frames := 5, cells := 0, slots := 0, locals := 110 } zs zm za zb zh zc 0 0 (MQ zb (xQ g S (xI (fun a μ' => a = aCentury T r z n w ∧ RM μ' T r nt tx un kp sl ∧ FrI 81 92 μ μ'))) za zs 0 0 (xA0 g)) S μ2 118 [some (vR g 81), some (vI z), some (vI n), some (vI w), some (vI cc), some (vI gg), some (vI i), none, none, some (vI (drawF z i))] [] := by
        intro μ2 r2 h2 h2r h3b he2 hin
        have mid2 : ∀ (μ3 : xM) (h5 : FrI 87 88 μ μ3) (h5r : Rw μ3 87 (weath T r1 (drawF z i))), xX g 10 zp l ze { frames := 5, cells := 0, slots := 0, locals := 110 } zs zm za zb zh zc 0 0 (MQ zb (xQ g S (xI (fun a μ' => a = aCentury T r z n w ∧ RM μ' T r nt tx un kp sl ∧ FrI 81 92 μ μ'))) za zs 0 0 (xA0 g)) S μ3 151 [some (vR g 81), some (vI z), some (vI n), some (vI w), some (vI cc), some (vI gg), some (vI i), none, none, some (vI (drawF z i))] [] := by
          intro μ3 h5 h5r
          obtain ⟨k1, rfl⟩ : ∃ k1 : Nat, k = k1 + 1 := ⟨k - 1, by omega⟩
          rw [cenF] at h4
          refine x_aload_n (pc' := 152) hC dX7_century_151 rfl rfl ?_
          refine x_callV (pc' := 155) (n := 0) hC (m_goYear hM hT hW ⟨hQ.fr h5 (by omega), h5r⟩) ky_X7_goYear kv_X7_goYear kl_X7_128 dX7_century_152 (hM 0 _ rfl) rfl rfl rfl rfl ⟨Nat.le_of_ble_eq_true rfl, Nat.le_of_ble_eq_true rfl⟩ (Nat.le_of_ble_eq_true rfl) ⟨Nat.le_refl _, Nat.le_refl _⟩ (Or.inl rfl) rfl (x_kn (fun μ152 h152 => ?_))
          refine x_iload (pc' := 157) hC dX7_century_155 rfl rfl ?_
          refine x_aload_n (pc' := 158) hC dX7_century_157 rfl rfl ?_
          refine x_callV (pc' := 161) (n := 0) hC (m_governor hM hT (WR_goYear hT hW) ⟨hQ.fr (h5.tr h152.1) (by omega), h152.2⟩) ky_X7_governor kv_X7_governor kl_X7_125 dX7_century_158 (hM 0 _ rfl) rfl rfl rfl rfl ⟨Nat.le_of_ble_eq_true rfl, Nat.le_of_ble_eq_true rfl⟩ (Nat.le_of_ble_eq_true rfl) ⟨Nat.le_refl _, Nat.le_refl _⟩ (Or.inl rfl) rfl (x_kd ?_)
          refine x_iload (pc' := 163) hC dX7_century_161 rfl rfl ?_
          refine x_icmp_ne (tgt := 170) (pc' := 166) hC dX7_century_163 (by decide) rfl (by omega) (by omega) (fun c163 => ?_) (fun c163 => ?_)
          · rw [if_neg c163] at h4
            refine x_iconst (pc' := 171) hC dX7_century_170 rfl ?_
            refine x_iadd (pc' := 172) hC dX7_century_171 rfl ?_
            refine x_istore (pc' := 174) hC dX7_century_172 (by decide) rfl rfl ?_
            refine x_aload_n (pc' := 175) hC dX7_century_174 rfl rfl ?_
            refine x_callV (pc' := 178) (n := 0) hC (m_governor hM hT (WR_goYear hT hW) ⟨hQ.fr (h5.tr h152.1) (by omega), h152.2⟩) ky_X7_governor kv_X7_governor kl_X7_125 dX7_century_175 (hM 0 _ rfl) rfl rfl rfl rfl ⟨Nat.le_of_ble_eq_true rfl, Nat.le_of_ble_eq_true rfl⟩ (Nat.le_of_ble_eq_true rfl) ⟨Nat.le_refl _, Nat.le_refl _⟩ (Or.inl rfl) rfl (x_kd ?_)
            refine x_istore (pc' := 180) hC dX7_century_178 (by decide) rfl rfl ?_
            refine x_iinc (pc' := 183) hC dX7_century_180 rfl (by decide) rfl rfl ?_
            refine x_goto (tgt := 52) hC dX7_century_183 (by decide) ?_
            refine x_vs (vs' := [some (vR g 81), some (vI z), some (vI n), some (vI w), some (vI _), some (vI (gov T (goYear T (weath T r1 (drawF z i))))), some (vI (i + 1)), none, none, none]) (by intro i v; match i with | 0 => exact id | 1 => exact id | 2 => exact id | 3 => exact id | 4 => exact id | 5 => exact id | 6 => exact id | 7 => (intro h; cases h) | 8 => (intro h; cases h) | 9 => (intro h; cases h) | i + 10 => (intro h; cases h)) ?_
            exact ih k1 _ _ _ _ (goYear T (weath T r1 (drawF z i))) b1 b2 b3 (by omega) (by omega) g9 (h5.tr h152.1) h152.2 (WR_goYear hT hW) (by first | exact h4 | (rw [Int.add_zero]; exact h4)) (by omega)
          · rw [if_pos c163] at h4
            refine x_iconst (pc' := 167) hC dX7_century_166 rfl ?_
            refine x_goto (tgt := 171) hC dX7_century_167 (by decide) ?_
            refine x_iadd (pc' := 172) hC dX7_century_171 rfl ?_
            refine x_istore (pc' := 174) hC dX7_century_172 (by decide) rfl rfl ?_
            refine x_aload_n (pc' := 175) hC dX7_century_174 rfl rfl ?_
            refine x_callV (pc' := 178) (n := 0) hC (m_governor hM hT (WR_goYear hT hW) ⟨hQ.fr (h5.tr h152.1) (by omega), h152.2⟩) ky_X7_governor kv_X7_governor kl_X7_125 dX7_century_175 (hM 0 _ rfl) rfl rfl rfl rfl ⟨Nat.le_of_ble_eq_true rfl, Nat.le_of_ble_eq_true rfl⟩ (Nat.le_of_ble_eq_true rfl) ⟨Nat.le_refl _, Nat.le_refl _⟩ (Or.inl rfl) rfl (x_kd ?_)
            refine x_istore (pc' := 180) hC dX7_century_178 (by decide) rfl rfl ?_
            refine x_iinc (pc' := 183) hC dX7_century_180 rfl (by decide) rfl rfl ?_
            refine x_goto (tgt := 52) hC dX7_century_183 (by decide) ?_
            refine x_vs (vs' := [some (vR g 81), some (vI z), some (vI n), some (vI w), some (vI _), some (vI (gov T (goYear T (weath T r1 (drawF z i))))), some (vI (i + 1)), none, none, none]) (by intro i v; match i with | 0 => exact id | 1 => exact id | 2 => exact id | 3 => exact id | 4 => exact id | 5 => exact id | 6 => exact id | 7 => (intro h; cases h) | 8 => (intro h; cases h) | 9 => (intro h; cases h) | i + 10 => (intro h; cases h)) ?_
            exact ih k1 _ _ _ _ (goYear T (weath T r1 (drawF z i))) b1 b2 b3 (by omega) (by omega) g9 (h5.tr h152.1) h152.2 (WR_goYear hT hW) (by first | exact h4 | (rw [Int.add_zero]; exact h4)) (by omega)
        refine x_aload_n (pc' := 119) hC dX7_century_118 rfl rfl ?_
        refine x_iload (pc' := 121) hC dX7_century_119 rfl rfl ?_
        refine x_bipush (pc' := 123) hC dX7_century_121 (by decide) rfl ?_
        refine x_idiv (pc' := 124) hC dX7_century_123 (by omega) (by omega) rfl ?_
        rw [i_div (by omega) (by omega)]
        refine x_aload_n (pc' := 125) hC dX7_century_124 rfl rfl ?_
        refine x_getR (pc' := 128) (b := 83) hC kf_X7_13 dX7_century_125 (hM 0 _ rfl) rfl rfl ?_
        refine x_iconst (pc' := 129) hC dX7_century_128 rfl ?_
        refine x_iald (pc' := 130) hC dX7_century_129 (hM 2 _ rfl) (by omega) (by decide) rfl ?_
        rw [h2 _ _ (by omega), m0]
        refine x_irem (pc' := 131) hC dX7_century_130 (by omega) (by omega) rfl ?_
        rw [i_rem (by omega) (by omega)]
        refine x_iload (pc' := 133) hC dX7_century_131 rfl rfl ?_
        refine x_sipush (pc' := 136) hC dX7_century_133 (by decide) rfl ?_
        refine x_idiv (pc' := 137) hC dX7_century_136 (by omega) (by omega) rfl ?_
        rw [i_div (by omega) (by omega)]
        refine x_iconst (pc' := 138) hC dX7_century_137 rfl ?_
        refine x_irem (pc' := 139) hC dX7_century_138 (by omega) (by omega) rfl ?_
        rw [i_rem (by omega) (by omega)]
        refine x_if_ne (tgt := 147) (pc' := 142) hC dX7_century_139 (by decide) rfl (by omega) (fun c139 => ?_) (fun c139 => ?_)
        · refine x_iconst (pc' := 148) hC dX7_century_147 rfl ?_
          refine x_callV (pc' := 151) (n := 2) hC (m_more hM hT h3b ⟨hQ.fr h2 (by omega), h2r⟩ ⟨by omega, by omega⟩ (by omega)) ky_X7_more kv_X7_more kl_X7_176 dX7_century_148 (hM 0 _ rfl) rfl rfl rfl rfl ⟨Nat.le_of_ble_eq_true rfl, Nat.le_of_ble_eq_true rfl⟩ (Nat.le_of_ble_eq_true rfl) ⟨Nat.le_refl _, Nat.le_refl _⟩ (Or.inl rfl) rfl (x_kn (fun μ148 h148 => ?_))
          first | exact mid2 _ (h2.tr h148.1) (by unfold weath; rw [if_pos c139, ← he2]; exact h148.2) | exact mid2 _ (h2.tr h148.1) (by unfold weath; rw [if_neg c139, ← he2]; have z9 := h148.2; rw [waxBy_0 h3b (by omega) (by omega)] at z9; exact z9)
        · refine x_bipush (pc' := 144) hC dX7_century_142 (by decide) rfl ?_
          refine x_goto (tgt := 148) hC dX7_century_144 (by decide) ?_
          refine x_callV (pc' := 151) (n := 2) hC (m_more hM hT h3b ⟨hQ.fr h2 (by omega), h2r⟩ ⟨by omega, by omega⟩ (by omega)) ky_X7_more kv_X7_more kl_X7_176 dX7_century_148 (hM 0 _ rfl) rfl rfl rfl rfl ⟨Nat.le_of_ble_eq_true rfl, Nat.le_of_ble_eq_true rfl⟩ (Nat.le_of_ble_eq_true rfl) ⟨Nat.le_refl _, Nat.le_refl _⟩ (Or.inl rfl) rfl (x_kn (fun μ148 h148 => ?_))
          first | exact mid2 _ (h2.tr h148.1) (by unfold weath; rw [if_pos c139, ← he2]; exact h148.2) | exact mid2 _ (h2.tr h148.1) (by unfold weath; rw [if_neg c139, ← he2]; have z9 := h148.2; rw [waxBy_0 h3b (by omega) (by omega)] at z9; exact z9)
      refine x_iload (pc' := 54) hC dX7_century_52 rfl rfl ?_
      refine x_iload_n (pc' := 55) hC dX7_century_54 rfl rfl ?_
      refine x_icmp_ge (tgt := 186) (pc' := 58) hC dX7_century_55 (by decide) rfl (by omega) (by omega) (fun c55 => ?_) (fun c55 => ?_)
      · rw [show k = 0 by omega, cenF] at h4
        refine x_iload_n (pc' := 187) hC dX7_century_186 rfl rfl ?_
        refine x_if_ne (tgt := 195) (pc' := 190) hC dX7_century_187 (by decide) rfl (by omega) (fun c187 => ?_) (fun c187 => ?_)
        · refine x_iload (pc' := 197) hC dX7_century_195 rfl rfl ?_
          exact x_iret hC dX7_century_197 (xI.mk ⟨by unfold aCentury; rw [if_pos ⟨b1, b2, b3⟩, ← h4]; first | rw [if_neg c187] | rw [if_pos (by omega)], hA.scr h1 (by omega), h1.mono (by omega) (by omega)⟩)
        · refine x_iload (pc' := 192) hC dX7_century_190 rfl rfl ?_
          refine x_goto (tgt := 197) hC dX7_century_192 (by decide) ?_
          exact x_iret hC dX7_century_197 (xI.mk ⟨by unfold aCentury; rw [if_pos ⟨b1, b2, b3⟩, ← h4]; first | rw [if_neg c187] | rw [if_pos (by omega)], hA.scr h1 (by omega), h1.mono (by omega) (by omega)⟩)
      · refine x_ldc2 (pc' := 61) (a := 7919) hC kc_X7_183 dX7_century_58 (by decide) rfl ?_
        refine x_iload_n (pc' := 62) hC dX7_century_61 rfl rfl ?_
        refine x_i2l (pc' := 63) hC dX7_century_62 (by omega) rfl ?_
        refine x_lmul (pc' := 64) hC dX7_century_63 rfl ?_
        refine x_ldc2 (pc' := 67) (a := 6151) hC kc_X7_185 dX7_century_64 (by decide) rfl ?_
        refine x_iload (pc' := 69) hC dX7_century_67 rfl rfl ?_
        refine x_i2l (pc' := 70) hC dX7_century_69 (by omega) rfl ?_
        refine x_lmul (pc' := 71) hC dX7_century_70 rfl ?_
        refine x_ladd (pc' := 72) hC dX7_century_71 rfl ?_
        refine x_lconst (pc' := 73) (a := 1) hC dX7_century_72 (by decide) rfl ?_
        refine x_ladd (pc' := 74) hC dX7_century_73 rfl ?_
        refine x_lstore (pc' := 76) hC dX7_century_74 (by decide) rfl rfl ?_
        refine x_lload (pc' := 78) hC dX7_century_76 rfl rfl ?_
        refine x_lload (pc' := 80) hC dX7_century_78 rfl rfl ?_
        refine x_lmul (pc' := 81) hC dX7_century_80 rfl ?_
        refine x_ldc2 (pc' := 84) (a := 65521) hC kc_X7_187 dX7_century_81 (by decide) rfl ?_
        refine x_lrem (pc' := 85) hC dX7_century_84 (by omega) (by omega) rfl ?_
        rw [l_rem (by omega) (by omega)]
        refine x_l2i (pc' := 86) hC dX7_century_85 rfl ?_
        refine x_iconst (pc' := 87) hC dX7_century_86 rfl ?_
        refine x_idiv (pc' := 88) hC dX7_century_87 (by omega) (by omega) rfl ?_
        rw [i_div (by omega) (by omega)]
        have ed : (7919 * z + 6151 * i + 1) * (7919 * z + 6151 * i + 1) % 65521 / 2 = drawF z i := rfl
        rw [ed]
        refine x_istore (pc' := 90) hC dX7_century_88 (by decide) rfl rfl ?_
        refine x_aload_n (pc' := 91) hC dX7_century_90 rfl rfl ?_
        refine x_iload (pc' := 93) hC dX7_century_91 rfl rfl ?_
        refine x_aload_n (pc' := 94) hC dX7_century_93 rfl rfl ?_
        refine x_getR (pc' := 97) (b := 83) hC kf_X7_13 dX7_century_94 (hM 0 _ rfl) rfl rfl ?_
        refine x_iconst (pc' := 98) hC dX7_century_97 rfl ?_
        refine x_iald (pc' := 99) hC dX7_century_98 (hM 2 _ rfl) (by omega) (by decide) rfl ?_
        rw [h1 _ _ (by omega), m0]
        refine x_irem (pc' := 100) hC dX7_century_99 (by omega) (by omega) rfl ?_
        rw [i_rem (by omega) (by omega)]
        refine x_iload (pc' := 102) hC dX7_century_100 rfl rfl ?_
        refine x_bipush (pc' := 104) hC dX7_century_102 (by decide) rfl ?_
        refine x_idiv (pc' := 105) hC dX7_century_104 (by omega) (by omega) rfl ?_
        rw [i_div (by omega) (by omega)]
        refine x_iconst (pc' := 106) hC dX7_century_105 rfl ?_
        refine x_irem (pc' := 107) hC dX7_century_106 (by omega) (by omega) rfl ?_
        rw [i_rem (by omega) (by omega)]
        refine x_if_ne (tgt := 114) (pc' := 110) hC dX7_century_107 (by decide) rfl (by omega) (fun c107 => ?_) (fun c107 => ?_)
        · refine x_iconst (pc' := 115) hC dX7_century_114 rfl ?_
          refine x_callV (pc' := 118) (n := 2) hC (m_more hM hT h3 ⟨hQ.fr h1 (by omega), h1r⟩ ⟨by omega, by omega⟩ (by omega)) ky_X7_more kv_X7_more kl_X7_176 dX7_century_115 (hM 0 _ rfl) rfl rfl rfl rfl ⟨Nat.le_of_ble_eq_true rfl, Nat.le_of_ble_eq_true rfl⟩ (Nat.le_of_ble_eq_true rfl) ⟨Nat.le_refl _, Nat.le_refl _⟩ (Or.inl rfl) rfl (x_kn (fun μ115 h115 => ?_))
          refine x_vs (vs' := [some (vR g 81), some (vI z), some (vI n), some (vI w), some (vI cc), some (vI gg), some (vI i), none, none, some (vI (drawF z i))]) (by intro i v; match i with | 0 => exact id | 1 => exact id | 2 => exact id | 3 => exact id | 4 => exact id | 5 => exact id | 6 => exact id | 7 => (intro h; cases h) | 8 => (intro h; cases h) | 9 => exact id | i + 10 => (intro h; cases h)) ?_
          first | exact mid _ _ (h1.tr h115.1) h115.2 (WR_waxBy h3 (by omega) (by omega)) (by rw [if_pos c107]) (by omega) | exact mid _ _ (h1.tr h115.1) h115.2 (WR_waxBy h3 (by omega) (by omega)) (by rw [if_neg c107, waxBy_0 h3 (by omega) (by omega)]) (by omega)
        · refine x_iconst (pc' := 111) hC dX7_century_110 rfl ?_
          refine x_goto (tgt := 115) hC dX7_century_111 (by decide) ?_
          refine x_callV (pc' := 118) (n := 2) hC (m_more hM hT h3 ⟨hQ.fr h1 (by omega), h1r⟩ ⟨by omega, by omega⟩ (by omega)) ky_X7_more kv_X7_more kl_X7_176 dX7_century_115 (hM 0 _ rfl) rfl rfl rfl rfl ⟨Nat.le_of_ble_eq_true rfl, Nat.le_of_ble_eq_true rfl⟩ (Nat.le_of_ble_eq_true rfl) ⟨Nat.le_refl _, Nat.le_refl _⟩ (Or.inl rfl) rfl (x_kn (fun μ115 h115 => ?_))
          refine x_vs (vs' := [some (vR g 81), some (vI z), some (vI n), some (vI w), some (vI cc), some (vI gg), some (vI i), none, none, some (vI (drawF z i))]) (by intro i v; match i with | 0 => exact id | 1 => exact id | 2 => exact id | 3 => exact id | 4 => exact id | 5 => exact id | 6 => exact id | 7 => (intro h; cases h) | 8 => (intro h; cases h) | 9 => exact id | i + 10 => (intro h; cases h)) ?_
          first | exact mid _ _ (h1.tr h115.1) h115.2 (WR_waxBy h3 (by omega) (by omega)) (by rw [if_pos c107]) (by omega) | exact mid _ _ (h1.tr h115.1) h115.2 (WR_waxBy h3 (by omega) (by omega)) (by rw [if_neg c107, waxBy_0 h3 (by omega) (by omega)]) (by omega)
  refine x_iload_n (pc' := 1) hC dX7_century_0 rfl rfl ?_
  refine x_i2l (pc' := 2) hC dX7_century_1 (by omega) rfl ?_
  refine x_lconst (pc' := 3) (a := 0) hC dX7_century_2 (by decide) rfl ?_
  refine x_ldc2 (pc' := 6) (a := 9999) hC kc_X7_179 dX7_century_3 (by decide) rfl ?_
  refine x_callS (pc' := 9) (n := 3) hC (m_in (by omega) (by omega) (by omega)) ky_X7_in ks_X7_in kl_X7_58 dX7_century_6 rfl rfl ⟨Nat.le_of_ble_eq_true rfl, Nat.le_of_ble_eq_true rfl⟩ (Nat.le_of_ble_eq_true rfl) ⟨Nat.le_refl _, Nat.le_refl _⟩ (Or.inl rfl) rfl (x_kd ?_)
  refine x_ifb_eq (tgt := 34) (pc' := 12) hC dX7_century_9 (by decide) rfl (fun c9 => ?_) (fun c9 => ?_)
  · refine x_iconst (pc' := 35) hC dX7_century_34 rfl ?_
    exact x_iret hC dX7_century_35 (xI.mk ⟨by unfold aCentury; rw [if_neg (by omega)], hA, FrI.rf⟩)
  · refine x_iload_n (pc' := 13) hC dX7_century_12 rfl rfl ?_
    refine x_i2l (pc' := 14) hC dX7_century_13 (by omega) rfl ?_
    refine x_lconst (pc' := 15) (a := 1) hC dX7_century_14 (by decide) rfl ?_
    refine x_ldc2 (pc' := 18) (a := 60) hC kc_X7_181 dX7_century_15 (by decide) rfl ?_
    refine x_callS (pc' := 21) (n := 3) hC (m_in (by omega) (by omega) (by omega)) ky_X7_in ks_X7_in kl_X7_58 dX7_century_18 rfl rfl ⟨Nat.le_of_ble_eq_true rfl, Nat.le_of_ble_eq_true rfl⟩ (Nat.le_of_ble_eq_true rfl) ⟨Nat.le_refl _, Nat.le_refl _⟩ (Or.inl rfl) rfl (x_kd ?_)
    refine x_ifb_eq (tgt := 34) (pc' := 24) hC dX7_century_21 (by decide) rfl (fun c21 => ?_) (fun c21 => ?_)
    · refine x_iconst (pc' := 35) hC dX7_century_34 rfl ?_
      exact x_iret hC dX7_century_35 (xI.mk ⟨by unfold aCentury; rw [if_neg (by omega)], hA, FrI.rf⟩)
    · refine x_iload_n (pc' := 25) hC dX7_century_24 rfl rfl ?_
      refine x_i2l (pc' := 26) hC dX7_century_25 (by omega) rfl ?_
      refine x_lconst (pc' := 27) (a := 0) hC dX7_century_26 (by decide) rfl ?_
      refine x_lconst (pc' := 28) (a := 1) hC dX7_century_27 (by decide) rfl ?_
      refine x_callS (pc' := 31) (n := 3) hC (m_in (by omega) (by omega) (by omega)) ky_X7_in ks_X7_in kl_X7_58 dX7_century_28 rfl rfl ⟨Nat.le_of_ble_eq_true rfl, Nat.le_of_ble_eq_true rfl⟩ (Nat.le_of_ble_eq_true rfl) ⟨Nat.le_refl _, Nat.le_refl _⟩ (Or.inl rfl) rfl (x_kd ?_)
      refine x_ifb_ne (tgt := 36) (pc' := 34) hC dX7_century_31 (by decide) rfl (fun c31 => ?_) (fun c31 => ?_)
      · refine x_aload_n (pc' := 37) hC dX7_century_36 rfl rfl ?_
        refine x_callV (pc' := 40) (n := 0) hC (m_aside hM hN) ky_X7_aside kv_X7_aside kl_X7_136 dX7_century_37 (hM 0 _ rfl) rfl rfl rfl rfl ⟨Nat.le_of_ble_eq_true rfl, Nat.le_of_ble_eq_true rfl⟩ (Nat.le_of_ble_eq_true rfl) ⟨Nat.le_refl _, Nat.le_refl _⟩ (Or.inl rfl) rfl (x_kn (fun μ37 h37 => ?_))
        refine x_iconst (pc' := 41) hC dX7_century_40 rfl ?_
        refine x_istore (pc' := 43) hC dX7_century_41 (by decide) rfl rfl ?_
        refine x_aload_n (pc' := 44) hC dX7_century_43 rfl rfl ?_
        refine x_callV (pc' := 47) (n := 0) hC (m_governor hM hT hR ⟨hQ.fr h37.1 (by omega), h37.2⟩) ky_X7_governor kv_X7_governor kl_X7_125 dX7_century_44 (hM 0 _ rfl) rfl rfl rfl rfl ⟨Nat.le_of_ble_eq_true rfl, Nat.le_of_ble_eq_true rfl⟩ (Nat.le_of_ble_eq_true rfl) ⟨Nat.le_refl _, Nat.le_refl _⟩ (Or.inl rfl) rfl (x_kd ?_)
        refine x_istore (pc' := 49) hC dX7_century_47 (by decide) rfl rfl ?_
        refine x_iconst (pc' := 50) hC dX7_century_49 rfl ?_
        refine x_istore (pc' := 52) hC dX7_century_50 (by decide) rfl rfl ?_
        exact loop (n.toNat + 1) n.toNat _ _ _ _ r c9 c21 c31 (by omega) (by omega) (gov_in hT) h37.1 h37.2 hR rfl (by omega)
      · refine x_iconst (pc' := 35) hC dX7_century_34 rfl ?_
        exact x_iret hC dX7_century_35 (xI.mk ⟨by unfold aCentury; rw [if_neg (by omega)], hA, FrI.rf⟩)
