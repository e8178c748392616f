set_option maxRecDepth 100000 in
set_option maxHeartbeats 4000000 in
theorem m_empty {g : xG} {l : Launch} {S : List xS} {μ : xM} (hM : xPreM S) : xCt g l yX7_empty cX7_empty 2 none 0 0 0 0 [vR g 81] S μ S (xN (fun μ' => FrR μ μ' ∧ TT μ' 84 T00 ∧ Rw μ' 86 r00 ∧ μ' 81 4 = 0)) := by
  refine x_enter (by decide) (Nat.le_of_ble_eq_true rfl) ?_
  intro zp ze zs zm za zb zh zc hC hz0
  have rows : ∀ (zn : Nat) (k : Nat) (i : Int) (μ1 : xM) (hi : i = k) (hk : k ≤ 32) (h1 : FrR μ μ1) (hz : ∀ j : Int, 0 ≤ j → j < 18 → μ1 84 j = 0) (hy : ∀ j : Int, 0 ≤ j → j < k → μ1 86 j = 0), 32 - k < zn → xX g 2 zp l ze { frames := 0, cells := 0, slots := 0, locals := 0 } zs zm za zb zh zc 0 0 (MQ zb (xQ g S (xN (fun μ' => FrR μ μ' ∧ TT μ' 84 T00 ∧ Rw μ' 86 r00 ∧ μ' 81 4 = 0))) za zs 0 0 (xA0 g)) S μ1 23 [some (vR g 81), some (vI i)] [] := by
    intro zn
    induction zn with
    | zero => intros; rename_i hz; exact absurd hz (Nat.not_lt_zero _)
    | succ zn ih =>
      intro k i μ1 hi hk h1 hz hy hn
      subst hi
      refine x_iload_n (pc' := 24) hC dX7_empty_23 rfl rfl ?_
      refine x_bipush (pc' := 26) hC dX7_empty_24 (by decide) rfl ?_
      refine x_icmp_ge (tgt := 42) (pc' := 29) hC dX7_empty_26 (by decide) rfl (by omega) (by omega) (fun c26 => ?_) (fun c26 => ?_)
      · refine x_aload_n (pc' := 43) hC dX7_empty_42 rfl rfl ?_
        refine x_getR (pc' := 46) (b := 84) hC kf_X7_16 dX7_empty_43 (hM 0 _ rfl) rfl rfl ?_
        refine x_iconst (pc' := 47) hC dX7_empty_46 rfl ?_
        refine x_bipush (pc' := 49) hC dX7_empty_47 (by decide) rfl ?_
        refine x_iast (pc' := 50) hC dX7_empty_49 (hM 3 _ rfl) (by omega) (by omega) rfl ?_
        refine x_aload_n (pc' := 51) hC dX7_empty_50 rfl rfl ?_
        refine x_getR (pc' := 54) (b := 86) hC kf_X7_22 dX7_empty_51 (hM 0 _ rfl) rfl rfl ?_
        refine x_iconst (pc' := 55) hC dX7_empty_54 rfl ?_
        refine x_bipush (pc' := 57) hC dX7_empty_55 (by decide) rfl ?_
        refine x_iast (pc' := 58) hC dX7_empty_57 (hM 5 _ rfl) (by omega) (by omega) rfl ?_
        refine x_aload_n (pc' := 59) hC dX7_empty_58 rfl rfl ?_
        refine x_iconst (pc' := 60) hC dX7_empty_59 rfl ?_
        refine x_putI (j' := 4) (pc' := 63) hC kf_X7_50 dX7_empty_60 (hM 0 _ rfl) rfl rfl rfl rfl rfl ?_
        exact x_vret hC dX7_empty_63 (xN.mk (by
      have e3 : T00 3 = 0 := by decide
      refine ⟨((h1.uc (Or.inl rfl)).uc (Or.inr rfl)).us (Or.inl rfl), ⟨⟨?_, ?_, ?_, ?_⟩, fun m a b => absurd b (by omega)⟩, fun j a b => ?_, xU_at2⟩
      · rw [xU_nk (by omega), xU_nk (by omega), xU_at2]; decide
      · rw [xU_nk (by omega), xU_nk (by omega), xU_nj (by omega), hz 1 (by omega) (by omega)]; decide
      · rw [xU_nk (by omega), xU_nk (by omega), xU_nj (by omega), hz 2 (by omega) (by omega)]; decide
      · rw [xU_nk (by omega), xU_nk (by omega), xU_nj (by omega), hz 3 (by omega) (by omega)]; decide
      · by_cases hj : j = 1
        · subst hj; rw [xU_nk (by omega), xU_at2]; decide
        · rw [xU_nk (by omega), xU_nj hj, xU_nk (by omega), hy j a (by omega)]; unfold r00; rw [if_neg hj]))
      · refine x_aload_n (pc' := 30) hC dX7_empty_29 rfl rfl ?_
        refine x_getR (pc' := 33) (b := 86) hC kf_X7_22 dX7_empty_30 (hM 0 _ rfl) rfl rfl ?_
        refine x_iload_n (pc' := 34) hC dX7_empty_33 rfl rfl ?_
        refine x_iconst (pc' := 35) hC dX7_empty_34 rfl ?_
        refine x_iast (pc' := 36) hC dX7_empty_35 (hM 5 _ rfl) (by omega) (by omega) rfl ?_
        refine x_iinc (pc' := 39) hC dX7_empty_36 rfl (by decide) rfl rfl ?_
        refine x_goto (tgt := 23) hC dX7_empty_39 (by decide) ?_
        exact ih (k + 1) _ _ (by omega) (by omega) (h1.uc (Or.inr rfl)) (fun j a b => by rw [xU_nk (by omega)]; exact hz j a b) (fun j a b => by by_cases hj : j = k; (rw [hj, xU_at2]); (rw [xU_nj hj]; exact hy j a (by omega))) (by omega)
  have reads : ∀ (zn : Nat) (k : Nat) (i : Int) (μ1 : xM) (hi : i = k) (hk : k ≤ 18) (h1 : FrR μ μ1) (hx : ∀ j : Int, 0 ≤ j → j < k → μ1 84 j = 0), 18 - k < zn → xX g 2 zp l ze { frames := 0, cells := 0, slots := 0, locals := 0 } zs zm za zb zh zc 0 0 (MQ zb (xQ g S (xN (fun μ' => FrR μ μ' ∧ TT μ' 84 T00 ∧ Rw μ' 86 r00 ∧ μ' 81 4 = 0))) za zs 0 0 (xA0 g)) S μ1 2 [some (vR g 81), some (vI i)] [] := by
    intro zn
    induction zn with
    | zero => intros; rename_i hz; exact absurd hz (Nat.not_lt_zero _)
    | succ zn ih =>
      intro k i μ1 hi hk h1 hx hn
      subst hi
      refine x_iload_n (pc' := 3) hC dX7_empty_2 rfl rfl ?_
      refine x_bipush (pc' := 5) hC dX7_empty_3 (by decide) rfl ?_
      refine x_icmp_ge (tgt := 21) (pc' := 8) hC dX7_empty_5 (by decide) rfl (by omega) (by omega) (fun c5 => ?_) (fun c5 => ?_)
      · have hx2 : ∀ j : Int, 0 ≤ j → j < 18 → μ1 84 j = 0 := fun j a b => hx j a (by omega)
        refine x_iconst (pc' := 22) hC dX7_empty_21 rfl ?_
        refine x_istore_n (pc' := 23) hC dX7_empty_22 (by decide) rfl rfl ?_
        exact rows 33 0 _ _ rfl (by omega) h1 hx2 (fun j a b => absurd b (by omega)) (by omega)
      · refine x_aload_n (pc' := 9) hC dX7_empty_8 rfl rfl ?_
        refine x_getR (pc' := 12) (b := 84) hC kf_X7_16 dX7_empty_9 (hM 0 _ rfl) rfl rfl ?_
        refine x_iload_n (pc' := 13) hC dX7_empty_12 rfl rfl ?_
        refine x_iconst (pc' := 14) hC dX7_empty_13 rfl ?_
        refine x_iast (pc' := 15) hC dX7_empty_14 (hM 3 _ rfl) (by omega) (by omega) rfl ?_
        refine x_iinc (pc' := 18) hC dX7_empty_15 rfl (by decide) rfl rfl ?_
        refine x_goto (tgt := 2) hC dX7_empty_18 (by decide) ?_
        exact ih (k + 1) _ _ (by omega) (by omega) (h1.uc (Or.inl rfl)) (fun j a b => by by_cases hj : j = k; (rw [hj, xU_at2]); (rw [xU_nj hj]; exact hx j a (by omega))) (by omega)
  refine x_iconst (pc' := 1) hC dX7_empty_0 rfl ?_
  refine x_istore_n (pc' := 2) hC dX7_empty_1 (by decide) rfl rfl ?_
  exact reads 19 0 _ _ rfl (by omega) FrR.rf (fun j a b => absurd b (by omega)) (by omega)
set_option maxRecDepth 100000 in
set_option maxHeartbeats 4000000 in
theorem m_firstOne {g : xG} {l : Launch} {S : List xS} {μ : xM} {kd sp gp m : Int} (hM : xPreM S) (h3 : μ 84 3 = m) (hm : 0 ≤ m ∧ m ≤ 6) : xCt g l yX7_firstOne cX7_firstOne 5 none 0 0 0 0 [vR g 81, vI kd, vI sp, vI gp] S μ S (xN (fun μ' => μ' = xU (xU (xU (xU μ 84 (4 + m) kd) 84 (11 + m) gp) 86 (18 + m) sp) 84 3 (m + 1))) := by
  refine x_enter (by decide) (Nat.le_of_ble_eq_true rfl) ?_
  intro zp ze zs zm za zb zh zc hC hz0
  refine x_aload_n (pc' := 1) hC dX7_firstOne_0 rfl rfl ?_
  refine x_getR (pc' := 4) (b := 84) hC kf_X7_16 dX7_firstOne_1 (hM 0 _ rfl) rfl rfl ?_
  refine x_iconst (pc' := 5) hC dX7_firstOne_4 rfl ?_
  refine x_iald (pc' := 6) hC dX7_firstOne_5 (hM 3 _ rfl) (by omega) (by decide) rfl ?_
  rw [h3]
  refine x_istore (pc' := 8) hC dX7_firstOne_6 (by decide) rfl rfl ?_
  refine x_aload_n (pc' := 9) hC dX7_firstOne_8 rfl rfl ?_
  refine x_getR (pc' := 12) (b := 84) hC kf_X7_16 dX7_firstOne_9 (hM 0 _ rfl) rfl rfl ?_
  refine x_iconst (pc' := 13) hC dX7_firstOne_12 rfl ?_
  refine x_iload (pc' := 15) hC dX7_firstOne_13 rfl rfl ?_
  refine x_iadd (pc' := 16) hC dX7_firstOne_15 rfl ?_
  refine x_iload_n (pc' := 17) hC dX7_firstOne_16 rfl rfl ?_
  refine x_iast (pc' := 18) hC dX7_firstOne_17 (hM 3 _ rfl) (by omega) (by omega) rfl ?_
  refine x_aload_n (pc' := 19) hC dX7_firstOne_18 rfl rfl ?_
  refine x_getR (pc' := 22) (b := 84) hC kf_X7_16 dX7_firstOne_19 (hM 0 _ rfl) rfl rfl ?_
  refine x_bipush (pc' := 24) hC dX7_firstOne_22 (by decide) rfl ?_
  refine x_iload (pc' := 26) hC dX7_firstOne_24 rfl rfl ?_
  refine x_iadd (pc' := 27) hC dX7_firstOne_26 rfl ?_
  refine x_iload_n (pc' := 28) hC dX7_firstOne_27 rfl rfl ?_
  refine x_iast (pc' := 29) hC dX7_firstOne_28 (hM 3 _ rfl) (by omega) (by omega) rfl ?_
  refine x_aload_n (pc' := 30) hC dX7_firstOne_29 rfl rfl ?_
  refine x_getR (pc' := 33) (b := 86) hC kf_X7_22 dX7_firstOne_30 (hM 0 _ rfl) rfl rfl ?_
  refine x_bipush (pc' := 35) hC dX7_firstOne_33 (by decide) rfl ?_
  refine x_iload (pc' := 37) hC dX7_firstOne_35 rfl rfl ?_
  refine x_iadd (pc' := 38) hC dX7_firstOne_37 rfl ?_
  refine x_iload_n (pc' := 39) hC dX7_firstOne_38 rfl rfl ?_
  refine x_iast (pc' := 40) hC dX7_firstOne_39 (hM 5 _ rfl) (by omega) (by omega) rfl ?_
  refine x_aload_n (pc' := 41) hC dX7_firstOne_40 rfl rfl ?_
  refine x_getR (pc' := 44) (b := 84) hC kf_X7_16 dX7_firstOne_41 (hM 0 _ rfl) rfl rfl ?_
  refine x_iconst (pc' := 45) hC dX7_firstOne_44 rfl ?_
  refine x_dup2 (pc' := 46) hC dX7_firstOne_45 rfl rfl rfl ?_
  refine x_iald (pc' := 47) hC dX7_firstOne_46 (hM 3 _ rfl) (by omega) (by decide) rfl ?_
  rw [xU_nk (by omega), xU_nj (by omega), xU_nj (by omega), h3]
  refine x_iconst (pc' := 48) hC dX7_firstOne_47 rfl ?_
  refine x_iadd (pc' := 49) hC dX7_firstOne_48 rfl ?_
  refine x_iast (pc' := 50) hC dX7_firstOne_49 (hM 3 _ rfl) (by omega) (by omega) rfl ?_
  exact x_vret hC dX7_firstOne_50 (xN.mk rfl)
set_option maxRecDepth 100000 in
set_option maxHeartbeats 4000000 in
theorem m_begin {g : xG} {l : Launch} {S : List xS} {μ : xM} {nt : Int} {tx T r : Int → Int} (hM : xPreM S) (hX : Txm μ nt tx) (hTT : TT μ 84 T) (hRr : Rw μ 86 r) (h3 : 0 ≤ T 3 ∧ T 3 ≤ 7) : xCt g l yX7_begin cX7_begin 2 none 0 0 0 0 [vR g 81] S μ S (xN (fun μ' => FrI 81 92 μ μ' ∧ RM μ' T r nt tx [] [] [])) := by
  refine x_enter (by decide) (Nat.le_of_ble_eq_true rfl) ?_
  intro zp ze zs zm za zb zh zc hC hz0
  have rows : ∀ (zn : Nat) (k : Nat) (i : Int) (μ1 : xM) (hi : i = k) (hk : k ≤ 32) (h1 : ∀ (c : Nat) (j : Int), c ≠ 83 → c ≠ 85 → μ1 c j = μ c j) (hz : ∀ j : Int, 0 ≤ j → j < 18 → μ1 83 j = μ 84 j) (hy : ∀ j : Int, 0 ≤ j → j < k → μ1 85 j = μ 86 j), 32 - k < zn → xX g 2 zp l ze { frames := 0, cells := 0, slots := 0, locals := 0 } zs zm za zb zh zc 0 0 (MQ zb (xQ g S (xN (fun μ' => FrI 81 92 μ μ' ∧ RM μ' T r nt tx [] [] []))) za zs 0 0 (xA0 g)) S μ1 28 [some (vR g 81), some (vI i)] [] := by
    intro zn
    induction zn with
    | zero => intros; rename_i hz; exact absurd hz (Nat.not_lt_zero _)
    | succ zn ih =>
      intro k i μ1 hi hk h1 hz hy hn
      subst hi
      refine x_iload_n (pc' := 29) hC dX7_begin_28 rfl rfl ?_
      refine x_bipush (pc' := 31) hC dX7_begin_29 (by decide) rfl ?_
      refine x_icmp_ge (tgt := 52) (pc' := 34) hC dX7_begin_31 (by decide) rfl (by omega) (by omega) (fun c31 => ?_) (fun c31 => ?_)
      · refine x_aload_n (pc' := 53) hC dX7_begin_52 rfl rfl ?_
        refine x_iconst (pc' := 54) hC dX7_begin_53 rfl ?_
        refine x_putI (j' := 13) (pc' := 57) hC kf_X7_98 dX7_begin_54 (hM 0 _ rfl) rfl rfl rfl rfl rfl ?_
        refine x_aload_n (pc' := 58) hC dX7_begin_57 rfl rfl ?_
        refine x_iconst (pc' := 59) hC dX7_begin_58 rfl ?_
        refine x_putI (j' := 9) (pc' := 62) hC kf_X7_101 dX7_begin_59 (hM 0 _ rfl) rfl rfl rfl rfl rfl ?_
        refine x_aload_n (pc' := 63) hC dX7_begin_62 rfl rfl ?_
        refine x_iconst (pc' := 64) hC dX7_begin_63 rfl ?_
        refine x_putI (j' := 11) (pc' := 67) hC kf_X7_104 dX7_begin_64 (hM 0 _ rfl) rfl rfl rfl rfl rfl ?_
        exact x_vret hC dX7_begin_67 (xN.mk (by
      obtain ⟨⟨a1, a2, a3, a4⟩, a5⟩ := hTT
      obtain ⟨b1, b2, b3, b4⟩ := hX
      refine ⟨fun c j hc => ?_, ⟨?_, b2, b3, fun j x y => ?_⟩, ⟨⟨?_, ?_, ?_, ?_⟩, fun m x y => ?_⟩, fun j x y => ?_, ⟨?_, by simp, fun i u hu => by simp at hu⟩, ⟨?_, by simp, fun i u hu => by simp at hu⟩, ⟨?_, by simp, fun i q hq => by simp at hq⟩⟩
      · rw [xU_nk (by omega), xU_nk (by omega), xU_nk (by omega), h1 _ _ (by omega) (by omega)]
      · rw [xU_nj (by omega), xU_nj (by omega), xU_nj (by omega), h1 _ _ (by omega) (by omega)]; exact b1
      · rw [xU_nk (by omega), xU_nk (by omega), xU_nk (by omega), h1 _ _ (by omega) (by omega)]; exact b4 j x y
      · rw [xU_nk (by omega), xU_nk (by omega), xU_nk (by omega), hz _ (by omega) (by omega)]; exact a1
      · rw [xU_nk (by omega), xU_nk (by omega), xU_nk (by omega), hz _ (by omega) (by omega)]; exact a2
      · rw [xU_nk (by omega), xU_nk (by omega), xU_nk (by omega), hz _ (by omega) (by omega)]; exact a3
      · rw [xU_nk (by omega), xU_nk (by omega), xU_nk (by omega), hz _ (by omega) (by omega)]; exact a4
      · have z := a5 m x y
        refine ⟨?_, ?_⟩
        · rw [xU_nk (by omega), xU_nk (by omega), xU_nk (by omega), hz _ (by omega) (by omega)]; exact z.1
        · rw [xU_nk (by omega), xU_nk (by omega), xU_nk (by omega), hz _ (by omega) (by omega)]; exact z.2
      · rw [xU_nk (by omega), xU_nk (by omega), xU_nk (by omega), hy _ x (by omega)]; exact hRr j x y
      · rw [xU_nj (by omega), xU_at2]; rfl
      · rw [xU_at2]; rfl
      · rw [xU_nj (by omega), xU_nj (by omega), xU_at2]; rfl))
      · refine x_aload_n (pc' := 35) hC dX7_begin_34 rfl rfl ?_
        refine x_getR (pc' := 38) (b := 85) hC kf_X7_19 dX7_begin_35 (hM 0 _ rfl) rfl rfl ?_
        refine x_iload_n (pc' := 39) hC dX7_begin_38 rfl rfl ?_
        refine x_aload_n (pc' := 40) hC dX7_begin_39 rfl rfl ?_
        refine x_getR (pc' := 43) (b := 86) hC kf_X7_22 dX7_begin_40 (hM 0 _ rfl) rfl rfl ?_
        refine x_iload_n (pc' := 44) hC dX7_begin_43 rfl rfl ?_
        refine x_iald (pc' := 45) hC dX7_begin_44 (hM 5 _ rfl) (by omega) (by decide) rfl ?_
        rw [h1 86 k (by omega) (by omega)]
        refine x_iast (pc' := 46) hC dX7_begin_45 (hM 4 _ rfl) (by omega) (by omega) rfl ?_
        refine x_iinc (pc' := 49) hC dX7_begin_46 rfl (by decide) rfl rfl ?_
        refine x_goto (tgt := 28) hC dX7_begin_49 (by decide) ?_
        exact ih (k + 1) _ _ (by omega) (by omega) (fun c j a b => by rw [xU_nk b]; exact h1 c j a b) (fun j a b => by rw [xU_nk (by omega)]; exact hz j a b) (fun j a b => by by_cases hj : j = k; (rw [hj, xU_at2]); (rw [xU_nj hj]; exact hy j a (by omega))) (by omega)
  have reads : ∀ (zn : Nat) (k : Nat) (i : Int) (μ1 : xM) (hi : i = k) (hk : k ≤ 18) (h1 : ∀ (c : Nat) (j : Int), c ≠ 83 → c ≠ 85 → μ1 c j = μ c j) (hx : ∀ j : Int, 0 ≤ j → j < k → μ1 83 j = μ 84 j), 18 - k < zn → xX g 2 zp l ze { frames := 0, cells := 0, slots := 0, locals := 0 } zs zm za zb zh zc 0 0 (MQ zb (xQ g S (xN (fun μ' => FrI 81 92 μ μ' ∧ RM μ' T r nt tx [] [] []))) za zs 0 0 (xA0 g)) S μ1 2 [some (vR g 81), some (vI i)] [] := by
    intro zn
    induction zn with
    | zero => intros; rename_i hz; exact absurd hz (Nat.not_lt_zero _)
    | succ zn ih =>
      intro k i μ1 hi hk h1 hx hn
      subst hi
      refine x_iload_n (pc' := 3) hC dX7_begin_2 rfl rfl ?_
      refine x_bipush (pc' := 5) hC dX7_begin_3 (by decide) rfl ?_
      refine x_icmp_ge (tgt := 26) (pc' := 8) hC dX7_begin_5 (by decide) rfl (by omega) (by omega) (fun c5 => ?_) (fun c5 => ?_)
      · have hx2 : ∀ j : Int, 0 ≤ j → j < 18 → μ1 83 j = μ 84 j := fun j a b => hx j a (by omega)
        refine x_iconst (pc' := 27) hC dX7_begin_26 rfl ?_
        refine x_istore_n (pc' := 28) hC dX7_begin_27 (by decide) rfl rfl ?_
        exact rows 33 0 _ _ rfl (by omega) h1 hx2 (fun j a b => absurd b (by omega)) (by omega)
      · refine x_aload_n (pc' := 9) hC dX7_begin_8 rfl rfl ?_
        refine x_getR (pc' := 12) (b := 83) hC kf_X7_13 dX7_begin_9 (hM 0 _ rfl) rfl rfl ?_
        refine x_iload_n (pc' := 13) hC dX7_begin_12 rfl rfl ?_
        refine x_aload_n (pc' := 14) hC dX7_begin_13 rfl rfl ?_
        refine x_getR (pc' := 17) (b := 84) hC kf_X7_16 dX7_begin_14 (hM 0 _ rfl) rfl rfl ?_
        refine x_iload_n (pc' := 18) hC dX7_begin_17 rfl rfl ?_
        refine x_iald (pc' := 19) hC dX7_begin_18 (hM 3 _ rfl) (by omega) (by decide) rfl ?_
        rw [h1 84 k (by omega) (by omega)]
        refine x_iast (pc' := 20) hC dX7_begin_19 (hM 2 _ rfl) (by omega) (by omega) rfl ?_
        refine x_iinc (pc' := 23) hC dX7_begin_20 rfl (by decide) rfl rfl ?_
        refine x_goto (tgt := 2) hC dX7_begin_23 (by decide) ?_
        exact ih (k + 1) _ _ (by omega) (by omega) (fun c j a b => by rw [xU_nk a]; exact h1 c j a b) (fun j a b => by by_cases hj : j = k; (rw [hj, xU_at2]); (rw [xU_nj hj]; exact hx j a (by omega))) (by omega)
  refine x_iconst (pc' := 1) hC dX7_begin_0 rfl ?_
  refine x_istore_n (pc' := 2) hC dX7_begin_1 (by decide) rfl rfl ?_
  exact reads 19 0 _ _ rfl (by omega) (fun _ _ _ _ => rfl) (fun j a b => absurd b (by omega)) (by omega)
set_option maxRecDepth 100000 in
set_option maxHeartbeats 4000000 in
theorem m_readAll {g : xG} {l : Launch} {S : List xS} {μ : xM} {nt : Int} {tx : Int → Int} (hM : xPreM S) (hX : Txm μ nt tx) : xCt g l yX7_readAll cX7_readAll 2 (some .int) 4 92 0 0 [vR g 81] S μ S (xI (fun a μ' => a = (prsA nt tx).1 ∧ FrR μ μ' ∧ (a = -4 → TT μ' 84 (prsA nt tx).2.1 ∧ Rw μ' 86 (prsA nt tx).2.2) ∧ -4 ≤ a ∧ a ≤ 200)) := by
  refine x_enter (by decide) (Nat.le_of_ble_eq_true rfl) ?_
  intro zp ze zs zm za zb zh zc hC hz0
  have n0 := hX.2.1
  have n1 := hX.2.2.1
  have loop : ∀ (zn : Nat) (k : Nat) (p os : Int) (T1 r1 : Int → Int) (μ1 : xM) (hp : 0 ≤ p ∧ p ≤ nt) (hfu : nt ≤ p + k) (hs : μ1 81 14 = p) (hos : os = 0 ∨ os = 1) (hQ : PT T1 r1 os) (hTT : TT μ1 84 T1) (hRr : Rw μ1 86 r1) (ho : μ1 81 4 = 1 - os) (hF : FrR μ μ1) (he : prs nt (dch nt tx) k p os T1 r1 = prsA nt tx), k < zn → xX g 2 zp l ze { frames := 4, cells := 0, slots := 0, locals := 92 } zs zm za zb zh zc 0 0 (MQ zb (xQ g S (xI (fun a μ' => a = (prsA nt tx).1 ∧ FrR μ μ' ∧ (a = -4 → TT μ' 84 (prsA nt tx).2.1 ∧ Rw μ' 86 (prsA nt tx).2.2) ∧ -4 ≤ a ∧ a ≤ 200))) za zs 0 0 (xA0 g)) S μ1 9 [some (vR g 81), none] [] := by
    intro zn
    induction zn with
    | zero => intros; rename_i hz; exact absurd hz (Nat.not_lt_zero _)
    | succ zn ih =>
      intro k p os T1 r1 μ1 hp hfu hs hos hQ hTT hRr ho hF he hn
      refine x_aload_n (pc' := 10) hC dX7_readAll_9 rfl rfl ?_
      refine x_getI (j' := 14) (pc' := 13) hC kf_X7_66 dX7_readAll_10 (hM 0 _ rfl) rfl rfl rfl ?_
      rw [hs]
      refine x_aload_n (pc' := 14) hC dX7_readAll_13 rfl rfl ?_
      refine x_getI (j' := 0) (pc' := 17) hC kf_X7_62 dX7_readAll_14 (hM 0 _ rfl) rfl rfl rfl ?_
      rw [(hX.R hF).1]
      refine x_icmp_ge (tgt := 37) (pc' := 20) hC dX7_readAll_17 (by decide) rfl (by omega) (by omega) (fun c17 => ?_) (fun c17 => ?_)
      · refine x_bipush (pc' := 39) hC dX7_readAll_37 (by decide) rfl ?_
        exact x_iret hC dX7_readAll_39 (xI.mk (by rw [← he, prs_end (by omega)]; exact ⟨rfl, hF, fun _ => ⟨hTT, hRr⟩, by omega, by omega⟩))
      · obtain ⟨k1, rfl⟩ : ∃ k1 : Nat, k = k1 + 1 := ⟨k - 1, by omega⟩
        refine x_aload_n (pc' := 21) hC dX7_readAll_20 rfl rfl ?_
        refine x_getI (j' := 14) (pc' := 24) hC kf_X7_66 dX7_readAll_21 (hM 0 _ rfl) rfl rfl rfl ?_
        rw [hs]
        refine x_istore_n (pc' := 25) hC dX7_readAll_24 (by decide) rfl rfl ?_
        refine x_aload_n (pc' := 26) hC dX7_readAll_25 rfl rfl ?_
        refine x_callV (pc' := 29) (n := 0) hC (m_item hM (hX.R hF) hQ hTT hRr hs (by omega) ho hos) ky_X7_item kv_X7_item kl_X7_91 dX7_readAll_26 (hM 0 _ rfl) rfl rfl rfl rfl ⟨Nat.le_of_ble_eq_true rfl, Nat.le_of_ble_eq_true rfl⟩ (Nat.le_of_ble_eq_true rfl) ⟨Nat.le_refl _, Nat.le_refl _⟩ (Or.inl rfl) rfl (x_kv (fun μ26 h26 => ?_))
        refine x_ifb_ne (tgt := 34) (pc' := 32) hC dX7_readAll_29 (by decide) rfl (fun c29 => ?_) (fun c29 => ?_)
        · refine x_goto (tgt := 9) hC dX7_readAll_34 (by decide) ?_
          refine x_vs (vs' := [some (vR g 81), none]) (by intro i v; match i with | 0 => exact id | 1 => (intro h; cases h) | i + 2 => (intro h; cases h)) ?_
          obtain ⟨y1, y2, y3, y4, y5, y6⟩ := h26.2 c29
          exact ih k1 (rdN (dch nt tx) 3 (p + 1) 0).1 _ _ _ μ26 (by omega) (by omega) y3 (tkS_01 hos) (PT_tk hQ c29.2) y1 y2 y6 (hF.tr h26.1) (by rw [← he, prs_go (by omega) c29]) (by omega)
        · refine x_iload_n (pc' := 33) hC dX7_readAll_32 rfl rfl ?_
          exact x_iret hC dX7_readAll_33 (xI.mk (by rw [← he, prs_bad (by omega) c29]; exact ⟨rfl, hF.tr h26.1, fun z => absurd z (by omega), by omega, by omega⟩))
  refine x_aload_n (pc' := 1) hC dX7_readAll_0 rfl rfl ?_
  refine x_callV (pc' := 4) (n := 0) hC (m_empty hM) ky_X7_empty kv_X7_empty kl_X7_40 dX7_readAll_1 (hM 0 _ rfl) rfl rfl rfl rfl ⟨Nat.le_of_ble_eq_true rfl, Nat.le_of_ble_eq_true rfl⟩ (Nat.le_of_ble_eq_true rfl) ⟨Nat.le_refl _, Nat.le_refl _⟩ (Or.inl rfl) rfl (x_kn (fun μ1 h1 => ?_))
  refine x_aload_n (pc' := 5) hC dX7_readAll_4 rfl rfl ?_
  refine x_iconst (pc' := 6) hC dX7_readAll_5 rfl ?_
  refine x_putI (j' := 14) (pc' := 9) hC kf_X7_66 dX7_readAll_6 (hM 0 _ rfl) rfl rfl rfl rfl rfl ?_
  exact loop (nt.toNat + 1) nt.toNat 0 1 T00 r00 _ (by omega) (by omega) xU_at2 (Or.inr rfl) PT_00 (h1.2.1.off (by omega)) (h1.2.2.1.off (by omega)) (by rw [xU_nj (by omega), h1.2.2.2]; rfl) (h1.1.us (Or.inr rfl)) rfl (by omega)
set_option maxRecDepth 100000 in
set_option maxHeartbeats 4000000 in
theorem q_fault {g : xG} {l : Launch} {S : List xS} {μ : xM} {T r : Int → Int} {nt : Int} {tx : Int → Int} {un kp : List (Int → Int)} {sl : List (Int × Int)} (hM : xPreM S) (hA : RM μ T r nt tx un kp sl) (hF : WF T r un kp) : xCt g l yX7_fault cX7_fault 1 (some .int) 5 113 0 0 [vR g 81] S μ S (xI (fun a μ' => a = aFault nt tx ∧ RM μ' T r nt tx un kp sl ∧ FrI 81 92 μ μ')) := by
  refine x_enter (by decide) (Nat.le_of_ble_eq_true rfl) ?_
  intro zp ze zs zm za zb zh zc hC hz0
  refine x_aload_n (pc' := 1) hC dX7_fault_0 rfl rfl ?_
  refine x_callV (pc' := 4) (n := 0) hC (m_readAll hM hA.1) ky_X7_readAll kv_X7_readAll kl_X7_94 dX7_fault_1 (hM 0 _ rfl) rfl rfl rfl rfl ⟨Nat.le_of_ble_eq_true rfl, Nat.le_of_ble_eq_true rfl⟩ (Nat.le_of_ble_eq_true rfl) ⟨Nat.le_refl _, Nat.le_refl _⟩ (Or.inl rfl) rfl (x_ki (fun a1 μ1 h1 => ?_))
  exact x_iret hC dX7_fault_4 (xI.mk ⟨h1.1, hA.R h1.2.1, h1.2.1.I⟩)
set_option maxRecDepth 100000 in
set_option maxHeartbeats 4000000 in
theorem q_lay {g : xG} {l : Launch} {S : List xS} {μ : xM} {T r : Int → Int} {nt : Int} {tx : Int → Int} {un kp : List (Int → Int)} {sl : List (Int × Int)} (hM : xPreM S) (hA : RM μ T r nt tx un kp sl) (hF : WF T r un kp) : xCt g l yX7_lay cX7_lay 1 (some .int) 5 113 0 0 [vR g 81] S μ S (xI (fun a μ' => a = aLay nt tx ∧ (okLay nt tx → RM μ' (prsA nt tx).2.1 (prsA nt tx).2.2 nt tx [] [] []) ∧ (¬ okLay nt tx → RM μ' T r nt tx un kp sl) ∧ FrI 81 92 μ μ')) := by
  refine x_enter (by decide) (Nat.le_of_ble_eq_true rfl) ?_
  intro zp ze zs zm za zb zh zc hC hz0
  obtain ⟨os, hPT⟩ := prsA_PT nt tx
  have b3 := hPT.2.1
  refine x_aload_n (pc' := 1) hC dX7_lay_0 rfl rfl ?_
  refine x_callV (pc' := 4) (n := 0) hC (m_readAll hM hA.1) ky_X7_readAll kv_X7_readAll kl_X7_94 dX7_lay_1 (hM 0 _ rfl) rfl rfl rfl rfl ⟨Nat.le_of_ble_eq_true rfl, Nat.le_of_ble_eq_true rfl⟩ (Nat.le_of_ble_eq_true rfl) ⟨Nat.le_refl _, Nat.le_refl _⟩ (Or.inl rfl) rfl (x_ki (fun a1 μ1 h1 => ?_))
  refine x_bipush (pc' := 6) hC dX7_lay_4 (by decide) rfl ?_
  refine x_icmp_ne (tgt := 18) (pc' := 9) hC dX7_lay_6 (by decide) rfl (by have := h1.2.2.2; omega) (by omega) (fun c6 => ?_) (fun c6 => ?_)
  · have b1 : ¬ okLay nt tx := fun z => c6 (h1.1.trans z.1)
    refine x_bipush (pc' := 20) hC dX7_lay_18 (by decide) rfl ?_
    exact x_iret hC dX7_lay_20 (xI.mk ⟨by unfold aLay; rw [if_neg b1], fun z => absurd z b1, fun _ => hA.R h1.2.1, h1.2.1.I⟩)
  · refine x_aload_n (pc' := 10) hC dX7_lay_9 rfl rfl ?_
    refine x_getR (pc' := 13) (b := 84) hC kf_X7_16 dX7_lay_10 (hM 0 _ rfl) rfl rfl ?_
    refine x_iconst (pc' := 14) hC dX7_lay_13 rfl ?_
    refine x_iald (pc' := 15) hC dX7_lay_14 (hM 3 _ rfl) (by omega) (by decide) rfl ?_
    have b2 := h1.2.2.1 (by omega)
    rw [b2.1.1.2.2.2]
    refine x_if_ne (tgt := 21) (pc' := 18) hC dX7_lay_15 (by decide) rfl (by omega) (fun c15 => ?_) (fun c15 => ?_)
    · have b1 : okLay nt tx := ⟨by rw [← h1.1]; omega, c15⟩
      refine x_aload_n (pc' := 22) hC dX7_lay_21 rfl rfl ?_
      refine x_callV (pc' := 25) (n := 0) hC (m_begin hM (hA.1.R h1.2.1) b2.1 b2.2 (by omega)) ky_X7_begin kv_X7_begin kl_X7_47 dX7_lay_22 (hM 0 _ rfl) rfl rfl rfl rfl ⟨Nat.le_of_ble_eq_true rfl, Nat.le_of_ble_eq_true rfl⟩ (Nat.le_of_ble_eq_true rfl) ⟨Nat.le_refl _, Nat.le_refl _⟩ (Or.inl rfl) rfl (x_kn (fun μ22 h22 => ?_))
      refine x_aload_n (pc' := 26) hC dX7_lay_25 rfl rfl ?_
      refine x_getR (pc' := 29) (b := 83) hC kf_X7_13 dX7_lay_26 (hM 0 _ rfl) rfl rfl ?_
      refine x_iconst (pc' := 30) hC dX7_lay_29 rfl ?_
      refine x_iald (pc' := 31) hC dX7_lay_30 (hM 2 _ rfl) (by omega) (by decide) rfl ?_
      rw [h22.2.2.1.1.2.2.2]
      exact x_iret hC dX7_lay_31 (xI.mk ⟨by unfold aLay; rw [if_pos b1], fun _ => h22.2, fun z => absurd b1 z, h1.2.1.I.tr h22.1⟩)
    · have b1 : ¬ okLay nt tx := fun z => z.2 (by omega)
      refine x_bipush (pc' := 20) hC dX7_lay_18 (by decide) rfl ?_
      exact x_iret hC dX7_lay_20 (xI.mk ⟨by unfold aLay; rw [if_neg b1], fun z => absurd z b1, fun _ => hA.R h1.2.1, h1.2.1.I⟩)
