set_option maxRecDepth 100000 in
set_option maxHeartbeats 4000000 in
theorem c_textAdd {g : xG} {l : Launch} {S : List xS} {μ : xM} {nt c : Int} {tx : Int → Int} (hP : xPre S) (hA : Tx μ nt tx) (hc : 32 ≤ c ∧ c ≤ 126) : xCt g l yX5_add cX5_add 2 (some .boolean) 0 0 0 0 [vR g 1, vI c] S μ S (xI (fun a μ' => a = (if nt < 200 then 1 else 0) ∧ FrI 1 3 μ μ' ∧ (nt < 200 → Tx μ' (nt + 1) (up tx nt c)) ∧ (¬ nt < 200 → μ' = μ))) := by
  refine x_enter (by decide) (Nat.le_of_ble_eq_true rfl) ?_
  intro zp ze zs zm za zb zh zc hC hz0
  obtain ⟨e1, e2, e3, e4⟩ := hA
  refine x_aload_n (pc' := 1) hC dX5_add_0 rfl rfl ?_
  refine x_getI (j' := 1) (pc' := 4) hC kf_X5_15 dX5_add_1 (hP 1 _ rfl) rfl rfl rfl ?_
  rw [e1]
  refine x_aload_n (pc' := 5) hC dX5_add_4 rfl rfl ?_
  refine x_getR (pc' := 8) (b := 2) hC kf_X5_9 dX5_add_5 (hP 1 _ rfl) rfl rfl ?_
  refine x_alenC (n' := 200) (pc' := 9) hC dX5_add_8 (hP 2 _ rfl) rfl rfl ?_
  refine x_icmp_lt (tgt := 14) (pc' := 12) hC dX5_add_9 (by decide) rfl (by omega) (by omega) (fun c9 => ?_) (fun c9 => ?_)
  · refine x_aload_n (pc' := 15) hC dX5_add_14 rfl rfl ?_
    refine x_getR (pc' := 18) (b := 2) hC kf_X5_9 dX5_add_15 (hP 1 _ rfl) rfl rfl ?_
    refine x_aload_n (pc' := 19) hC dX5_add_18 rfl rfl ?_
    refine x_getI (j' := 1) (pc' := 22) hC kf_X5_15 dX5_add_19 (hP 1 _ rfl) rfl rfl rfl ?_
    rw [e1]
    refine x_iload_n (pc' := 23) hC dX5_add_22 rfl rfl ?_
    refine x_cast (pc' := 24) hC dX5_add_23 (hP 2 _ rfl) (by omega) (by decide) (by omega) rfl ?_
    refine x_aload_n (pc' := 25) hC dX5_add_24 rfl rfl ?_
    refine x_dup (pc' := 26) hC dX5_add_25 rfl rfl ?_
    refine x_getI (j' := 1) (pc' := 29) hC kf_X5_15 dX5_add_26 (hP 1 _ rfl) rfl rfl rfl ?_
    rw [xU_nk (by omega), e1]
    refine x_iconst (pc' := 30) hC dX5_add_29 rfl ?_
    refine x_iadd (pc' := 31) hC dX5_add_30 rfl ?_
    refine x_putI (j' := 1) (pc' := 34) hC kf_X5_15 dX5_add_31 (hP 1 _ rfl) rfl rfl rfl rfl rfl ?_
    refine x_iconst (pc' := 35) hC dX5_add_34 rfl ?_
    exact x_zret hC dX5_add_35 (by first | exact Or.inl rfl | exact Or.inr rfl | omega) (xI.mk (by first
      | (exact ⟨(if_neg c9).symm, FrI.rf, fun z => absurd z c9, fun _ => rfl⟩)
      | (refine ⟨(if_pos c9).symm, (FrI.rf.u (by omega)).u (by omega), fun _ => ⟨xU_at2, by omega, by omega, fun j j0 j1 => ?_⟩, fun z => absurd c9 z⟩
         by_cases hj : j = nt
         · subst hj; rw [xU_nk (by omega), xU_at2, up_at]; exact ⟨rfl, hc⟩
         · rw [xU_nk (by omega), xU_nj hj, up_ne hj]; exact e4 j j0 (by omega))))
  · refine x_iconst (pc' := 13) hC dX5_add_12 rfl ?_
    exact x_zret hC dX5_add_13 (by first | exact Or.inl rfl | exact Or.inr rfl | omega) (xI.mk (by first
      | (exact ⟨(if_neg c9).symm, FrI.rf, fun z => absurd z c9, fun _ => rfl⟩)
      | (refine ⟨(if_pos c9).symm, (FrI.rf.u (by omega)).u (by omega), fun _ => ⟨xU_at2, by omega, by omega, fun j j0 j1 => ?_⟩, fun z => absurd c9 z⟩
         by_cases hj : j = nt
         · subst hj; rw [xU_nk (by omega), xU_at2, up_at]; exact ⟨rfl, hc⟩
         · rw [xU_nk (by omega), xU_nj hj, up_ne hj]; exact e4 j j0 (by omega))))
set_option maxRecDepth 100000 in
set_option maxHeartbeats 4000000 in
theorem c_seenAdd {g : xG} {l : Launch} {S : List xS} {μ : xM} {a b : Int} {T : Int → Int} {sl : List (Int × Int)} (hP : xPre S) (hA : Sg μ T sl) (ha : 0 ≤ a ∧ a < T 3) (hb : 0 ≤ b ∧ b < T 0) : xCt g l yX3_add cX3_add 3 (some .boolean) 0 0 0 0 [vR g 78, vI a, vI b] S μ S (xI (fun r μ' => r = (if sl.length < 6 then 1 else 0) ∧ FrI 78 81 μ μ' ∧ (sl.length < 6 → Sg μ' T (sl ++ [(a, b)])) ∧ (¬ sl.length < 6 → μ' = μ))) := by
  refine x_enter (by decide) (Nat.le_of_ble_eq_true rfl) ?_
  intro zp ze zs zm za zb zh zc hC hz0
  have hA0 := hA
  obtain ⟨e1, e2, e3⟩ := hA
  refine x_aload_n (pc' := 1) hC dX3_add_0 rfl rfl ?_
  refine x_getI (j' := 2) (pc' := 4) hC kf_X3_18 dX3_add_1 (hP 78 _ rfl) rfl rfl rfl ?_
  rw [e1]
  refine x_bipush (pc' := 6) hC dX3_add_4 (by decide) rfl ?_
  refine x_icmp_lt (tgt := 11) (pc' := 9) hC dX3_add_6 (by decide) rfl (by omega) (by omega) (fun c6 => ?_) (fun c6 => ?_)
  · refine x_aload_n (pc' := 12) hC dX3_add_11 rfl rfl ?_
    refine x_getR (pc' := 15) (b := 79) hC kf_X3_9 dX3_add_12 (hP 78 _ rfl) rfl rfl ?_
    refine x_aload_n (pc' := 16) hC dX3_add_15 rfl rfl ?_
    refine x_getI (j' := 2) (pc' := 19) hC kf_X3_18 dX3_add_16 (hP 78 _ rfl) rfl rfl rfl ?_
    rw [e1]
    refine x_iload_n (pc' := 20) hC dX3_add_19 rfl rfl ?_
    refine x_iast (pc' := 21) hC dX3_add_20 (hP 79 _ rfl) (by omega) (by omega) rfl ?_
    refine x_aload_n (pc' := 22) hC dX3_add_21 rfl rfl ?_
    refine x_getR (pc' := 25) (b := 80) hC kf_X3_15 dX3_add_22 (hP 78 _ rfl) rfl rfl ?_
    refine x_aload_n (pc' := 26) hC dX3_add_25 rfl rfl ?_
    refine x_getI (j' := 2) (pc' := 29) hC kf_X3_18 dX3_add_26 (hP 78 _ rfl) rfl rfl rfl ?_
    rw [xU_nk (by omega), e1]
    refine x_iload_n (pc' := 30) hC dX3_add_29 rfl rfl ?_
    refine x_iast (pc' := 31) hC dX3_add_30 (hP 80 _ rfl) (by omega) (by omega) rfl ?_
    refine x_aload_n (pc' := 32) hC dX3_add_31 rfl rfl ?_
    refine x_dup (pc' := 33) hC dX3_add_32 rfl rfl ?_
    refine x_getI (j' := 2) (pc' := 36) hC kf_X3_18 dX3_add_33 (hP 78 _ rfl) rfl rfl rfl ?_
    rw [xU_nk (by omega), xU_nk (by omega), e1]
    refine x_iconst (pc' := 37) hC dX3_add_36 rfl ?_
    refine x_iadd (pc' := 38) hC dX3_add_37 rfl ?_
    refine x_putI (j' := 2) (pc' := 41) hC kf_X3_18 dX3_add_38 (hP 78 _ rfl) rfl rfl rfl rfl rfl ?_
    refine x_iconst (pc' := 42) hC dX3_add_41 rfl ?_
    exact x_zret hC dX3_add_42 (by first | exact Or.inl rfl | exact Or.inr rfl | omega) (xI.mk (by first
      | (exact ⟨(if_neg (by omega)).symm, FrI.rf, fun z => absurd z (by omega), fun _ => rfl⟩)
      | (exact ⟨(if_pos (by omega)).symm, ((FrI.rf.u (by omega)).u (by omega)).u (by omega), fun z => hA0.add z ha hb, fun z => absurd z (by omega)⟩)))
  · refine x_iconst (pc' := 10) hC dX3_add_9 rfl ?_
    exact x_zret hC dX3_add_10 (by first | exact Or.inl rfl | exact Or.inr rfl | omega) (xI.mk (by first
      | (exact ⟨(if_neg (by omega)).symm, FrI.rf, fun z => absurd z (by omega), fun _ => rfl⟩)
      | (exact ⟨(if_pos (by omega)).symm, ((FrI.rf.u (by omega)).u (by omega)).u (by omega), fun z => hA0.add z ha hb, fun z => absurd z (by omega)⟩)))
set_option maxRecDepth 100000 in
set_option maxHeartbeats 4000000 in
theorem c_allHold {g : xG} {l : Launch} {S : List xS} {μ : xM} {b pl : Nat} {T r : Int → Int} {sl : List (Int × Int)} (hP : xPre S) (hb : xStd S b pl) (hT : WT T) (hR : WR T r) (hA : Sg μ T sl) (hs : St μ b r) : xCt g l yX3_allHoldIn cX3_allHoldIn 3 (some .boolean) 0 0 0 0 [vR g 78, vR g b] S μ S (xI (fun a μ' => a = (if ∀ q ∈ sl, r (18 + q.1) = q.2 then 1 else 0) ∧ μ' = μ)) := by
  refine x_enter (by decide) (Nat.le_of_ble_eq_true rfl) ?_
  intro zp ze zs zm za zb zh zc hC hz0
  have t0 := hT.1
  have t1 := hT.2.1
  have t2 := hT.2.2.1
  have t3 := hT.2.2.2.1
  obtain ⟨e1, e2, e3⟩ := hA
  have loop : ∀ (zn : Nat) (k : Nat) (i : Int) (hi : i = k) (hk : k ≤ sl.length) (h1 : ∀ (j : Nat) (q : Int × Int), j < k → sl[j]? = some q → r (18 + q.1) = q.2), sl.length - k < zn → xX g 3 zp l ze { frames := 0, cells := 0, slots := 0, locals := 0 } zs zm za zb zh zc 0 0 (MQ zb (xQ g S (xI (fun a μ' => a = (if ∀ q ∈ sl, r (18 + q.1) = q.2 then 1 else 0) ∧ μ' = μ))) za zs 0 0 (xA0 g)) S μ 2 [some (vR g 78), some (vR g b), some (vI i)] [] := by
    intro zn
    induction zn with
    | zero => intros; rename_i hz; exact absurd hz (Nat.not_lt_zero _)
    | succ zn ih =>
      intro k i hi hk h1 hn
      subst hi
      refine x_iload_n (pc' := 3) hC dX3_allHoldIn_2 rfl rfl ?_
      refine x_aload_n (pc' := 4) hC dX3_allHoldIn_3 rfl rfl ?_
      refine x_getI (j' := 2) (pc' := 7) hC kf_X3_18 dX3_allHoldIn_4 (hP 78 _ rfl) rfl rfl rfl ?_
      rw [e1]
      refine x_icmp_ge (tgt := 38) (pc' := 10) hC dX3_allHoldIn_7 (by decide) rfl (by omega) (by omega) (fun c7 => ?_) (fun c7 => ?_)
      · refine x_iconst (pc' := 39) hC dX3_allHoldIn_38 rfl ?_
        exact x_zret hC dX3_allHoldIn_39 (by first | exact Or.inl rfl | exact Or.inr rfl | omega) (xI.mk (by first
      | (refine ⟨(if_pos (fun q hq => ?_)).symm, rfl⟩
         obtain ⟨j, hj⟩ := List.getElem?_of_mem hq
         exact h1 j q (by have := (List.getElem?_eq_some_iff.mp hj).1; omega) hj)
      | (exact ⟨(if_neg (fun z => c27 (z q (List.mem_of_getElem? hq)))).symm, rfl⟩)))
      · obtain ⟨q, hq⟩ : ∃ q, sl[k]? = some q := ⟨sl[k]'(by omega), List.getElem?_eq_getElem (by omega)⟩
        obtain ⟨f1, f2, f3, f4, f5, f6⟩ := e3 k q hq
        have f7 := hR.2.1 q.1 (by omega) (by omega)
        refine x_aload_n (pc' := 11) hC dX3_allHoldIn_10 rfl rfl ?_
        refine x_getR (pc' := 14) (b := b + 2) hC kf_X3_22 dX3_allHoldIn_11 hb.1 rfl rfl ?_
        refine x_aload_n (pc' := 15) hC dX3_allHoldIn_14 rfl rfl ?_
        refine x_getR (pc' := 18) (b := 79) hC kf_X3_9 dX3_allHoldIn_15 (hP 78 _ rfl) rfl rfl ?_
        refine x_iload_n (pc' := 19) hC dX3_allHoldIn_18 rfl rfl ?_
        refine x_iald (pc' := 20) hC dX3_allHoldIn_19 (hP 79 _ rfl) (by omega) (by decide) rfl ?_
        rw [f1]
        refine x_iald (pc' := 21) hC dX3_allHoldIn_20 hb.2.2.1 (by omega) (by decide) rfl ?_
        rw [hs.2.2.2.1 _ (by omega) (by omega)]
        refine x_aload_n (pc' := 22) hC dX3_allHoldIn_21 rfl rfl ?_
        refine x_getR (pc' := 25) (b := 80) hC kf_X3_15 dX3_allHoldIn_22 (hP 78 _ rfl) rfl rfl ?_
        refine x_iload_n (pc' := 26) hC dX3_allHoldIn_25 rfl rfl ?_
        refine x_iald (pc' := 27) hC dX3_allHoldIn_26 (hP 80 _ rfl) (by omega) (by decide) rfl ?_
        rw [f2]
        refine x_icmp_eq (tgt := 32) (pc' := 30) hC dX3_allHoldIn_27 (by decide) rfl (by omega) (by omega) (fun c27 => ?_) (fun c27 => ?_)
        · refine x_iinc (pc' := 35) hC dX3_allHoldIn_32 rfl (by decide) rfl rfl ?_
          refine x_goto (tgt := 2) hC dX3_allHoldIn_35 (by decide) ?_
          exact ih (k + 1) _ (by omega) (by omega) (fun j w hj hw => by rcases Nat.lt_or_ge j k with z | z; exact h1 j w z hw; have : j = k := (by omega); subst this; cases hq.symm.trans hw; exact c27) (by omega)
        · refine x_iconst (pc' := 31) hC dX3_allHoldIn_30 rfl ?_
          exact x_zret hC dX3_allHoldIn_31 (by first | exact Or.inl rfl | exact Or.inr rfl | omega) (xI.mk (by first
      | (refine ⟨(if_pos (fun q hq => ?_)).symm, rfl⟩
         obtain ⟨j, hj⟩ := List.getElem?_of_mem hq
         exact h1 j q (by have := (List.getElem?_eq_some_iff.mp hj).1; omega) hj)
      | (exact ⟨(if_neg (fun z => c27 (z q (List.mem_of_getElem? hq)))).symm, rfl⟩)))
  refine x_iconst (pc' := 1) hC dX3_allHoldIn_0 rfl ?_
  refine x_istore_n (pc' := 2) hC dX3_allHoldIn_1 (by decide) rfl rfl ?_
  exact loop (sl.length + 1) 0 _ rfl (by omega) (fun j q hj => absurd hj (Nat.not_lt_zero _)) (by omega)
set_option maxRecDepth 100000 in
set_option maxHeartbeats 4000000 in
theorem c_isFull {g : xG} {l : Launch} {S : List xS} {μ : xM} {c M : Nat} {T : Int → Int} {un : List (Int → Int)} (hs : xShf S c M) (hG : Ring μ c M un T) : xCt g l yX2_isFull cX2_isFull 1 (some .boolean) 0 0 0 0 [vR g c] S μ S (xI (fun a μ' => a = (if M ≤ un.length then 1 else 0) ∧ μ' = μ)) := by
  refine x_enter (by decide) (Nat.le_of_ble_eq_true rfl) ?_
  intro zp ze zs zm za zb zh zc hC hz0
  have hM := hs.2.2.1
  have hc := hs.2.2.2.2
  obtain ⟨e1, e2, nx, e3, e4, e5⟩ := hG
  refine x_aload_n (pc' := 1) hC dX2_isFull_0 rfl rfl ?_
  refine x_getI (j' := 1) (pc' := 4) hC kf_X2_7 dX2_isFull_1 hs.1 rfl rfl rfl ?_
  rw [e1]
  refine x_aload_n (pc' := 5) hC dX2_isFull_4 rfl rfl ?_
  refine x_getR (pc' := 8) (b := c + 1) hC kf_X2_24 dX2_isFull_5 hs.1 rfl rfl ?_
  refine x_alenR (n' := M) (pc' := 9) hC dX2_isFull_8 hs.2.1 (by rw [rowsOf_len]) rfl ?_
  refine x_icmp_lt (tgt := 16) (pc' := 12) hC dX2_isFull_9 (by decide) rfl (by omega) (by omega) (fun c9 => ?_) (fun c9 => ?_)
  · refine x_iconst (pc' := 17) hC dX2_isFull_16 rfl ?_
    exact x_zret hC dX2_isFull_17 (by first | exact Or.inl rfl | exact Or.inr rfl | omega) (xI.mk ⟨by first | rw [if_pos (by omega)] | rw [if_neg (by omega)], rfl⟩)
  · refine x_iconst (pc' := 13) hC dX2_isFull_12 rfl ?_
    refine x_goto (tgt := 17) hC dX2_isFull_13 (by decide) ?_
    exact x_zret hC dX2_isFull_17 (by first | exact Or.inl rfl | exact Or.inr rfl | omega) (xI.mk ⟨by first | rw [if_pos (by omega)] | rw [if_neg (by omega)], rfl⟩)
set_option maxRecDepth 100000 in
set_option maxHeartbeats 4000000 in
theorem c_put {g : xG} {l : Launch} {S : List xS} {μ : xM} {c M b2 pl2 : Nat} {T r : Int → Int} {un : List (Int → Int)} (hs : xShf S c M) (hb2 : xStd S b2 pl2) (hd : b2 + 5 ≤ c ∨ c + 2 + 5 * M ≤ b2) (hT : WT T) (hG : Ring μ c M un T) (hr : St μ b2 r) (hg : Gr μ b2 T) : xCt g l yX2_put cX2_put 2 none 2 61 0 0 [vR g c, vR g b2] S μ S (xN (fun μ' => FrI c (c + 2 + 5 * M) μ μ' ∧ Ring μ' c M ((r :: un).take M) T)) := by
  refine x_enter (by decide) (Nat.le_of_ble_eq_true rfl) ?_
  intro zp ze zs zm za zb zh zc hC hz0
  have hM := hs.2.2.1
  have hc := hs.2.2.2.2
  obtain ⟨e1, e2, nx, e3, e4, e5⟩ := hG
  have t3 := hT.2.2.2.1
  have hrow := hs.2.2.2.1 nx e4
  refine x_aload_n (pc' := 1) hC dX2_put_0 rfl rfl ?_
  refine x_getR (pc' := 4) (b := c + 1) hC kf_X2_24 dX2_put_1 hs.1 rfl rfl ?_
  refine x_aload_n (pc' := 5) hC dX2_put_4 rfl rfl ?_
  refine x_getI (j' := 2) (pc' := 8) hC kf_X2_13 dX2_put_5 hs.1 rfl rfl rfl ?_
  rw [e3]
  refine x_aald (pc' := 9) (b := c + 2 + 5 * nx) hC dX2_put_8 hs.2.1 (by rw [rowsOf_len]; omega) (by rw [rowsOf_len]; omega) (by rw [Int.toNat_natCast]; exact rowsOf_at e4) rfl ?_
  refine x_aload_n (pc' := 10) hC dX2_put_9 rfl rfl ?_
  refine x_callV (pc' := 13) (n := 1) hC (c_copy hrow hb2 (by omega) hr) ky_X4_copy kv_X4_copy kl_X2_31 dX2_put_10 (hs.2.2.2.1 nx e4).1 rfl rfl rfl rfl ⟨Nat.le_of_ble_eq_true rfl, Nat.le_of_ble_eq_true rfl⟩ (Nat.le_of_ble_eq_true rfl) ⟨Nat.le_refl _, Nat.le_refl _⟩ (Or.inl rfl) rfl (x_kn (fun μ10 h10 => ?_))
  refine x_aload_n (pc' := 14) hC dX2_put_13 rfl rfl ?_
  refine x_aload_n (pc' := 15) hC dX2_put_14 rfl rfl ?_
  refine x_getI (j' := 2) (pc' := 18) hC kf_X2_13 dX2_put_15 hs.1 rfl rfl rfl ?_
  rw [h10.1 _ _ (by omega), e3]
  refine x_iconst (pc' := 19) hC dX2_put_18 rfl ?_
  refine x_iadd (pc' := 20) hC dX2_put_19 rfl ?_
  refine x_aload_n (pc' := 21) hC dX2_put_20 rfl rfl ?_
  refine x_getR (pc' := 24) (b := c + 1) hC kf_X2_24 dX2_put_21 hs.1 rfl rfl ?_
  refine x_alenR (n' := M) (pc' := 25) hC dX2_put_24 hs.2.1 (by rw [rowsOf_len]) rfl ?_
  refine x_icmp_ge (tgt := 37) (pc' := 28) hC dX2_put_25 (by decide) rfl (by omega) (by omega) (fun c25 => ?_) (fun c25 => ?_)
  · refine x_iconst (pc' := 38) hC dX2_put_37 rfl ?_
    refine x_putI (j' := 2) (pc' := 41) hC kf_X2_13 dX2_put_38 hs.1 rfl rfl rfl rfl rfl ?_
    refine x_aload_n (pc' := 42) hC dX2_put_41 rfl rfl ?_
    refine x_aload_n (pc' := 43) hC dX2_put_42 rfl rfl ?_
    refine x_getI (j' := 1) (pc' := 46) hC kf_X2_7 dX2_put_43 hs.1 rfl rfl rfl ?_
    rw [xU_nj (by omega), h10.1 _ _ (by omega), e1]
    refine x_iconst (pc' := 47) hC dX2_put_46 rfl ?_
    refine x_iadd (pc' := 48) hC dX2_put_47 rfl ?_
    refine x_aload_n (pc' := 49) hC dX2_put_48 rfl rfl ?_
    refine x_getR (pc' := 52) (b := c + 1) hC kf_X2_24 dX2_put_49 hs.1 rfl rfl ?_
    refine x_alenR (n' := M) (pc' := 53) hC dX2_put_52 hs.2.1 (by rw [rowsOf_len]) rfl ?_
    refine x_mmin (pc' := 56) hC kl_X2_35 dX2_put_53 (by omega) (by omega) ⟨Nat.le_of_ble_eq_true rfl, Nat.le_of_ble_eq_true rfl⟩ (Nat.le_of_ble_eq_true rfl) ⟨Nat.le_refl _, Nat.le_refl _⟩ rfl ?_
    refine x_putI (j' := 1) (pc' := 59) hC kf_X2_7 dX2_put_56 hs.1 rfl rfl rfl rfl rfl ?_
    exact x_vret hC dX2_put_59 (xN.mk ⟨((h10.1.I.mono (by omega) (by omega)).u (by omega)).u (by omega), Ring.putL hM e2 e4 e5 h10.1 h10.2.1 (fun m m0 m1 => by rw [h10.2.2 m m0 (by omega), hg m m0 m1]) (by first | rw [if_pos (by omega)] | rw [if_neg (by omega)]) rfl⟩)
  · refine x_aload_n (pc' := 29) hC dX2_put_28 rfl rfl ?_
    refine x_getI (j' := 2) (pc' := 32) hC kf_X2_13 dX2_put_29 hs.1 rfl rfl rfl ?_
    rw [h10.1 _ _ (by omega), e3]
    refine x_iconst (pc' := 33) hC dX2_put_32 rfl ?_
    refine x_iadd (pc' := 34) hC dX2_put_33 rfl ?_
    refine x_goto (tgt := 38) hC dX2_put_34 (by decide) ?_
    refine x_putI (j' := 2) (pc' := 41) hC kf_X2_13 dX2_put_38 hs.1 rfl rfl rfl rfl rfl ?_
    refine x_aload_n (pc' := 42) hC dX2_put_41 rfl rfl ?_
    refine x_aload_n (pc' := 43) hC dX2_put_42 rfl rfl ?_
    refine x_getI (j' := 1) (pc' := 46) hC kf_X2_7 dX2_put_43 hs.1 rfl rfl rfl ?_
    rw [xU_nj (by omega), h10.1 _ _ (by omega), e1]
    refine x_iconst (pc' := 47) hC dX2_put_46 rfl ?_
    refine x_iadd (pc' := 48) hC dX2_put_47 rfl ?_
    refine x_aload_n (pc' := 49) hC dX2_put_48 rfl rfl ?_
    refine x_getR (pc' := 52) (b := c + 1) hC kf_X2_24 dX2_put_49 hs.1 rfl rfl ?_
    refine x_alenR (n' := M) (pc' := 53) hC dX2_put_52 hs.2.1 (by rw [rowsOf_len]) rfl ?_
    refine x_mmin (pc' := 56) hC kl_X2_35 dX2_put_53 (by omega) (by omega) ⟨Nat.le_of_ble_eq_true rfl, Nat.le_of_ble_eq_true rfl⟩ (Nat.le_of_ble_eq_true rfl) ⟨Nat.le_refl _, Nat.le_refl _⟩ rfl ?_
    refine x_putI (j' := 1) (pc' := 59) hC kf_X2_7 dX2_put_56 hs.1 rfl rfl rfl rfl rfl ?_
    exact x_vret hC dX2_put_59 (xN.mk ⟨((h10.1.I.mono (by omega) (by omega)).u (by omega)).u (by omega), Ring.putL hM e2 e4 e5 h10.1 h10.2.1 (fun m m0 m1 => by rw [h10.2.2 m m0 (by omega), hg m m0 m1]) (by first | rw [if_pos (by omega)] | rw [if_neg (by omega)]) rfl⟩)
set_option maxRecDepth 100000 in
set_option maxHeartbeats 4000000 in
theorem c_take0 {g : xG} {l : Launch} {S : List xS} {μ : xM} {c M b2 pl2 : Nat} {T r : Int → Int} {un : List (Int → Int)} (hs : xShf S c M) (hu : un = []) (hG : Ring μ c M un T) : xCt g l yX2_takeLatest cX2_takeLatest 2 (some .boolean) 2 61 0 0 [vR g c, vR g b2] S μ S (xI (fun a μ' => a = 0 ∧ μ' = μ)) := by
  refine x_enter (by decide) (Nat.le_of_ble_eq_true rfl) ?_
  intro zp ze zs zm za zb zh zc hC hz0
  subst hu
  have hM := hs.2.2.1
  have hc := hs.2.2.2.2
  obtain ⟨e1, e2, nx, e3, e4, e5⟩ := hG
  refine x_aload_n (pc' := 1) hC dX2_takeLatest_0 rfl rfl ?_
  refine x_getI (j' := 1) (pc' := 4) hC kf_X2_7 dX2_takeLatest_1 hs.1 rfl rfl rfl ?_
  rw [e1]
  refine x_if_ne (tgt := 9) (pc' := 7) hC dX2_takeLatest_4 (by decide) rfl (by simp) (fun c4 => ?_) (fun c4 => ?_)
  · exact absurd rfl c4
  · refine x_iconst (pc' := 8) hC dX2_takeLatest_7 rfl ?_
    exact x_zret hC dX2_takeLatest_8 (by first | exact Or.inl rfl | exact Or.inr rfl | omega) (xI.mk ⟨rfl, rfl⟩)
set_option maxRecDepth 100000 in
set_option maxHeartbeats 4000000 in
theorem c_take1 {g : xG} {l : Launch} {S : List xS} {μ : xM} {c M b2 pl2 : Nat} {T r : Int → Int} {un : List (Int → Int)} (hs : xShf S c M) {u : Int → Int} {un1 : List (Int → Int)} (hu : un = u :: un1) (hb2 : xStd S b2 pl2) (hd : b2 + 5 ≤ c ∨ c + 2 + 5 * M ≤ b2) (hT : WT T) (hG : Ring μ c M un T) : xCt g l yX2_takeLatest cX2_takeLatest 2 (some .boolean) 2 61 0 0 [vR g c, vR g b2] S μ S (xI (fun a μ' => a = 1 ∧ (∀ (k : Nat) (j : Int), k ≠ c → (k < b2 ∨ b2 + 5 ≤ k) → μ' k j = μ k j) ∧ St μ' b2 u ∧ Gr μ' b2 T ∧ Ring μ' c M un1 T)) := by
  refine x_enter (by decide) (Nat.le_of_ble_eq_true rfl) ?_
  intro zp ze zs zm za zb zh zc hC hz0
  subst hu
  have hM := hs.2.2.1
  have hc := hs.2.2.2.2
  obtain ⟨e1, e2, nx, e3, e4, e5⟩ := hG
  have t3 := hT.2.2.2.1
  rw [List.length_cons] at e1 e2
  have cut : ∀ (pv : Nat) (p0 : pv = (nx + M - 1 - 0) % M) (p1 : pv < M) (p2 : (pv : Int) = if 0 < (nx : Int) then (nx : Int) - 1 else M - 1), xX g 2 zp l ze { frames := 2, cells := 0, slots := 0, locals := 61 } zs zm za zb zh zc 0 0 (MQ zb (xQ g S (xI (fun a μ' => a = 1 ∧ (∀ (k : Nat) (j : Int), k ≠ c → (k < b2 ∨ b2 + 5 ≤ k) → μ' k j = μ k j) ∧ St μ' b2 u ∧ Gr μ' b2 T ∧ Ring μ' c M un1 T))) za zs 0 0 (xA0 g)) S ((xU μ c 2 pv)) 36 [some (vR g c), some (vR g b2)] [] := by
    intro pv p0 p1 p2
    obtain ⟨a1, a2⟩ := e5 0 u rfl
    rw [← p0] at a1 a2
    have hrow := hs.2.2.2.1 pv p1
    have w1 : FrI c (c + 1) μ (xU μ c 2 pv) := FrI.rf.u (by omega)
    refine x_aload_n (pc' := 37) hC dX2_takeLatest_36 rfl rfl ?_
    refine x_aload_n (pc' := 38) hC dX2_takeLatest_37 rfl rfl ?_
    refine x_getR (pc' := 41) (b := c + 1) hC kf_X2_24 dX2_takeLatest_38 hs.1 rfl rfl ?_
    refine x_aload_n (pc' := 42) hC dX2_takeLatest_41 rfl rfl ?_
    refine x_getI (j' := 2) (pc' := 45) hC kf_X2_13 dX2_takeLatest_42 hs.1 rfl rfl rfl ?_
    rw [xU_at2]
    refine x_aald (pc' := 46) (b := c + 2 + 5 * pv) hC dX2_takeLatest_45 hs.2.1 (by rw [rowsOf_len]; omega) (by rw [rowsOf_len]; omega) (by rw [Int.toNat_natCast]; exact rowsOf_at p1) rfl ?_
    refine x_callV (pc' := 49) (n := 1) hC (c_copy hb2 hrow (by omega) (a1.frI w1 (by omega))) ky_X4_copy kv_X4_copy kl_X2_31 dX2_takeLatest_46 hb2.1 rfl rfl rfl rfl ⟨Nat.le_of_ble_eq_true rfl, Nat.le_of_ble_eq_true rfl⟩ (Nat.le_of_ble_eq_true rfl) ⟨Nat.le_refl _, Nat.le_refl _⟩ (Or.inl rfl) rfl (x_kn (fun μ46 h46 => ?_))
    refine x_aload_n (pc' := 50) hC dX2_takeLatest_49 rfl rfl ?_
    refine x_dup (pc' := 51) hC dX2_takeLatest_50 rfl rfl ?_
    refine x_getI (j' := 1) (pc' := 54) hC kf_X2_7 dX2_takeLatest_51 hs.1 rfl rfl rfl ?_
    rw [h46.1 _ _ (by omega), xU_nj (by omega), e1]
    refine x_iconst (pc' := 55) hC dX2_takeLatest_54 rfl ?_
    refine x_isub (pc' := 56) hC dX2_takeLatest_55 rfl ?_
    refine x_putI (j' := 1) (pc' := 59) hC kf_X2_7 dX2_takeLatest_56 hs.1 rfl rfl rfl rfl rfl ?_
    refine x_iconst (pc' := 60) hC dX2_takeLatest_59 rfl ?_
    exact x_zret hC dX2_takeLatest_60 (by first | exact Or.inl rfl | exact Or.inr rfl | omega) (xI.mk ⟨rfl, fun k j k1 k2 => by rw [xU_nk k1, h46.1 _ _ (by omega), xU_nk k1], h46.2.1.frI (lo := c) (hi := c + 1) (FrI.rf.u (by omega)) (by omega), fun m m0 m1 => by rw [xU_nk (by omega), h46.2.2 m m0 (by omega), xU_nk (by omega), a2 m m0 m1], by
      have z := Ring.takeL (μ1 := μ46) (un := un1) (u := u) hM (by omega) e4 e5 (fun k j k0 k1 => by rw [h46.1 _ _ (by omega), xU_nk (by omega)]) p2 (by rw [h46.1 _ _ (by omega), xU_at2])
      rw [show (((un1.length + 1 : Nat) : Int) - 1) = un1.length by omega]
      exact z⟩)
  refine x_aload_n (pc' := 1) hC dX2_takeLatest_0 rfl rfl ?_
  refine x_getI (j' := 1) (pc' := 4) hC kf_X2_7 dX2_takeLatest_1 hs.1 rfl rfl rfl ?_
  rw [e1]
  refine x_if_ne (tgt := 9) (pc' := 7) hC dX2_takeLatest_4 (by decide) rfl (by omega) (fun c4 => ?_) (fun c4 => ?_)
  · refine x_aload_n (pc' := 10) hC dX2_takeLatest_9 rfl rfl ?_
    refine x_aload_n (pc' := 11) hC dX2_takeLatest_10 rfl rfl ?_
    refine x_getI (j' := 2) (pc' := 14) hC kf_X2_13 dX2_takeLatest_11 hs.1 rfl rfl rfl ?_
    rw [e3]
    refine x_if_le (tgt := 26) (pc' := 17) hC dX2_takeLatest_14 (by decide) rfl (by omega) (fun c14 => ?_) (fun c14 => ?_)
    · refine x_aload_n (pc' := 27) hC dX2_takeLatest_26 rfl rfl ?_
      refine x_getR (pc' := 30) (b := c + 1) hC kf_X2_24 dX2_takeLatest_27 hs.1 rfl rfl ?_
      refine x_alenR (n' := M) (pc' := 31) hC dX2_takeLatest_30 hs.2.1 (by rw [rowsOf_len]) rfl ?_
      refine x_iconst (pc' := 32) hC dX2_takeLatest_31 rfl ?_
      refine x_isub (pc' := 33) hC dX2_takeLatest_32 rfl ?_
      refine x_putI (j' := 2) (pc' := 36) hC kf_X2_13 dX2_takeLatest_33 hs.1 rfl rfl rfl rfl rfl ?_
      first | exact (show (nx : Int) - 1 = ((nx - 1 : Nat) : Int) by omega) ▸ cut (nx - 1) (by rcases hM with rfl | rfl <;> omega) (by omega) (by rw [if_pos (by omega)]; omega) | exact (show (M : Int) - 1 = ((M - 1 : Nat) : Int) by omega) ▸ cut (M - 1) (by rcases hM with rfl | rfl <;> omega) (by omega) (by rw [if_neg (by omega)]; omega)
    · refine x_aload_n (pc' := 18) hC dX2_takeLatest_17 rfl rfl ?_
      refine x_getI (j' := 2) (pc' := 21) hC kf_X2_13 dX2_takeLatest_18 hs.1 rfl rfl rfl ?_
      rw [e3]
      refine x_iconst (pc' := 22) hC dX2_takeLatest_21 rfl ?_
      refine x_isub (pc' := 23) hC dX2_takeLatest_22 rfl ?_
      refine x_goto (tgt := 33) hC dX2_takeLatest_23 (by decide) ?_
      refine x_putI (j' := 2) (pc' := 36) hC kf_X2_13 dX2_takeLatest_33 hs.1 rfl rfl rfl rfl rfl ?_
      first | exact (show (nx : Int) - 1 = ((nx - 1 : Nat) : Int) by omega) ▸ cut (nx - 1) (by rcases hM with rfl | rfl <;> omega) (by omega) (by rw [if_pos (by omega)]; omega) | exact (show (M : Int) - 1 = ((M - 1 : Nat) : Int) by omega) ▸ cut (M - 1) (by rcases hM with rfl | rfl <;> omega) (by omega) (by rw [if_neg (by omega)]; omega)
  · exact absurd c4 (by omega)
