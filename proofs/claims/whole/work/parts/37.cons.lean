/-! the constructors: the cells one behind the other -/
theorem xget0 {P L : List xS} {a : xS} {k : Nat} (hk : P.length = k) : (P ++ a :: L)[k]? = some a := by
  subst hk; rw [List.getElem?_append_right (Nat.le_refl _), Nat.sub_self]; rfl
theorem xget1 {P L M : List xS} {a : xS} {k : Nat} (hk : P.length = k) : ((P ++ a :: L) ++ M)[k]? = some a := by
  rw [List.append_assoc]; exact xget0 hk
theorem xset0 {P L : List xS} {a b : xS} {k : Nat} (hk : P.length = k) : (P ++ a :: L).set k b = P ++ b :: L := by
  subst hk; rw [List.set_append_right _ _ (Nat.le_refl _), Nat.sub_self]; rfl
theorem xapp {P L : List xS} {a : xS} : (P ++ L) ++ [a] = P ++ (L ++ [a]) := List.append_assoc _ _ _
theorem vpm {fs : List (Option (Option Nat))} {f : Nat → Option (Option Nat) → Value} {j : Nat} : vp_V (fs.mapIdx f) j = ((fs[j]?).map (f j)).getD .null := by unfold vp_V; rw [List.getD_eq_getElem?_getD, List.getElem?_mapIdx]
abbrev o0P : List (Option (Option Nat)) := [some none, none, none, none, none]
abbrev o0R : List (Option (Option Nat)) := [some none, some none, some none, none, none]
abbrev o0F : List (Option (Option Nat)) := [some none, none, none]
abbrev o0S : List (Option (Option Nat)) := [some none, some none, none]
abbrev o0D : List (Option (Option Nat)) := [some none, some none, some none, some none, some none, none, none]
abbrev o0T : List (Option (Option Nat)) := [some none, none]
abbrev o0B : List (Option (Option Nat)) := [some none, some none, some none, some none, some none, some none, some none, some none]
abbrev o0M : List (Option (Option Nat)) := [none, some none, some none, some none, none, some none, some none, some none, some none, none, some none, none, some none, none, none, some none]

theorem zf0 {g : xG} : ∀ j, j < 5 → defaultValue (tyX0 j) = vp_V (o0P.mapIdx (fun j o => xV g (fun _ => 0) j o)) j := fun j hj => by
  match j, hj with
  | 0, _ => rw [vpm]; rfl
  | 1, _ => rw [vpm]; rfl
  | 2, _ => rw [vpm]; rfl
  | 3, _ => rw [vpm]; rfl
  | 4, _ => rw [vpm]; rfl
  | j + 5, h => exact absurd h (by omega)
theorem zf1 {g : xG} : ∀ j, j < 5 → defaultValue (tyX1 j) = vp_V (o0R.mapIdx (fun j o => xV g (fun _ => 0) j o)) j := fun j hj => by
  match j, hj with
  | 0, _ => rw [vpm]; rfl
  | 1, _ => rw [vpm]; rfl
  | 2, _ => rw [vpm]; rfl
  | 3, _ => rw [vpm]; rfl
  | 4, _ => rw [vpm]; rfl
  | j + 5, h => exact absurd h (by omega)
theorem zf2 {g : xG} : ∀ j, j < 3 → defaultValue (tyX2 j) = vp_V (o0F.mapIdx (fun j o => xV g (fun _ => 0) j o)) j := fun j hj => by
  match j, hj with
  | 0, _ => rw [vpm]; rfl
  | 1, _ => rw [vpm]; rfl
  | 2, _ => rw [vpm]; rfl
  | j + 3, h => exact absurd h (by omega)
theorem zf3 {g : xG} : ∀ j, j < 3 → defaultValue (tyX3 j) = vp_V (o0S.mapIdx (fun j o => xV g (fun _ => 0) j o)) j := fun j hj => by
  match j, hj with
  | 0, _ => rw [vpm]; rfl
  | 1, _ => rw [vpm]; rfl
  | 2, _ => rw [vpm]; rfl
  | j + 3, h => exact absurd h (by omega)
theorem zf4 {g : xG} : ∀ j, j < 7 → defaultValue (tyX4 j) = vp_V (o0D.mapIdx (fun j o => xV g (fun _ => 0) j o)) j := fun j hj => by
  match j, hj with
  | 0, _ => rw [vpm]; rfl
  | 1, _ => rw [vpm]; rfl
  | 2, _ => rw [vpm]; rfl
  | 3, _ => rw [vpm]; rfl
  | 4, _ => rw [vpm]; rfl
  | 5, _ => rw [vpm]; rfl
  | 6, _ => rw [vpm]; rfl
  | j + 7, h => exact absurd h (by omega)
theorem zf5 {g : xG} : ∀ j, j < 2 → defaultValue (tyX5 j) = vp_V (o0T.mapIdx (fun j o => xV g (fun _ => 0) j o)) j := fun j hj => by
  match j, hj with
  | 0, _ => rw [vpm]; rfl
  | 1, _ => rw [vpm]; rfl
  | j + 2, h => exact absurd h (by omega)
theorem zf6 {g : xG} : ∀ j, j < 8 → defaultValue (tyX6 j) = vp_V (o0B.mapIdx (fun j o => xV g (fun _ => 0) j o)) j := fun j hj => by
  match j, hj with
  | 0, _ => rw [vpm]; rfl
  | 1, _ => rw [vpm]; rfl
  | 2, _ => rw [vpm]; rfl
  | 3, _ => rw [vpm]; rfl
  | 4, _ => rw [vpm]; rfl
  | 5, _ => rw [vpm]; rfl
  | 6, _ => rw [vpm]; rfl
  | 7, _ => rw [vpm]; rfl
  | j + 8, h => exact absurd h (by omega)
theorem zf7 {g : xG} : ∀ j, j < 16 → defaultValue (tyX7 j) = vp_V (o0M.mapIdx (fun j o => xV g (fun _ => 0) j o)) j := fun j hj => by
  match j, hj with
  | 0, _ => rw [vpm]; rfl
  | 1, _ => rw [vpm]; rfl
  | 2, _ => rw [vpm]; rfl
  | 3, _ => rw [vpm]; rfl
  | 4, _ => rw [vpm]; rfl
  | 5, _ => rw [vpm]; rfl
  | 6, _ => rw [vpm]; rfl
  | 7, _ => rw [vpm]; rfl
  | 8, _ => rw [vpm]; rfl
  | 9, _ => rw [vpm]; rfl
  | 10, _ => rw [vpm]; rfl
  | 11, _ => rw [vpm]; rfl
  | 12, _ => rw [vpm]; rfl
  | 13, _ => rw [vpm]; rfl
  | 14, _ => rw [vpm]; rfl
  | 15, _ => rw [vpm]; rfl
  | j + 16, h => exact absurd h (by omega)

set_option maxRecDepth 100000 in
set_option maxHeartbeats 4000000 in
theorem c_iniP {g : xG} {l : Launch} {P : List xS} {μ : xM} {k : Nat} (hk : P.length = k) : xCt g l yX0_init cX0_init 1 none 1 20 1 7 [vR g k] (P ++ [.inl (0, o0P)]) μ (P ++ [.inl (0, [some (some (k + 1)), none, none, none, none]), .inr (.inl (false, 7))]) (xN (fun μ' => FrI k (k + 2) μ μ' ∧ Pl μ' k T00)) := by
  refine x_enter (by decide) (Nat.le_of_ble_eq_true rfl) ?_
  intro zp ze zs zm za zb zh zc hC hz0
  have hz1 := hz0.resolve_left (by decide)
  rw [List.length_append, hk] at hz1
  have hz2 : zs.heap.size = g.1 + (k + 1) := hz1
  refine x_aload_n (pc' := 1) hC dX0_init_0 rfl rfl ?_
  refine x_objInit (pc' := 4) hC kl_X0_3 dX0_init_1 ⟨Nat.le_of_ble_eq_true rfl, Nat.le_of_ble_eq_true rfl⟩ rfl ?_
  refine x_aload_n (pc' := 5) hC dX0_init_4 rfl rfl ?_
  refine x_bipush (pc' := 7) hC dX0_init_5 (by decide) rfl ?_
  refine x_newI (n := 7) (k := k + 1) (pc' := 9) hC dX0_init_7 rfl (by decide) (by simp [hk]) (by omega) ⟨Nat.le_of_ble_eq_true rfl, Nat.le_of_ble_eq_true rfl⟩ rfl ?_
  refine x_S (S' := P ++ [.inl (0, [some none, none, none, none, none]), .inr (.inl (false, 7))]) (by simp only [List.append_assoc, List.cons_append, List.nil_append]) ?_
  refine x_putR (b := k + 1) (j := 0) (pc' := 12) hC rfl kf_X0_9 ⟨_, rfl, rfl⟩ dX0_init_9 (xget0 hk) (Nat.le_of_ble_eq_true rfl) (fun _ => rfl) (fun _ => rfl) rfl ?_
  refine x_S (S' := P ++ [.inl (0, [some (some (k + 1)), none, none, none, none]), .inr (.inl (false, 7))]) (xset0 hk) ?_
  refine x_aload_n (pc' := 13) hC dX0_init_12 rfl rfl ?_
  refine x_iconst (pc' := 14) hC dX0_init_13 rfl ?_
  refine x_putI (j' := 1) (pc' := 17) hC kf_X0_15 dX0_init_14 (xget0 hk) rfl rfl rfl rfl rfl ?_
  refine x_aload_n (pc' := 18) hC dX0_init_17 rfl rfl ?_
  refine x_bipush (pc' := 20) hC dX0_init_18 (by decide) rfl ?_
  refine x_putI (j' := 2) (pc' := 23) hC kf_X0_19 dX0_init_20 (xget0 hk) rfl rfl rfl rfl rfl ?_
  refine x_aload_n (pc' := 24) hC dX0_init_23 rfl rfl ?_
  refine x_iconst (pc' := 25) hC dX0_init_24 rfl ?_
  refine x_putI (j' := 3) (pc' := 28) hC kf_X0_22 dX0_init_25 (xget0 hk) rfl rfl rfl rfl rfl ?_
  refine x_aload_n (pc' := 29) hC dX0_init_28 rfl rfl ?_
  refine x_iconst (pc' := 30) hC dX0_init_29 rfl ?_
  refine x_putI (j' := 4) (pc' := 33) hC kf_X0_25 dX0_init_30 (xget0 hk) rfl rfl rfl rfl rfl ?_
  exact x_vret hC dX0_init_33 (xN.mk ⟨((((FrI.rf.z (by omega)).u (by omega)).u (by omega)).u (by omega)).u (by omega), by rw [xU_nj (by omega), xU_nj (by omega), xU_nj (by omega), xU_at2]; decide, by rw [xU_nj (by omega), xU_nj (by omega), xU_at2]; decide, by rw [xU_nj (by omega), xU_at2]; decide, by rw [xU_at2]; decide, fun m m0 m1 => absurd m1 (by rw [show T00 3 = 0 by decide]; omega)⟩)
set_option maxRecDepth 100000 in
set_option maxHeartbeats 4000000 in
theorem c_iniT {g : xG} {l : Launch} {P : List xS} {μ : xM} {k : Nat} (hk : P.length = k) : xCt g l yX5_init cX5_init 1 none 1 20 1 200 [vR g k] (P ++ [.inl (5, o0T)]) μ (P ++ [.inl (5, [some (some (k + 1)), none]), .inr (.inl (true, 200))]) (xN (fun μ' => FrI k (k + 2) μ μ' ∧ μ' k 1 = 0)) := by
  refine x_enter (by decide) (Nat.le_of_ble_eq_true rfl) ?_
  intro zp ze zs zm za zb zh zc hC hz0
  have hz1 := hz0.resolve_left (by decide)
  rw [List.length_append, hk] at hz1
  have hz2 : zs.heap.size = g.1 + (k + 1) := hz1
  refine x_aload_n (pc' := 1) hC dX5_init_0 rfl rfl ?_
  refine x_objInit (pc' := 4) hC kl_X5_3 dX5_init_1 ⟨Nat.le_of_ble_eq_true rfl, Nat.le_of_ble_eq_true rfl⟩ rfl ?_
  refine x_aload_n (pc' := 5) hC dX5_init_4 rfl rfl ?_
  refine x_sipush (pc' := 8) hC dX5_init_5 (by decide) rfl ?_
  refine x_newC (n := 200) (k := k + 1) (pc' := 10) hC dX5_init_8 rfl (by decide) (by simp [hk]) (by omega) ⟨Nat.le_of_ble_eq_true rfl, Nat.le_of_ble_eq_true rfl⟩ rfl ?_
  refine x_S (S' := P ++ [.inl (5, [some none, none]), .inr (.inl (true, 200))]) (by simp only [List.append_assoc, List.cons_append, List.nil_append]) ?_
  refine x_putR (b := k + 1) (j := 0) (pc' := 13) hC rfl kf_X5_9 ⟨_, rfl, rfl⟩ dX5_init_10 (xget0 hk) (Nat.le_of_ble_eq_true rfl) (fun _ => rfl) (fun _ => rfl) rfl ?_
  refine x_S (S' := P ++ [.inl (5, [some (some (k + 1)), none]), .inr (.inl (true, 200))]) (xset0 hk) ?_
  refine x_aload_n (pc' := 14) hC dX5_init_13 rfl rfl ?_
  refine x_iconst (pc' := 15) hC dX5_init_14 rfl ?_
  refine x_putI (j' := 1) (pc' := 18) hC kf_X5_15 dX5_init_15 (xget0 hk) rfl rfl rfl rfl rfl ?_
  exact x_vret hC dX5_init_18 (xN.mk ⟨(FrI.rf.z (by omega)).u (by omega), xU_at2⟩)
set_option maxRecDepth 100000 in
set_option maxHeartbeats 4000000 in
theorem c_iniS {g : xG} {l : Launch} {P : List xS} {μ : xM} {k : Nat} (hk : P.length = k) : xCt g l yX3_init cX3_init 1 none 1 20 2 12 [vR g k] (P ++ [.inl (3, o0S)]) μ (P ++ [.inl (3, [some (some (k + 1)), some (some (k + 2)), none]), .inr (.inl (false, 6)), .inr (.inl (false, 6))]) (xN (fun μ' => FrI k (k + 3) μ μ' ∧ μ' k 2 = 0)) := by
  refine x_enter (by decide) (Nat.le_of_ble_eq_true rfl) ?_
  intro zp ze zs zm za zb zh zc hC hz0
  have hz1 := hz0.resolve_left (by decide)
  rw [List.length_append, hk] at hz1
  have hz2 : zs.heap.size = g.1 + (k + 1) := hz1
  refine x_aload_n (pc' := 1) hC dX3_init_0 rfl rfl ?_
  refine x_objInit (pc' := 4) hC kl_X3_3 dX3_init_1 ⟨Nat.le_of_ble_eq_true rfl, Nat.le_of_ble_eq_true rfl⟩ rfl ?_
  refine x_aload_n (pc' := 5) hC dX3_init_4 rfl rfl ?_
  refine x_bipush (pc' := 7) hC dX3_init_5 (by decide) rfl ?_
  refine x_newI (n := 6) (k := k + 1) (pc' := 9) hC dX3_init_7 rfl (by decide) (by simp [hk]) (by omega) ⟨Nat.le_of_ble_eq_true rfl, Nat.le_of_ble_eq_true rfl⟩ rfl ?_
  refine x_S (S' := P ++ [.inl (3, [some none, some none, none]), .inr (.inl (false, 6))]) (by simp only [List.append_assoc, List.cons_append, List.nil_append]) ?_
  refine x_putR (b := k + 1) (j := 0) (pc' := 12) hC rfl kf_X3_9 ⟨_, rfl, rfl⟩ dX3_init_9 (xget0 hk) (Nat.le_of_ble_eq_true rfl) (fun _ => rfl) (fun _ => rfl) rfl ?_
  refine x_S (S' := P ++ [.inl (3, [some (some (k + 1)), some none, none]), .inr (.inl (false, 6))]) (xset0 hk) ?_
  refine x_aload_n (pc' := 13) hC dX3_init_12 rfl rfl ?_
  refine x_bipush (pc' := 15) hC dX3_init_13 (by decide) rfl ?_
  refine x_newI (n := 6) (k := k + 2) (pc' := 17) hC dX3_init_15 rfl (by decide) (by simp [hk]) (by omega) ⟨Nat.le_of_ble_eq_true rfl, Nat.le_of_ble_eq_true rfl⟩ rfl ?_
  refine x_S (S' := P ++ [.inl (3, [some (some (k + 1)), some none, none]), .inr (.inl (false, 6)), .inr (.inl (false, 6))]) (by simp only [List.append_assoc, List.cons_append, List.nil_append]) ?_
  refine x_putR (b := k + 2) (j := 1) (pc' := 20) hC rfl kf_X3_15 ⟨_, rfl, rfl⟩ dX3_init_17 (xget0 hk) (Nat.le_of_ble_eq_true rfl) (fun _ => rfl) (fun _ => rfl) rfl ?_
  refine x_S (S' := P ++ [.inl (3, [some (some (k + 1)), some (some (k + 2)), none]), .inr (.inl (false, 6)), .inr (.inl (false, 6))]) (xset0 hk) ?_
  refine x_aload_n (pc' := 21) hC dX3_init_20 rfl rfl ?_
  refine x_iconst (pc' := 22) hC dX3_init_21 rfl ?_
  refine x_putI (j' := 2) (pc' := 25) hC kf_X3_18 dX3_init_22 (xget0 hk) rfl rfl rfl rfl rfl ?_
  exact x_vret hC dX3_init_25 (xN.mk ⟨((FrI.rf.z (by omega)).z (by omega)).u (by omega), xU_at2⟩)
set_option maxRecDepth 100000 in
set_option maxHeartbeats 4000000 in
theorem c_iniD {g : xG} {l : Launch} {P : List xS} {μ : xM} {k : Nat} (hk : P.length = k) {pl : Nat} : xCt g l yX4_init cX4_init 2 none 1 20 4 37 [vR g k, vR g pl] (P ++ [.inl (4, o0D)]) μ (P ++ [.inl (4, [some (some pl), some (some (k + 1)), some (some (k + 2)), some (some (k + 3)), some (some (k + 4)), none, none]), .inr (.inl (false, 16)), .inr (.inl (false, 7)), .inr (.inl (false, 7)), .inr (.inl (false, 7))]) (xN (fun μ' => FrI k (k + 5) μ μ' ∧ St μ' k r00 ∧ ∀ j : Int, 0 ≤ j → j < 7 → μ' (k + 3) j = 0)) := by
  refine x_enter (by decide) (Nat.le_of_ble_eq_true rfl) ?_
  intro zp ze zs zm za zb zh zc hC hz0
  have hz1 := hz0.resolve_left (by decide)
  rw [List.length_append, hk] at hz1
  have hz2 : zs.heap.size = g.1 + (k + 1) := hz1
  refine x_aload_n (pc' := 1) hC dX4_init_0 rfl rfl ?_
  refine x_objInit (pc' := 4) hC kl_X4_3 dX4_init_1 ⟨Nat.le_of_ble_eq_true rfl, Nat.le_of_ble_eq_true rfl⟩ rfl ?_
  refine x_aload_n (pc' := 5) hC dX4_init_4 rfl rfl ?_
  refine x_bipush (pc' := 7) hC dX4_init_5 (by decide) rfl ?_
  refine x_newI (n := 16) (k := k + 1) (pc' := 9) hC dX4_init_7 rfl (by decide) (by simp [hk]) (by omega) ⟨Nat.le_of_ble_eq_true rfl, Nat.le_of_ble_eq_true rfl⟩ rfl ?_
  refine x_S (S' := P ++ [.inl (4, [some none, some none, some none, some none, some none, none, none]), .inr (.inl (false, 16))]) (by simp only [List.append_assoc, List.cons_append, List.nil_append]) ?_
  refine x_putR (b := k + 1) (j := 1) (pc' := 12) hC rfl kf_X4_9 ⟨_, rfl, rfl⟩ dX4_init_9 (xget0 hk) (Nat.le_of_ble_eq_true rfl) (fun _ => rfl) (fun _ => rfl) rfl ?_
  refine x_S (S' := P ++ [.inl (4, [some none, some (some (k + 1)), some none, some none, some none, none, none]), .inr (.inl (false, 16))]) (xset0 hk) ?_
  refine x_aload_n (pc' := 13) hC dX4_init_12 rfl rfl ?_
  refine x_bipush (pc' := 15) hC dX4_init_13 (by decide) rfl ?_
  refine x_newI (n := 7) (k := k + 2) (pc' := 17) hC dX4_init_15 rfl (by decide) (by simp [hk]) (by omega) ⟨Nat.le_of_ble_eq_true rfl, Nat.le_of_ble_eq_true rfl⟩ rfl ?_
  refine x_S (S' := P ++ [.inl (4, [some none, some (some (k + 1)), some none, some none, some none, none, none]), .inr (.inl (false, 16)), .inr (.inl (false, 7))]) (by simp only [List.append_assoc, List.cons_append, List.nil_append]) ?_
  refine x_putR (b := k + 2) (j := 2) (pc' := 20) hC rfl kf_X4_15 ⟨_, rfl, rfl⟩ dX4_init_17 (xget0 hk) (Nat.le_of_ble_eq_true rfl) (fun _ => rfl) (fun _ => rfl) rfl ?_
  refine x_S (S' := P ++ [.inl (4, [some none, some (some (k + 1)), some (some (k + 2)), some none, some none, none, none]), .inr (.inl (false, 16)), .inr (.inl (false, 7))]) (xset0 hk) ?_
  refine x_aload_n (pc' := 21) hC dX4_init_20 rfl rfl ?_
  refine x_bipush (pc' := 23) hC dX4_init_21 (by decide) rfl ?_
  refine x_newI (n := 7) (k := k + 3) (pc' := 25) hC dX4_init_23 rfl (by decide) (by simp [hk]) (by omega) ⟨Nat.le_of_ble_eq_true rfl, Nat.le_of_ble_eq_true rfl⟩ rfl ?_
  refine x_S (S' := P ++ [.inl (4, [some none, some (some (k + 1)), some (some (k + 2)), some none, some none, none, none]), .inr (.inl (false, 16)), .inr (.inl (false, 7)), .inr (.inl (false, 7))]) (by simp only [List.append_assoc, List.cons_append, List.nil_append]) ?_
  refine x_putR (b := k + 3) (j := 3) (pc' := 28) hC rfl kf_X4_18 ⟨_, rfl, rfl⟩ dX4_init_25 (xget0 hk) (Nat.le_of_ble_eq_true rfl) (fun _ => rfl) (fun _ => rfl) rfl ?_
  refine x_S (S' := P ++ [.inl (4, [some none, some (some (k + 1)), some (some (k + 2)), some (some (k + 3)), some none, none, none]), .inr (.inl (false, 16)), .inr (.inl (false, 7)), .inr (.inl (false, 7))]) (xset0 hk) ?_
  refine x_aload_n (pc' := 29) hC dX4_init_28 rfl rfl ?_
  refine x_bipush (pc' := 31) hC dX4_init_29 (by decide) rfl ?_
  refine x_newI (n := 7) (k := k + 4) (pc' := 33) hC dX4_init_31 rfl (by decide) (by simp [hk]) (by omega) ⟨Nat.le_of_ble_eq_true rfl, Nat.le_of_ble_eq_true rfl⟩ rfl ?_
  refine x_S (S' := P ++ [.inl (4, [some none, some (some (k + 1)), some (some (k + 2)), some (some (k + 3)), some none, none, none]), .inr (.inl (false, 16)), .inr (.inl (false, 7)), .inr (.inl (false, 7)), .inr (.inl (false, 7))]) (by simp only [List.append_assoc, List.cons_append, List.nil_append]) ?_
  refine x_putR (b := k + 4) (j := 4) (pc' := 36) hC rfl kf_X4_21 ⟨_, rfl, rfl⟩ dX4_init_33 (xget0 hk) (Nat.le_of_ble_eq_true rfl) (fun _ => rfl) (fun _ => rfl) rfl ?_
  refine x_S (S' := P ++ [.inl (4, [some none, some (some (k + 1)), some (some (k + 2)), some (some (k + 3)), some (some (k + 4)), none, none]), .inr (.inl (false, 16)), .inr (.inl (false, 7)), .inr (.inl (false, 7)), .inr (.inl (false, 7))]) (xset0 hk) ?_
  refine x_aload_n (pc' := 37) hC dX4_init_36 rfl rfl ?_
  refine x_bipush (pc' := 39) hC dX4_init_37 (by decide) rfl ?_
  refine x_putI (j' := 5) (pc' := 42) hC kf_X4_24 dX4_init_39 (xget0 hk) rfl rfl rfl rfl rfl ?_
  refine x_aload_n (pc' := 43) hC dX4_init_42 rfl rfl ?_
  refine x_iconst (pc' := 44) hC dX4_init_43 rfl ?_
  refine x_putI (j' := 6) (pc' := 47) hC kf_X4_28 dX4_init_44 (xget0 hk) rfl rfl rfl rfl rfl ?_
  refine x_aload_n (pc' := 48) hC dX4_init_47 rfl rfl ?_
  refine x_aload_n (pc' := 49) hC dX4_init_48 rfl rfl ?_
  refine x_putR (b := pl) (j := 0) (pc' := 52) hC rfl kf_X4_31 ⟨_, rfl, rfl⟩ dX4_init_49 (xget0 hk) (Nat.le_of_ble_eq_true rfl) (fun _ => rfl) (fun _ => rfl) rfl ?_
  refine x_S (S' := P ++ [.inl (4, [some (some pl), some (some (k + 1)), some (some (k + 2)), some (some (k + 3)), some (some (k + 4)), none, none]), .inr (.inl (false, 16)), .inr (.inl (false, 7)), .inr (.inl (false, 7)), .inr (.inl (false, 7))]) (xset0 hk) ?_
  exact x_vret hC dX4_init_52 (xN.mk (by
    have e0 : r00 0 = 0 := by decide
    have e1 : r00 1 = 20 := by decide
    have ew : ∀ j : Int, 0 ≤ j → r00 (2 + j) = 0 := fun j a => by unfold r00; rw [if_neg (by omega)]
    have ep : ∀ j : Int, 0 ≤ j → r00 (18 + j) = 0 := fun j a => by unfold r00; rw [if_neg (by omega)]
    have eg : ∀ j : Int, 0 ≤ j → r00 (25 + j) = 0 := fun j a => by unfold r00; rw [if_neg (by omega)]
    refine ⟨(((((FrI.rf.z (by omega)).z (by omega)).z (by omega)).z (by omega)).u (by omega)).u (by omega), ⟨?_, ?_, fun j a b => ?_, fun j a b => ?_, fun j a b => ?_⟩, fun j a b => ?_⟩
    · rw [xU_at2, e0]
    · rw [xU_nj (by omega), xU_at2, e1]
    · rw [xU_nk (by omega), xU_nk (by omega), xZ_ne (by omega), xZ_ne (by omega), xZ_ne (by omega), xZ_at, ew j a]
    · rw [xU_nk (by omega), xU_nk (by omega), xZ_ne (by omega), xZ_ne (by omega), xZ_at, ep j a]
    · rw [xU_nk (by omega), xU_nk (by omega), xZ_at, eg j a]
    · rw [xU_nk (by omega), xU_nk (by omega), xZ_ne (by omega), xZ_at]))
set_option maxRecDepth 100000 in
set_option maxHeartbeats 4000000 in
theorem c_iniR {g : xG} {l : Launch} {P : List xS} {μ : xM} {k : Nat} (hk : P.length = k) : xCt g l yX1_init cX1_init 1 none 2 41 8 59 [vR g k] (P ++ [.inl (1, o0R)]) μ (P ++ [.inl (1, [some (some (k + 1)), some (some (k + 3)), some (some (k + 8)), none, none]), sPln (k + 1), sArr 7, sStd (k + 3) (k + 1), sArr 16, sArr 7, sArr 7, sArr 7, .inr (.inl (false, 3))]) (xN (fun μ' => FrI k (k + 9) μ μ')) := by
  refine x_enter (by decide) (Nat.le_of_ble_eq_true rfl) ?_
  intro zp ze zs zm za zb zh zc hC hz0
  have hz1 := hz0.resolve_left (by decide)
  rw [List.length_append, hk] at hz1
  have hz2 : zs.heap.size = g.1 + (k + 1) := hz1
  refine x_aload_n (pc' := 1) hC dX1_init_0 rfl rfl ?_
  refine x_objInit (pc' := 4) hC kl_X1_3 dX1_init_1 ⟨Nat.le_of_ble_eq_true rfl, Nat.le_of_ble_eq_true rfl⟩ rfl ?_
  refine x_aload_n (pc' := 5) hC dX1_init_4 rfl rfl ?_
  refine x_newO (k := k + 1) (fs := o0P) (pc' := 8) hC kC0 kk_X1_9 dX1_init_5 zf0 (by simp [hk]) (by omega) ⟨Nat.le_of_ble_eq_true rfl, Nat.le_of_ble_eq_true rfl⟩ rfl ?_
  refine x_dup (pc' := 9) hC dX1_init_8 rfl rfl ?_
  refine x_S (S' := (P ++ [.inl (1, [some none, some none, some none, none, none])]) ++ [.inl (0, o0P)]) (by simp only [List.append_assoc, List.cons_append, List.nil_append]) ?_
  refine x_callIN (pc' := 12) (n := 0) hC (c_iniP (P := P ++ [.inl (1, o0R)]) (k := k + 1) (by simp [hk])) ky_X0_init km_X0_init rfl (show Cond.methodLinkNest RX1 11 yX0_init RX6 ∈ xNest by simp [xNest]) dX1_init_9 rfl rfl ⟨Nat.le_of_ble_eq_true rfl, Nat.le_of_ble_eq_true rfl⟩ (Nat.le_of_ble_eq_true rfl) ⟨Nat.le_of_ble_eq_true rfl, Nat.le_of_ble_eq_true rfl⟩ (Or.inr (by simp [hk]; omega)) rfl (x_kn (fun μ9 h9 => ?_))
  refine x_S (S' := P ++ [.inl (1, [some none, some none, some none, none, none]), sPln (k + 1), sArr 7]) (by simp only [List.append_assoc, List.cons_append, List.nil_append]) ?_
  refine x_putR (b := k + 1) (j := 0) (pc' := 15) hC rfl kf_X1_12 ⟨_, rfl, rfl⟩ dX1_init_12 (xget0 hk) (Nat.le_of_ble_eq_true rfl) (fun _ => rfl) (fun _ => rfl) rfl ?_
  refine x_S (S' := P ++ [.inl (1, [some (some (k + 1)), some none, some none, none, none]), sPln (k + 1), sArr 7]) (xset0 hk) ?_
  refine x_aload_n (pc' := 16) hC dX1_init_15 rfl rfl ?_
  refine x_newO (k := k + 3) (fs := o0D) (pc' := 19) hC kC4 kk_X1_18 dX1_init_16 zf4 (by simp [hk]) (by omega) ⟨Nat.le_of_ble_eq_true rfl, Nat.le_of_ble_eq_true rfl⟩ rfl ?_
  refine x_dup (pc' := 20) hC dX1_init_19 rfl rfl ?_
  refine x_aload_n (pc' := 21) hC dX1_init_20 rfl rfl ?_
  refine x_getR (pc' := 24) (b := k + 1) hC kf_X1_12 dX1_init_21 (xget1 hk) rfl rfl ?_
  refine x_S (S' := (P ++ [.inl (1, [some (some (k + 1)), some none, some none, none, none]), sPln (k + 1), sArr 7]) ++ [.inl (4, o0D)]) (by simp only [List.append_assoc, List.cons_append, List.nil_append]) ?_
  refine x_callI (pc' := 27) (n := 1) hC (c_iniD (P := P ++ [.inl (1, [some (some (k + 1)), some none, some none, none, none]), sPln (k + 1), sArr 7]) (k := k + 3) (by simp [hk])) ky_X4_init km_X4_init rfl kl_X1_20 dX1_init_24 rfl rfl ⟨Nat.le_of_ble_eq_true rfl, Nat.le_of_ble_eq_true rfl⟩ (Nat.le_of_ble_eq_true rfl) ⟨Nat.le_of_ble_eq_true rfl, Nat.le_of_ble_eq_true rfl⟩ (Or.inr (by simp [hk]; omega)) rfl (x_kn (fun μ24 h24 => ?_))
  refine x_S (S' := P ++ [.inl (1, [some (some (k + 1)), some none, some none, none, none]), sPln (k + 1), sArr 7, sStd (k + 3) (k + 1), sArr 16, sArr 7, sArr 7, sArr 7]) (by simp only [List.append_assoc, List.cons_append, List.nil_append]) ?_
  refine x_putR (b := k + 3) (j := 1) (pc' := 30) hC rfl kf_X1_23 ⟨_, rfl, rfl⟩ dX1_init_27 (xget0 hk) (Nat.le_of_ble_eq_true rfl) (fun _ => rfl) (fun _ => rfl) rfl ?_
  refine x_S (S' := P ++ [.inl (1, [some (some (k + 1)), some (some (k + 3)), some none, none, none]), sPln (k + 1), sArr 7, sStd (k + 3) (k + 1), sArr 16, sArr 7, sArr 7, sArr 7]) (xset0 hk) ?_
  refine x_aload_n (pc' := 31) hC dX1_init_30 rfl rfl ?_
  refine x_iconst (pc' := 32) hC dX1_init_31 rfl ?_
  refine x_newI (n := 3) (k := k + 8) (pc' := 34) hC dX1_init_32 rfl (by decide) (by simp [hk]) (by omega) ⟨Nat.le_of_ble_eq_true rfl, Nat.le_of_ble_eq_true rfl⟩ rfl ?_
  refine x_S (S' := P ++ [.inl (1, [some (some (k + 1)), some (some (k + 3)), some none, none, none]), sPln (k + 1), sArr 7, sStd (k + 3) (k + 1), sArr 16, sArr 7, sArr 7, sArr 7, .inr (.inl (false, 3))]) (by simp only [List.append_assoc, List.cons_append, List.nil_append]) ?_
  refine x_putR (b := k + 8) (j := 2) (pc' := 37) hC rfl kf_X1_27 ⟨_, rfl, rfl⟩ dX1_init_34 (xget0 hk) (Nat.le_of_ble_eq_true rfl) (fun _ => rfl) (fun _ => rfl) rfl ?_
  refine x_S (S' := P ++ [.inl (1, [some (some (k + 1)), some (some (k + 3)), some (some (k + 8)), none, none]), sPln (k + 1), sArr 7, sStd (k + 3) (k + 1), sArr 16, sArr 7, sArr 7, sArr 7, .inr (.inl (false, 3))]) (xset0 hk) ?_
  refine x_aload_n (pc' := 38) hC dX1_init_37 rfl rfl ?_
  refine x_iconst (pc' := 39) hC dX1_init_38 rfl ?_
  refine x_putI (j' := 3) (pc' := 42) hC kf_X1_31 dX1_init_39 (xget0 hk) rfl rfl rfl rfl rfl ?_
  refine x_aload_n (pc' := 43) hC dX1_init_42 rfl rfl ?_
  refine x_iconst (pc' := 44) hC dX1_init_43 rfl ?_
  refine x_putI (j' := 4) (pc' := 47) hC kf_X1_35 dX1_init_44 (xget0 hk) rfl rfl rfl rfl rfl ?_
  exact x_vret hC dX1_init_47 (xN.mk (((((((FrI.rf.z (by omega)).tr (h9.1.mono (by omega) (by omega))).z (by omega)).tr (h24.1.mono (by omega) (by omega))).z (by omega)).u (by omega)).u (by omega)))
