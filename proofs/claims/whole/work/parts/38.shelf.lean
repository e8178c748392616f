/-! a Shelf's constructor -/
theorem x_cs {g : xG} {nL : Nat} {p : Program} {l : Launch} {e : Env} {R : Room} {s : State} {m : MethodId} {args : Array Value} {below : List Frame} {meth : Method} {c : Code} {cells slots cells' slots' : Nat} {Q : State → Prop} {S : List xS} {μ : xM} {pc : Nat} {vs : List (Option Value)} {st : List Value} (h1 : cells = cells') (h2 : slots = slots') (k : xX g nL p l e R s m args below meth c cells' slots' Q S μ pc vs st) : xX g nL p l e R s m args below meth c cells slots Q S μ pc vs st := by
  subst h1; subst h2; exact k
def stds (k pl : Nat) : Nat → List xS
  | 0 => []
  | i + 1 => stds k pl i ++ [sStd (k + 2 + 5 * i) pl, sArr 16, sArr 7, sArr 7, sArr 7]
def rowsI (k M i : Nat) : List (Option Nat) := (List.range M).map (fun j => if j < i then some (k + 2 + 5 * j) else none)
def shI (P : List xS) (k pl M i : Nat) : List xS := P ++ (.inl (2, [some (some (k + 1)), none, none]) :: .inr (.inr (rowsI k M i)) :: stds k pl i)
theorem stds_len {k pl : Nat} : ∀ i : Nat, (stds k pl i).length = 5 * i
  | 0 => rfl
  | i + 1 => by rw [stds, List.length_append, stds_len i]; simp; omega
theorem rowsI_len {k M i : Nat} : (rowsI k M i).length = M := by simp [rowsI]
theorem rowsI_0 {k M : Nat} : rowsI k M 0 = List.replicate M none := by
  apply List.ext_getElem?
  intro j
  unfold rowsI
  rw [List.getElem?_map, List.getElem?_replicate]
  by_cases hj : j < M
  · rw [List.getElem?_range hj, if_pos hj]; rfl
  · rw [List.getElem?_eq_none (by simp; omega), if_neg hj]; rfl
theorem rowsI_M {k M : Nat} : rowsI k M M = rowsOf k M := by
  apply List.ext_getElem?
  intro j
  unfold rowsI rowsOf
  rw [List.getElem?_map, List.getElem?_map]
  by_cases hj : j < M
  · rw [List.getElem?_range hj, Option.map_some, Option.map_some, if_pos hj]
  · rw [List.getElem?_eq_none (by simp; omega)]; rfl
theorem rowsI_set {k M i : Nat} (hi : i < M) : (rowsI k M i).set i (some (k + 2 + 5 * i)) = rowsI k M (i + 1) := by
  apply List.ext_getElem?
  intro j
  by_cases hj : i = j
  · subst hj
    rw [List.getElem?_set_self (by rw [rowsI_len]; exact hi)]
    unfold rowsI
    rw [List.getElem?_map, List.getElem?_range hi, Option.map_some, if_pos (by omega)]
  · rw [List.getElem?_set_ne hj]
    unfold rowsI
    rw [List.getElem?_map, List.getElem?_map]
    by_cases hm : j < M
    · rw [List.getElem?_range hm, Option.map_some, Option.map_some]
      by_cases h : j < i
      · rw [if_pos h, if_pos (by omega)]
      · rw [if_neg h, if_neg (by omega)]
    · rw [List.getElem?_eq_none (by simp; omega)]; rfl
theorem shI_len {P : List xS} {k pl M i : Nat} (hk : P.length = k) : (shI P k pl M i).length = k + 2 + 5 * i := by
  unfold shI
  rw [List.length_append, hk, List.length_cons, List.length_cons, stds_len]
  omega
theorem shI_0 {P : List xS} {k pl M i : Nat} (hk : P.length = k) : (shI P k pl M i)[k]? = some (.inl (2, [some (some (k + 1)), none, none])) := xget0 hk
theorem shI_1 {P X : List xS} {k pl M i : Nat} (hk : P.length = k) : (shI P k pl M i ++ X)[k + 1]? = some (.inr (.inr (rowsI k M i))) := by
  unfold shI
  rw [List.append_assoc, List.getElem?_append_right (by omega), show k + 1 - P.length = 1 by omega]
  rfl
theorem shI_2 {P : List xS} {k pl M i : Nat} (hk : P.length = k) : (shI P k pl M i)[k + 1]? = some (.inr (.inr (rowsI k M i))) := by
  have := shI_1 (X := []) (pl := pl) (M := M) (i := i) hk
  rw [List.append_nil] at this
  exact this
theorem shI_st {P : List xS} {k pl M i : Nat} (hk : P.length = k) (hi : i < M) : (shI P k pl M i ++ [sStd (k + 2 + 5 * i) pl, sArr 16, sArr 7, sArr 7, sArr 7]).set (k + 1) (.inr (.inr ((rowsI k M i).set i (some (k + 2 + 5 * i))))) = shI P k pl M (i + 1) := by
  rw [rowsI_set hi]
  unfold shI
  rw [List.append_assoc, List.set_append_right _ _ (by omega), show k + 1 - P.length = 1 by omega]
  rfl
set_option maxRecDepth 100000 in
set_option maxHeartbeats 4000000 in
theorem c_iniF {g : xG} {l : Launch} {P : List xS} {μ : xM} {k M pl : Nat} (hk : P.length = k) (hM : M = 2 ∨ M = 8) : xCt g l yX2_init cX2_init 4 none 2 41 (1 + 5 * M) (M + 44 * M) [vR g k, vR g pl, vI (M : Int)] (P ++ [.inl (2, o0F)]) μ (shI P k pl M M) (xN (fun μ' => FrI k (k + 2 + 5 * M) μ μ' ∧ μ' k 1 = 0 ∧ μ' k 2 = 0)) := by
  refine x_enter (by decide) (Nat.le_of_ble_eq_true rfl) ?_
  intro zp ze zs zm za zb zh zc hC hz0
  have hz1 := hz0.resolve_left (by omega)
  rw [List.length_append, hk] at hz1
  have hz2 : zs.heap.size = g.1 + (k + 1) := hz1
  have loop : ∀ (zn i : Nat) (μ1 : xM) (hi : i ≤ M) (h1 : FrI k (k + 2 + 5 * M) μ μ1) (hs : μ1 k 1 = 0) (hn : μ1 k 2 = 0), M - i < zn → xX g 4 zp l ze { frames := 2, cells := 1 + 5 * M, slots := M + 44 * M, locals := 41 } zs zm za zb zh zc (1 + 5 * i) (M + 44 * i) (MQ zb (xQ g (shI P k pl M M) (xN (fun μ' => FrI k (k + 2 + 5 * M) μ μ' ∧ μ' k 1 = 0 ∧ μ' k 2 = 0))) za zs (1 + 5 * M) (M + 44 * M) (xA0 g)) (shI P k pl M i) μ1 28 [some (vR g k), some (vR g pl), some (vI (M : Int)), some (vI (i : Int))] [] := by
    intro zn
    induction zn with
    | zero => intros; rename_i hz; exact absurd hz (Nat.not_lt_zero _)
    | succ zn ih =>
      intro i μ1 hi h1 hs hn hlt
      refine x_iload_n (pc' := 29) hC dX2_init_28 rfl rfl ?_
      refine x_aload_n (pc' := 30) hC dX2_init_29 rfl rfl ?_
      refine x_getR (pc' := 33) (b := k + 1) hC kf_X2_24 dX2_init_30 (shI_0 hk) rfl rfl ?_
      refine x_alenR (n' := (M : Int)) (pc' := 34) hC dX2_init_33 (shI_2 hk) (by rw [rowsI_len]) rfl ?_
      refine x_icmp_ge (tgt := 57) (pc' := 37) hC dX2_init_34 (by decide) rfl (by omega) (by omega) (fun c => ?_) (fun c => ?_)
      · have e : i = M := by omega
        rw [e]
        exact x_vret hC dX2_init_57 (xN.mk ⟨h1, hs, hn⟩)
      · refine x_aload_n (pc' := 38) hC dX2_init_37 rfl rfl ?_
        refine x_getR (pc' := 41) (b := k + 1) hC kf_X2_24 dX2_init_38 (shI_0 hk) rfl rfl ?_
        refine x_iload_n (pc' := 42) hC dX2_init_41 rfl rfl ?_
        refine x_newO (k := k + 2 + 5 * i) (fs := o0D) (pc' := 45) hC kC4 kk_X2_22 dX2_init_42 zf4 (shI_len hk) (by omega) ⟨by show 1 + 5 * i + 1 ≤ 1 + 5 * M; omega, by show M + 44 * i + 7 ≤ M + 44 * M; omega⟩ rfl ?_
        refine x_dup (pc' := 46) hC dX2_init_45 rfl rfl ?_
        refine x_aload_n (pc' := 47) hC dX2_init_46 rfl rfl ?_
        refine x_callI (pc' := 50) (n := 1) hC (c_iniD (P := shI P k pl M i) (k := k + 2 + 5 * i) (shI_len hk)) ky_X4_init km_X4_init rfl kl_X2_28 dX2_init_47 rfl rfl ⟨Nat.le_of_ble_eq_true rfl, Nat.le_of_ble_eq_true rfl⟩ (Nat.le_of_ble_eq_true rfl) ⟨by show 1 + 5 * i + 1 + 4 ≤ 1 + 5 * M; omega, by show M + 44 * i + 7 + 37 ≤ M + 44 * M; omega⟩ (Or.inr (by rw [List.length_append, shI_len hk]; show zs.heap.size + (1 + 5 * i + 1) = g.1 + (k + 2 + 5 * i + 1); omega)) rfl (x_kn (fun μ2 h2 => ?_))
        refine x_aast (k := k + 1) (kv := k + 2 + 5 * i) (pc' := 51) hC dX2_init_50 (shI_1 hk) ⟨by omega, by rw [rowsI_len]; omega⟩ (by rw [rowsI_len]; omega) (xget0 (shI_len hk)) rfl rfl rfl ?_
        refine x_S (S' := shI P k pl M (i + 1)) (shI_st hk (by omega)) ?_
        refine x_iinc (pc' := 54) hC dX2_init_51 rfl (by decide) rfl rfl ?_
        refine x_goto (tgt := 28) hC dX2_init_54 (by decide) ?_
        refine x_cs (cells' := 1 + 5 * (i + 1)) (slots' := M + 44 * (i + 1)) (by omega) (by omega) ?_
        exact ih (i + 1) μ2 (by omega) ((h1.z (by omega)).tr (h2.1.mono (by omega) (by omega))) (by rw [h2.1 _ _ (by omega), xZ_ne (by omega), hs]) (by rw [h2.1 _ _ (by omega), xZ_ne (by omega), hn]) (by omega)
  refine x_aload_n (pc' := 1) hC dX2_init_0 rfl rfl ?_
  refine x_objInit (pc' := 4) hC kl_X2_1 dX2_init_1 ⟨Nat.le_of_ble_eq_true rfl, Nat.le_of_ble_eq_true rfl⟩ rfl ?_
  refine x_aload_n (pc' := 5) hC dX2_init_4 rfl rfl ?_
  refine x_iconst (pc' := 6) hC dX2_init_5 rfl ?_
  refine x_putI (j' := 1) (pc' := 9) hC kf_X2_7 dX2_init_6 (xget0 hk) rfl rfl rfl rfl rfl ?_
  refine x_aload_n (pc' := 10) hC dX2_init_9 rfl rfl ?_
  refine x_iconst (pc' := 11) hC dX2_init_10 rfl ?_
  refine x_putI (j' := 2) (pc' := 14) hC kf_X2_13 dX2_init_11 (xget0 hk) rfl rfl rfl rfl rfl ?_
  refine x_aload_n (pc' := 15) hC dX2_init_14 rfl rfl ?_
  refine x_iconst (pc' := 16) hC dX2_init_15 rfl ?_
  refine x_iload_n (pc' := 17) hC dX2_init_16 rfl rfl ?_
  refine x_mmax (pc' := 20) hC kl_X2_16 dX2_init_17 (by omega) (by omega) ⟨Nat.le_of_ble_eq_true rfl, Nat.le_of_ble_eq_true rfl⟩ (Nat.le_of_ble_eq_true rfl) ⟨Nat.zero_le _, Nat.zero_le _⟩ rfl ?_
  rw [show max (1 : Int) (M : Int) = M by omega]
  refine x_newR (n := M) (k := k + 1) (pc' := 23) hC kk_X2_22 dX2_init_20 rfl (by omega) (by simp [hk]) (by omega) ⟨by show 0 + 1 ≤ 1 + 5 * M; omega, by show 0 + M ≤ M + 44 * M; omega⟩ rfl ?_
  refine x_S (S' := P ++ [.inl (2, o0F), .inr (.inr (List.replicate M none))]) (by simp only [List.append_assoc, List.cons_append, List.nil_append]) ?_
  refine x_putR (b := k + 1) (j := 0) (pc' := 26) hC rfl kf_X2_24 ⟨_, rfl, rfl⟩ dX2_init_23 (xget0 hk) (Nat.le_of_ble_eq_true rfl) (fun _ => rfl) (fun _ => rfl) rfl ?_
  refine x_S (S' := shI P k pl M 0) (by rw [xset0 hk]; unfold shI; rw [rowsI_0]; rfl) ?_
  refine x_iconst (pc' := 27) hC dX2_init_26 rfl ?_
  refine x_istore_n (pc' := 28) hC dX2_init_27 (by decide) rfl rfl ?_
  refine x_cs (cells' := 1 + 5 * 0) (slots' := M + 44 * 0) (by omega) (by omega) ?_
  exact loop (M + 1) 0 _ (by omega) (((FrI.rf.u (by omega)).u (by omega)).z (by omega)) (by rw [xZ_ne (by omega), xU_nj (by omega), xU_at2]) (by rw [xZ_ne (by omega), xU_at2]) (by omega)
