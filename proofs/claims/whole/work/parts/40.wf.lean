/-! what every call keeps -/
theorem slide_fix {T : Int → Int} {m : Int} (hT : WT T) (hm : 0 ≤ m ∧ m < T 3) : ∀ (n : Nat) (sp : Int) (r : Int → Int), WR T r → ∀ q : Int, (q = 0 ∨ (2 + T 0 ≤ q ∧ q < 18)) → slide T m n sp r q = r q
  | 0, _, _, _, _, _ => rfl
  | n + 1, sp, r, h, q, hq => by
    by_cases hc : 0 < sp ∧ 0 < r (18 + m)
    · have h1 := h.2.1 m hm.1 hm.2
      have h2 := hT.2.1
      have h3 := h.1 (r (18 + m)) (by omega) (by omega)
      rw [slide, if_pos hc, slide_fix hT hm n _ _ (WR_place hT (WR_wax h (by omega) (by omega) (by omega)) hm.1 (by omega)) q hq, up_ne (by omega), up_ne (by omega)]
    · rw [slide, if_neg hc]
theorem goOne_fix {T r : Int → Int} {m : Int} (hT : WT T) (hm : 0 ≤ m ∧ m < T 3) (h : WR T r) {q : Int} (hq : q = 0 ∨ (2 + T 0 ≤ q ∧ q < 18)) : goOne T r m q = r q := by
  unfold goOne
  by_cases h1 : 0 < lack T r m
  · rw [if_pos h1]; exact slide_fix hT hm _ _ _ h q hq
  · rw [if_neg h1]
    by_cases h2 : r (18 + m) < T 0 - 1
    · rw [if_pos h2, up_ne (by omega)]
    · rw [if_neg h2]
theorem goN_fix {T r : Int → Int} (hT : WT T) (h : WR T r) {q : Int} (hq : q = 0 ∨ (2 + T 0 ≤ q ∧ q < 18)) : ∀ k : Nat, (k : Int) ≤ T 3 → goN T r k q = r q
  | 0, _ => rfl
  | k + 1, hk => by rw [goN, goOne_fix hT (by omega) (WR_goN hT h k (by omega)) hq, goN_fix hT h hq k (by omega)]
theorem WRow_goYear {T r : Int → Int} (hT : WT T) (h : WRow T r) (h9 : r 0 + 1 ≤ 999) : WRow T (goYear T r) := by
  have t3 := hT.2.2.1
  have t0 := hT.2.1
  have tz := hT.1
  have g := gov_in (T := T) (r := goN T r (T 3).toNat) hT
  have e0 : goYear T r 0 = r 0 + 1 := by
    show yearUp (fundsUp (reignUp T (goN T r (T 3).toNat))) 0 = _
    unfold yearUp; rw [up_at]; unfold fundsUp; rw [up_ne (by omega)]; unfold reignUp; rw [up_ne (by omega), goN_fix hT h.1 (Or.inl rfl) _ (by omega)]
  refine ⟨WR_goYear hT h.1, by have := h.2.1; omega, by omega, fun j a b => ?_⟩
  show yearUp (fundsUp (reignUp T (goN T r (T 3).toNat))) (2 + j) = 0
  unfold yearUp; rw [up_ne (by omega)]; unfold fundsUp; rw [up_ne (by omega)]; unfold reignUp; rw [up_ne (by omega), goN_fix hT h.1 (Or.inr ⟨by omega, by omega⟩) _ (by omega)]
  exact h.2.2.2 j a b
theorem year_0 {T r : Int → Int} (hT : WT T) (h : WRow T r) : goYear T r 0 = r 0 + 1 := by
  have t3 := hT.2.2.1
  have g := gov_in (T := T) (r := goN T r (T 3).toNat) hT
  show yearUp (fundsUp (reignUp T (goN T r (T 3).toNat))) 0 = _
  unfold yearUp; rw [up_at]; unfold fundsUp; rw [up_ne (by omega)]; unfold reignUp; rw [up_ne (by omega), goN_fix hT h.1 (Or.inl rfl) _ (by omega)]
theorem WRow_goYears {T : Int → Int} (hT : WT T) : ∀ (k : Nat) (r : Int → Int), WRow T r → r 0 + k ≤ 999 → WRow T (goYears T k r)
  | 0, _, h, _ => h
  | k + 1, r, h, h9 => by
    rw [goYears]
    exact WRow_goYears hT k _ (WRow_goYear hT h (by omega)) (by rw [year_0 hT h]; omega)
theorem WRow_up {T r : Int → Int} {k v : Int} (h : WRow T r) (hw : WR T (up r k v)) (h0 : k ≠ 0) (hk : ∀ j : Int, T 0 ≤ j → j < 16 → k ≠ 2 + j) : WRow T (up r k v) :=
  ⟨hw, by rw [up_ne (by omega)]; exact h.2.1, by rw [up_ne (by omega)]; exact h.2.2.1, fun j a b => by rw [up_ne (by have := hk j a b; omega)]; exact h.2.2.2 j a b⟩
theorem WRow_waxBy {T r : Int → Int} {x v : Int} (hT : WT T) (h : WRow T r) (hx : 0 ≤ x ∧ x < T 0) : WRow T (waxBy r x v) := by
  have t1 := hT.2.1
  exact WRow_up h (WR_waxBy h.1 hx.1 (by omega)) (by omega) (fun j a b => by omega)
theorem WF.act {T r r' : Int → Int} {un kp : List (Int → Int)} (h : WF T r un kp) (h' : WRow T r') : WF T r' (push r un) kp :=
  ⟨h.1, h', fun u hu => by
    rcases List.mem_cons.mp (List.mem_of_mem_take hu) with rfl | z
    · exact h.2.1
    · exact h.2.2.1 u z, h.2.2.2⟩
theorem WF.pass {T r : Int → Int} {un kp : List (Int → Int)} {n : Int} (h : WF T r un kp) (z : okPass r n) : WF T (goYears T n.toNat r) (push r un) kp := h.act (WRow_goYears h.1 _ _ h.2.1 (by have := z.2; have := z.1; omega))
theorem WF.wax {T r : Int → Int} {un kp : List (Int → Int)} {x : Int} (h : WF T r un kp) (z : okWax T r x) : WF T (rWax r x) (push r un) kp :=
  h.act (WRow_waxBy h.1 (WRow_up h.2.1 (WR_funds h.2.1.1 (by have := z.2; have := h.2.1.1.2.2; omega)) (by omega) (fun j a b => by have := h.1.1; omega)) z.1)
theorem WF.sand {T r : Int → Int} {un kp : List (Int → Int)} {x : Int} (h : WF T r un kp) (z : okSand T r x) : WF T (rSand r x) (push r un) kp :=
  h.act (WRow_waxBy h.1 (WRow_up h.2.1 (WR_funds h.2.1.1 (by have := z.2; have := h.2.1.1.2.2; omega)) (by omega) (fun j a b => by have := h.1.1; omega)) z.1)
theorem WF.help {T r : Int → Int} {un kp : List (Int → Int)} {m : Int} (h : WF T r un kp) (z : okHelp T r m) : WF T (rHelp r m) (push r un) kp :=
  h.act (WRow_up h.2.1 (WR_place h.1 h.2.1.1 z.1.1 (by have := h.1.1; omega)) (by have := z.1.1; omega) (fun j a b => by have := z.1.1; omega))
theorem WF.undo {T r u : Int → Int} {un kp : List (Int → Int)} (h : WF T r (u :: un) kp) : WF T u un kp := ⟨h.1, h.2.2.1 u List.mem_cons_self, fun w hw => h.2.2.1 w (List.mem_cons_of_mem _ hw), h.2.2.2⟩
theorem WF.back {T r u : Int → Int} {un kp : List (Int → Int)} (h : WF T r un (u :: kp)) : WF T u [] kp := ⟨h.1, h.2.2.2 u List.mem_cons_self, fun w hw => by simp at hw, fun w hw => h.2.2.2 w (List.mem_cons_of_mem _ hw)⟩
theorem WF.keep {T r : Int → Int} {un kp : List (Int → Int)} (h : WF T r un kp) : WF T r un (kKeep r kp) := ⟨h.1, h.2.1, h.2.2.1, fun u hu => by
  unfold kKeep at hu
  split at hu
  · exact h.2.2.2 u hu
  · rcases List.mem_cons.mp hu with rfl | z
    · exact h.2.1
    · exact h.2.2.2 u z⟩
theorem WF_lay {nt : Int} {tx : Int → Int} (z : okLay nt tx) : WF (prsA nt tx).2.1 (prsA nt tx).2.2 [] [] := by
  obtain ⟨os, h⟩ := prsA_PT nt tx
  exact h.WF z.2
/-- the class and the reference stand alike -/
def RR (μ : xM) : Prop := ∃ (T r : Int → Int) (nt : Int) (tx : Int → Int) (un kp : List (Int → Int)) (sl : List (Int × Int)), RC μ T r nt tx un kp sl ∧ RM μ T r nt tx un kp sl ∧ WF T r un kp
/-- the script's numbers -/
def sc (xs : Nat → Int32) (i : Int) : Int := (xs i.toNat).toInt
theorem sc_rg (xs : Nat → Int32) (i : Int) : -2147483648 ≤ sc xs i ∧ sc xs i < 2147483648 := by
  have h1 := Int32.le_toInt (xs i.toNat)
  have h2 := Int32.toInt_lt (xs i.toNat)
  unfold sc
  omega
section XR4
variable {g : xG} {nL : Nat} {p : Program} {l : Launch} {e : Env} {R : Room} {s : State} {m : MethodId} {args : Array Value} {below : List Frame} {meth : Method} {c : Code} {cells slots : Nat} {Q : State → Prop} {S : List xS} {μ : xM} {pc pc' : Nat} {vs : List (Option Value)} {st rest : List Value} {cc : ByteArray} {own nm : String} {ret : Option FieldType}
theorem x_same (hC : xCtx g p s m args meth c cc nL own nm ret) {a b off : Int} {tgt : Nat} (hd : decode cc pc = .ok (.if_icmp .eq off, 3)) (ht : (pc : Int) + off = (tgt : Int)) (hab : a = b) (kt : xX g nL p l e R s m args below meth c cells slots Q S μ tgt vs st) : xX g nL p l e R s m args below meth c cells slots Q S μ pc vs (vI b :: vI a :: st) := by
  subst hab; exact fun H locs ls hl hW hS => lv_icmp_eq hC.1 hC.2.1 hd ht (fun _ => kt H locs ls hl hW hS) (fun z => absurd rfl z)
theorem x_slen (hC : xCtx g p s m args meth c cc nL own nm ret) {b L : Nat} {xs : Nat → Int32} (hX : va_X b L xs s s.heap) (hb : b < s.heap.size) (hg : g.1 = s.heap.size) (hd : decode cc pc = .ok (.arraylength, 1)) (hp : pc + 1 = pc') (k : xX g nL p l e R s m args below meth c cells slots Q S μ pc' vs (vI (L : Int) :: st)) : xX g nL p l e R s m args below meth c cells slots Q S μ pc vs (.ref b :: st) := by
  subst hp
  have e : vI (L : Int) = .int (Int32.ofNat L) := by
    unfold vI
    rw [← Int32.ofInt_eq_ofNat]
  rw [e] at k
  exact fun H locs ls hl hW hS => va_slen hC.1 hC.2.1 hX hb (by show ¬ g.1 ≤ b; omega) hS hd (k H locs ls hl hW hS)
theorem x_sld (hC : xCtx g p s m args meth c cc nL own nm ret) {b L : Nat} {xs : Nat → Int32} {i : Int} (hX : va_X b L xs s s.heap) (hb : b < s.heap.size) (hg : g.1 = s.heap.size) (hL : L ≤ 2560) (hi : 0 ≤ i ∧ i < L) (hd : decode cc pc = .ok (.iaload, 1)) (hp : pc + 1 = pc') (k : xX g nL p l e R s m args below meth c cells slots Q S μ pc' vs (vI (sc xs i) :: st)) : xX g nL p l e R s m args below meth c cells slots Q S μ pc vs (vI i :: .ref b :: st) := by
  subst hp
  have hcl : (Int32.ofInt i).toNatClampNeg = i.toNat := by
    have := i_cl (a := i) (by omega)
    omega
  have e : vI (sc xs i) = .int (xs (Int32.ofInt i).toNatClampNeg) := by
    unfold vI sc
    rw [i_back, hcl]
  rw [e] at k
  exact fun H locs ls hl hW hS => va_sld hC.1 hC.2.1 hX hb (by show ¬ g.1 ≤ b; omega) hS (i_in hi (by omega)) hd (k H locs ls hl hW hS)
end XR4
