def R_law : String := "BannisterCabinetLaw"
def lw_P (b : Addr) (xs : List Int32) (args : Array Value) (s : State) : Prop := args = #[.ref b] ∧ s.IntsAt b xs ∧ xs.length ≤ 2560 ∧ (Jvm.Cond.and given_1 narrow_1).before args s = true
def lw_Q (_ : Array Value) (s : State) (o : Outcome) (t : State) : Prop := o = .returned (some (.int 1)) ∧ Framed s o t [] 600000 7302250
def lw_Z (below : List Frame) (a : Array Value) (s : State) : State → Prop := fun t => ∃ o, t.status = .running ∧ Ended t below o ∧ lw_Q a s o t
/-- the law's own end, with 1 on the stack, nothing written that was there before, its room as the claim has it -/
theorem lw_ret {p : Program} {l : Launch} {e : Env} {s : State} {m : MethodId} {below : List Frame} {meth : Method} {c : Code} {b : Nat} (hx : p.tables.exec = Jvm.exec) (hb : c.code = code) (hr : meth.sig.returnType = ret) (hlocks : meth.locks = false) {pc : Nat} {H : Heap} {ls : Array Slot} (hdg : decode code pc = .ok (.ireturn, 1)) : W p l e room_1 s m #[Value.ref b] below meth c H [] 600000 7302250 (lw_Z below #[Value.ref b] s) (F0 m pc ls [.int 1]) := by
  intro T hT X
  obtain ⟨fs, hret, hrun, hended, hW, hframe⟩ := X.leave (v := some (.int 1)) (hlocks := hlocks) (fun h => by rw [hr] at h; cases h)
  have hmeth' : T.vm.method? m = some meth := X.method'
  refine ⟨T.setFrames fs, ?_, .returned (some (.int 1)), hrun, hended, rfl, ⟨_, rfl⟩, hW, hframe⟩
  jvm_step X.here [X.here.top, hx, hb, hdg, hmeth', hr, ret, narrow_b1]
  (try refine ⟨rfl, ?_⟩); (try refine ⟨rfl, ?_⟩)
  first | (intro acts; rw [hret _ acts rfl rfl rfl]) | rw [hret _ _ rfl rfl rfl]
  exact Steps.refl _
/-- what holds at the law's entry: the machine, the code, the tables' words (any of lw_tbl by 'hts w (by decide +kernel)'), the script of L ints xs at the cell b, what the Statement gives of the start (any of its parts by flat_of_before) -/
def lw_At (p : Program) (s : State) (m : MethodId) (meth : Method) (c : Code) (b L : Nat) (xs : Nat → Int32) : Prop :=
  p.tables.exec = Jvm.exec ∧ c.code = code ∧ meth.sig.returnType = ret ∧ c.maxLocals = 4 ∧ s.vm.findClass R_law = some m.cls ∧ (∀ w ∈ lw_tbl, w.before #[Value.ref b] s = true) ∧ va_X b L xs s s.heap ∧ b < s.heap.size ∧ meth.locks = false ∧ (Jvm.Cond.and given_1 narrow_1).before #[Value.ref b] s = true
/-- the law's walk at the script's place i -/
abbrev xLw (g : xG) (p : Program) (l : Launch) (e : Env) (s : State) (m : MethodId) (below : List Frame) (meth : Method) (c : Code) (b : Nat) (i : Int) (μ : xM) (pc : Nat) (st : List Value) : Prop := xX g 4 p l e room_1 s m #[Value.ref b] below meth c 92 1528 (lw_Z below #[Value.ref b] s) (xSC ++ xSM) μ pc [some (.ref b), some (vR g 0), some (vR g 81), some (vI i)] st
theorem xP_all : xPre (xSC ++ xSM) := fun k sh h => by rw [List.getElem?_append_left (List.getElem?_eq_some_iff.mp h).1]; exact h
theorem xM_all : xPreM (xSC ++ xSM) := fun k sh h => by
  have e : xSC.length = 81 := rfl
  rw [List.getElem?_append_right (by omega), e, show 81 + k - 81 = k by omega]; exact h
set_option maxRecDepth 100000 in
set_option maxHeartbeats 4000000 in
theorem lc_write {p : Program} {e : Env} {s : State} {m : MethodId} {below : List Frame} {meth : Method} {c : Code} {l : Launch} {b L : Nat} {xs : Nat → Int32} {g : xG} {nm : String} {i : Int} {μ : xM} (hL : L ≤ 2560) (hX : va_X b L xs s s.heap) (hb : b < s.heap.size) (hg : g.1 = s.heap.size) (hC : xCtx g p s m #[Value.ref b] meth c cL_law 4 RL nm ret) (hi : 0 ≤ i ∧ i + 5 ≤ L) (h : RR μ) (again : ∀ μ2 : xM, RR μ2 → xLw g p l e s m below meth c b i μ2 854 []) : xLw g p l e s m below meth c b i μ 160 [] := by
  obtain ⟨T, r, nt, tx, un, kp, sl, hA, hB, hF⟩ := h
  refine x_aload_n (pc' := 161) hC dL_law_160 rfl rfl ?_
  refine x_aloadQ (pc' := 162) hC dL_law_161 rfl rfl ?_
  refine x_iload_n (pc' := 163) hC dL_law_162 rfl rfl ?_
  refine x_iconst (pc' := 164) hC dL_law_163 rfl ?_
  refine x_iadd (pc' := 165) hC dL_law_164 rfl ?_
  refine x_sld (pc' := 166) hC hX hb hg hL (by omega) dL_law_165 rfl ?_
  refine x_callV (pc' := 169) (n := 1) hC (k_write xP_all hA hF (sc_rg xs _)) ky_X6_write kv_X6_write kl_L_13 dL_law_166 (xP_all 0 _ rfl) rfl rfl rfl rfl ⟨Nat.le_of_ble_eq_true rfl, Nat.le_of_ble_eq_true rfl⟩ (Nat.le_of_ble_eq_true rfl) ⟨Nat.le_of_ble_eq_true rfl, Nat.le_of_ble_eq_true rfl⟩ (Or.inl rfl) rfl (x_ki (fun a1 μ1 h1 => ?_))
  have hB1 := hB.scr (h1.2.2) (Or.inr (by omega))
  refine x_aload_n (pc' := 170) hC dL_law_169 rfl rfl ?_
  refine x_aloadQ (pc' := 171) hC dL_law_170 rfl rfl ?_
  refine x_iload_n (pc' := 172) hC dL_law_171 rfl rfl ?_
  refine x_iconst (pc' := 173) hC dL_law_172 rfl ?_
  refine x_iadd (pc' := 174) hC dL_law_173 rfl ?_
  refine x_sld (pc' := 175) hC hX hb hg hL (by omega) dL_law_174 rfl ?_
  refine x_callV (pc' := 178) (n := 1) hC (q_write xM_all hB1 hF (sc_rg xs _)) ky_X7_write kv_X7_write kl_L_17 dL_law_175 (xM_all 0 _ rfl) rfl rfl rfl rfl ⟨Nat.le_of_ble_eq_true rfl, Nat.le_of_ble_eq_true rfl⟩ (Nat.le_of_ble_eq_true rfl) ⟨Nat.le_of_ble_eq_true rfl, Nat.le_of_ble_eq_true rfl⟩ (Or.inl rfl) rfl (x_ki (fun a2 μ2 h2 => ?_))
  exact x_same (tgt := 854) hC dL_law_178 (by decide) (h1.1.trans h2.1.symm) (again μ2 ⟨_, _, _, _, _, _, _, h1.2.1.scr h2.2.2 (by omega), h2.2.1, hF⟩)
set_option maxRecDepth 100000 in
set_option maxHeartbeats 4000000 in
theorem lc_wipe {p : Program} {e : Env} {s : State} {m : MethodId} {below : List Frame} {meth : Method} {c : Code} {l : Launch} {b L : Nat} {xs : Nat → Int32} {g : xG} {nm : String} {i : Int} {μ : xM} (hL : L ≤ 2560) (hX : va_X b L xs s s.heap) (hb : b < s.heap.size) (hg : g.1 = s.heap.size) (hC : xCtx g p s m #[Value.ref b] meth c cL_law 4 RL nm ret) (hi : 0 ≤ i ∧ i + 5 ≤ L) (h : RR μ) (again : ∀ μ2 : xM, RR μ2 → xLw g p l e s m below meth c b i μ2 854 []) : xLw g p l e s m below meth c b i μ 183 [] := by
  obtain ⟨T, r, nt, tx, un, kp, sl, hA, hB, hF⟩ := h
  refine x_aload_n (pc' := 184) hC dL_law_183 rfl rfl ?_
  refine x_callV (pc' := 187) (n := 0) hC (k_wipe xP_all hA hF) ky_X6_wipe kv_X6_wipe kl_L_18 dL_law_184 (xP_all 0 _ rfl) rfl rfl rfl rfl ⟨Nat.le_of_ble_eq_true rfl, Nat.le_of_ble_eq_true rfl⟩ (Nat.le_of_ble_eq_true rfl) ⟨Nat.le_of_ble_eq_true rfl, Nat.le_of_ble_eq_true rfl⟩ (Or.inl rfl) rfl (x_ki (fun a1 μ1 h1 => ?_))
  have hB1 := hB.scr (h1.2.2) (Or.inr (by omega))
  refine x_aload_n (pc' := 188) hC dL_law_187 rfl rfl ?_
  refine x_callV (pc' := 191) (n := 0) hC (q_wipe xM_all hB1 hF) ky_X7_wipe kv_X7_wipe kl_L_22 dL_law_188 (xM_all 0 _ rfl) rfl rfl rfl rfl ⟨Nat.le_of_ble_eq_true rfl, Nat.le_of_ble_eq_true rfl⟩ (Nat.le_of_ble_eq_true rfl) ⟨Nat.le_of_ble_eq_true rfl, Nat.le_of_ble_eq_true rfl⟩ (Or.inl rfl) rfl (x_ki (fun a2 μ2 h2 => ?_))
  exact x_same (tgt := 854) hC dL_law_191 (by decide) (h1.1.trans h2.1.symm) (again μ2 ⟨_, _, _, _, _, _, _, h1.2.1.scr h2.2.2 (by omega), h2.2.1, hF⟩)
set_option maxRecDepth 100000 in
set_option maxHeartbeats 4000000 in
theorem lc_fault {p : Program} {e : Env} {s : State} {m : MethodId} {below : List Frame} {meth : Method} {c : Code} {l : Launch} {b L : Nat} {xs : Nat → Int32} {g : xG} {nm : String} {i : Int} {μ : xM} (hL : L ≤ 2560) (hX : va_X b L xs s s.heap) (hb : b < s.heap.size) (hg : g.1 = s.heap.size) (hC : xCtx g p s m #[Value.ref b] meth c cL_law 4 RL nm ret) (hi : 0 ≤ i ∧ i + 5 ≤ L) (h : RR μ) (again : ∀ μ2 : xM, RR μ2 → xLw g p l e s m below meth c b i μ2 854 []) : xLw g p l e s m below meth c b i μ 196 [] := by
  obtain ⟨T, r, nt, tx, un, kp, sl, hA, hB, hF⟩ := h
  refine x_aload_n (pc' := 197) hC dL_law_196 rfl rfl ?_
  refine x_callV (pc' := 200) (n := 0) hC (k_fault xP_all hA hF) ky_X6_fault kv_X6_fault kl_L_23 dL_law_197 (xP_all 0 _ rfl) rfl rfl rfl rfl ⟨Nat.le_of_ble_eq_true rfl, Nat.le_of_ble_eq_true rfl⟩ (Nat.le_of_ble_eq_true rfl) ⟨Nat.le_of_ble_eq_true rfl, Nat.le_of_ble_eq_true rfl⟩ (Or.inl rfl) rfl (x_ki (fun a1 μ1 h1 => ?_))
  have hB1 := hB.scr (h1.2.2) (Or.inr (by omega))
  refine x_aload_n (pc' := 201) hC dL_law_200 rfl rfl ?_
  refine x_callV (pc' := 204) (n := 0) hC (q_fault xM_all hB1 hF) ky_X7_fault kv_X7_fault kl_L_26 dL_law_201 (xM_all 0 _ rfl) rfl rfl rfl rfl ⟨Nat.le_of_ble_eq_true rfl, Nat.le_of_ble_eq_true rfl⟩ (Nat.le_of_ble_eq_true rfl) ⟨Nat.le_of_ble_eq_true rfl, Nat.le_of_ble_eq_true rfl⟩ (Or.inl rfl) rfl (x_ki (fun a2 μ2 h2 => ?_))
  exact x_same (tgt := 854) hC dL_law_204 (by decide) (h1.1.trans h2.1.symm) (again μ2 ⟨_, _, _, _, _, _, _, h1.2.1.scr h2.2.2 (by omega), h2.2.1, hF⟩)
set_option maxRecDepth 100000 in
set_option maxHeartbeats 4000000 in
theorem lc_lay {p : Program} {e : Env} {s : State} {m : MethodId} {below : List Frame} {meth : Method} {c : Code} {l : Launch} {b L : Nat} {xs : Nat → Int32} {g : xG} {nm : String} {i : Int} {μ : xM} (hL : L ≤ 2560) (hX : va_X b L xs s s.heap) (hb : b < s.heap.size) (hg : g.1 = s.heap.size) (hC : xCtx g p s m #[Value.ref b] meth c cL_law 4 RL nm ret) (hi : 0 ≤ i ∧ i + 5 ≤ L) (h : RR μ) (again : ∀ μ2 : xM, RR μ2 → xLw g p l e s m below meth c b i μ2 854 []) : xLw g p l e s m below meth c b i μ 209 [] := by
  obtain ⟨T, r, nt, tx, un, kp, sl, hA, hB, hF⟩ := h
  refine x_aload_n (pc' := 210) hC dL_law_209 rfl rfl ?_
  refine x_callV (pc' := 213) (n := 0) hC (k_lay xP_all hA hF) ky_X6_lay kv_X6_lay kl_L_27 dL_law_210 (xP_all 0 _ rfl) rfl rfl rfl rfl ⟨Nat.le_of_ble_eq_true rfl, Nat.le_of_ble_eq_true rfl⟩ (Nat.le_of_ble_eq_true rfl) ⟨Nat.le_of_ble_eq_true rfl, Nat.le_of_ble_eq_true rfl⟩ (Or.inl rfl) rfl (x_ki (fun a1 μ1 h1 => ?_))
  have hB1 := hB.scr (h1.2.2.2) (Or.inr (by omega))
  refine x_aload_n (pc' := 214) hC dL_law_213 rfl rfl ?_
  refine x_callV (pc' := 217) (n := 0) hC (q_lay xM_all hB1 hF) ky_X7_lay kv_X7_lay kl_L_30 dL_law_214 (xM_all 0 _ rfl) rfl rfl rfl rfl ⟨Nat.le_of_ble_eq_true rfl, Nat.le_of_ble_eq_true rfl⟩ (Nat.le_of_ble_eq_true rfl) ⟨Nat.le_of_ble_eq_true rfl, Nat.le_of_ble_eq_true rfl⟩ (Or.inl rfl) rfl (x_ki (fun a2 μ2 h2 => ?_))
  exact x_same (tgt := 854) hC dL_law_217 (by decide) (h1.1.trans h2.1.symm) (again μ2 (by
    rcases Classical.em (okLay nt tx) with z | z
    · exact ⟨_, _, _, _, _, _, _, (h1.2.1 z).scr h2.2.2.2 (by omega), h2.2.1 z, WF_lay z⟩
    · exact ⟨_, _, _, _, _, _, _, (h1.2.2.1 z).scr h2.2.2.2 (by omega), h2.2.2.1 z, hF⟩))
set_option maxRecDepth 100000 in
set_option maxHeartbeats 4000000 in
theorem lc_minister {p : Program} {e : Env} {s : State} {m : MethodId} {below : List Frame} {meth : Method} {c : Code} {l : Launch} {b L : Nat} {xs : Nat → Int32} {g : xG} {nm : String} {i : Int} {μ : xM} (hL : L ≤ 2560) (hX : va_X b L xs s s.heap) (hb : b < s.heap.size) (hg : g.1 = s.heap.size) (hC : xCtx g p s m #[Value.ref b] meth c cL_law 4 RL nm ret) (hi : 0 ≤ i ∧ i + 5 ≤ L) (h : RR μ) (again : ∀ μ2 : xM, RR μ2 → xLw g p l e s m below meth c b i μ2 854 []) : xLw g p l e s m below meth c b i μ 222 [] := by
  obtain ⟨T, r, nt, tx, un, kp, sl, hA, hB, hF⟩ := h
  refine x_aload_n (pc' := 223) hC dL_law_222 rfl rfl ?_
  refine x_aloadQ (pc' := 224) hC dL_law_223 rfl rfl ?_
  refine x_iload_n (pc' := 225) hC dL_law_224 rfl rfl ?_
  refine x_iconst (pc' := 226) hC dL_law_225 rfl ?_
  refine x_iadd (pc' := 227) hC dL_law_226 rfl ?_
  refine x_sld (pc' := 228) hC hX hb hg hL (by omega) dL_law_227 rfl ?_
  refine x_aloadQ (pc' := 229) hC dL_law_228 rfl rfl ?_
  refine x_iload_n (pc' := 230) hC dL_law_229 rfl rfl ?_
  refine x_iconst (pc' := 231) hC dL_law_230 rfl ?_
  refine x_iadd (pc' := 232) hC dL_law_231 rfl ?_
  refine x_sld (pc' := 233) hC hX hb hg hL (by omega) dL_law_232 rfl ?_
  refine x_callV (pc' := 236) (n := 2) hC (k_minister xP_all hA hF (sc_rg xs _) (sc_rg xs _)) ky_X6_minister kv_X6_minister kl_L_31 dL_law_233 (xP_all 0 _ rfl) rfl rfl rfl rfl ⟨Nat.le_of_ble_eq_true rfl, Nat.le_of_ble_eq_true rfl⟩ (Nat.le_of_ble_eq_true rfl) ⟨Nat.le_of_ble_eq_true rfl, Nat.le_of_ble_eq_true rfl⟩ (Or.inl rfl) rfl (x_ki (fun a1 μ1 h1 => ?_))
  have hB1 := hB.scr (h1.2.2) (Or.inr (by omega))
  refine x_aload_n (pc' := 237) hC dL_law_236 rfl rfl ?_
  refine x_aloadQ (pc' := 238) hC dL_law_237 rfl rfl ?_
  refine x_iload_n (pc' := 239) hC dL_law_238 rfl rfl ?_
  refine x_iconst (pc' := 240) hC dL_law_239 rfl ?_
  refine x_iadd (pc' := 241) hC dL_law_240 rfl ?_
  refine x_sld (pc' := 242) hC hX hb hg hL (by omega) dL_law_241 rfl ?_
  refine x_aloadQ (pc' := 243) hC dL_law_242 rfl rfl ?_
  refine x_iload_n (pc' := 244) hC dL_law_243 rfl rfl ?_
  refine x_iconst (pc' := 245) hC dL_law_244 rfl ?_
  refine x_iadd (pc' := 246) hC dL_law_245 rfl ?_
  refine x_sld (pc' := 247) hC hX hb hg hL (by omega) dL_law_246 rfl ?_
  refine x_callV (pc' := 250) (n := 2) hC (q_minister xM_all hB1 hF (sc_rg xs _) (sc_rg xs _)) ky_X7_minister kv_X7_minister kl_L_35 dL_law_247 (xM_all 0 _ rfl) rfl rfl rfl rfl ⟨Nat.le_of_ble_eq_true rfl, Nat.le_of_ble_eq_true rfl⟩ (Nat.le_of_ble_eq_true rfl) ⟨Nat.le_of_ble_eq_true rfl, Nat.le_of_ble_eq_true rfl⟩ (Or.inl rfl) rfl (x_ki (fun a2 μ2 h2 => ?_))
  exact x_same (tgt := 854) hC dL_law_250 (by decide) (h1.1.trans h2.1.symm) (again μ2 ⟨_, _, _, _, _, _, _, h1.2.1.scr h2.2.2 (by omega), h2.2.1, hF⟩)
set_option maxRecDepth 100000 in
set_option maxHeartbeats 4000000 in
theorem lc_step {p : Program} {e : Env} {s : State} {m : MethodId} {below : List Frame} {meth : Method} {c : Code} {l : Launch} {b L : Nat} {xs : Nat → Int32} {g : xG} {nm : String} {i : Int} {μ : xM} (hL : L ≤ 2560) (hX : va_X b L xs s s.heap) (hb : b < s.heap.size) (hg : g.1 = s.heap.size) (hC : xCtx g p s m #[Value.ref b] meth c cL_law 4 RL nm ret) (hi : 0 ≤ i ∧ i + 5 ≤ L) (h : RR μ) (again : ∀ μ2 : xM, RR μ2 → xLw g p l e s m below meth c b i μ2 854 []) : xLw g p l e s m below meth c b i μ 255 [] := by
  obtain ⟨T, r, nt, tx, un, kp, sl, hA, hB, hF⟩ := h
  refine x_aload_n (pc' := 256) hC dL_law_255 rfl rfl ?_
  refine x_aloadQ (pc' := 257) hC dL_law_256 rfl rfl ?_
  refine x_iload_n (pc' := 258) hC dL_law_257 rfl rfl ?_
  refine x_iconst (pc' := 259) hC dL_law_258 rfl ?_
  refine x_iadd (pc' := 260) hC dL_law_259 rfl ?_
  refine x_sld (pc' := 261) hC hX hb hg hL (by omega) dL_law_260 rfl ?_
  refine x_aloadQ (pc' := 262) hC dL_law_261 rfl rfl ?_
  refine x_iload_n (pc' := 263) hC dL_law_262 rfl rfl ?_
  refine x_iconst (pc' := 264) hC dL_law_263 rfl ?_
  refine x_iadd (pc' := 265) hC dL_law_264 rfl ?_
  refine x_sld (pc' := 266) hC hX hb hg hL (by omega) dL_law_265 rfl ?_
  refine x_callV (pc' := 269) (n := 2) hC (k_step xP_all hA hF (sc_rg xs _) (sc_rg xs _)) ky_X6_step kv_X6_step kl_L_36 dL_law_266 (xP_all 0 _ rfl) rfl rfl rfl rfl ⟨Nat.le_of_ble_eq_true rfl, Nat.le_of_ble_eq_true rfl⟩ (Nat.le_of_ble_eq_true rfl) ⟨Nat.le_of_ble_eq_true rfl, Nat.le_of_ble_eq_true rfl⟩ (Or.inl rfl) rfl (x_ki (fun a1 μ1 h1 => ?_))
  have hB1 := hB.scr (h1.2.2) (Or.inr (by omega))
  refine x_aload_n (pc' := 270) hC dL_law_269 rfl rfl ?_
  refine x_aloadQ (pc' := 271) hC dL_law_270 rfl rfl ?_
  refine x_iload_n (pc' := 272) hC dL_law_271 rfl rfl ?_
  refine x_iconst (pc' := 273) hC dL_law_272 rfl ?_
  refine x_iadd (pc' := 274) hC dL_law_273 rfl ?_
  refine x_sld (pc' := 275) hC hX hb hg hL (by omega) dL_law_274 rfl ?_
  refine x_aloadQ (pc' := 276) hC dL_law_275 rfl rfl ?_
  refine x_iload_n (pc' := 277) hC dL_law_276 rfl rfl ?_
  refine x_iconst (pc' := 278) hC dL_law_277 rfl ?_
  refine x_iadd (pc' := 279) hC dL_law_278 rfl ?_
  refine x_sld (pc' := 280) hC hX hb hg hL (by omega) dL_law_279 rfl ?_
  refine x_callV (pc' := 283) (n := 2) hC (q_step xM_all hB1 hF (sc_rg xs _) (sc_rg xs _)) ky_X7_step kv_X7_step kl_L_39 dL_law_280 (xM_all 0 _ rfl) rfl rfl rfl rfl ⟨Nat.le_of_ble_eq_true rfl, Nat.le_of_ble_eq_true rfl⟩ (Nat.le_of_ble_eq_true rfl) ⟨Nat.le_of_ble_eq_true rfl, Nat.le_of_ble_eq_true rfl⟩ (Or.inl rfl) rfl (x_ki (fun a2 μ2 h2 => ?_))
  exact x_same (tgt := 854) hC dL_law_283 (by decide) (h1.1.trans h2.1.symm) (again μ2 ⟨_, _, _, _, _, _, _, h1.2.1.scr h2.2.2 (by omega), h2.2.1, hF⟩)
set_option maxRecDepth 100000 in
set_option maxHeartbeats 4000000 in
theorem lc_pass {p : Program} {e : Env} {s : State} {m : MethodId} {below : List Frame} {meth : Method} {c : Code} {l : Launch} {b L : Nat} {xs : Nat → Int32} {g : xG} {nm : String} {i : Int} {μ : xM} (hL : L ≤ 2560) (hX : va_X b L xs s s.heap) (hb : b < s.heap.size) (hg : g.1 = s.heap.size) (hC : xCtx g p s m #[Value.ref b] meth c cL_law 4 RL nm ret) (hi : 0 ≤ i ∧ i + 5 ≤ L) (h : RR μ) (again : ∀ μ2 : xM, RR μ2 → xLw g p l e s m below meth c b i μ2 854 []) : xLw g p l e s m below meth c b i μ 288 [] := by
  obtain ⟨T, r, nt, tx, un, kp, sl, hA, hB, hF⟩ := h
  refine x_aload_n (pc' := 289) hC dL_law_288 rfl rfl ?_
  refine x_aloadQ (pc' := 290) hC dL_law_289 rfl rfl ?_
  refine x_iload_n (pc' := 291) hC dL_law_290 rfl rfl ?_
  refine x_iconst (pc' := 292) hC dL_law_291 rfl ?_
  refine x_iadd (pc' := 293) hC dL_law_292 rfl ?_
  refine x_sld (pc' := 294) hC hX hb hg hL (by omega) dL_law_293 rfl ?_
  refine x_callV (pc' := 297) (n := 1) hC (k_pass xP_all hA hF (sc_rg xs _)) ky_X6_pass kv_X6_pass kl_L_40 dL_law_294 (xP_all 0 _ rfl) rfl rfl rfl rfl ⟨Nat.le_of_ble_eq_true rfl, Nat.le_of_ble_eq_true rfl⟩ (Nat.le_of_ble_eq_true rfl) ⟨Nat.le_of_ble_eq_true rfl, Nat.le_of_ble_eq_true rfl⟩ (Or.inl rfl) rfl (x_ki (fun a1 μ1 h1 => ?_))
  have hB1 := hB.scr (h1.2.2.2) (Or.inr (by omega))
  refine x_aload_n (pc' := 298) hC dL_law_297 rfl rfl ?_
  refine x_aloadQ (pc' := 299) hC dL_law_298 rfl rfl ?_
  refine x_iload_n (pc' := 300) hC dL_law_299 rfl rfl ?_
  refine x_iconst (pc' := 301) hC dL_law_300 rfl ?_
  refine x_iadd (pc' := 302) hC dL_law_301 rfl ?_
  refine x_sld (pc' := 303) hC hX hb hg hL (by omega) dL_law_302 rfl ?_
  refine x_callV (pc' := 306) (n := 1) hC (q_pass xM_all hB1 hF (sc_rg xs _)) ky_X7_pass kv_X7_pass kl_L_43 dL_law_303 (xM_all 0 _ rfl) rfl rfl rfl rfl ⟨Nat.le_of_ble_eq_true rfl, Nat.le_of_ble_eq_true rfl⟩ (Nat.le_of_ble_eq_true rfl) ⟨Nat.le_of_ble_eq_true rfl, Nat.le_of_ble_eq_true rfl⟩ (Or.inl rfl) rfl (x_ki (fun a2 μ2 h2 => ?_))
  exact x_same (tgt := 854) hC dL_law_306 (by decide) (h1.1.trans h2.1.symm) (again μ2 (by
    rcases Classical.em (okPass r (sc xs (i + 1))) with z | z
    · exact ⟨_, _, _, _, _, _, _, (h1.2.1 z).scr h2.2.2.2 (by omega), h2.2.1 z, hF.pass z⟩
    · exact ⟨_, _, _, _, _, _, _, (h1.2.2.1 z).scr h2.2.2.2 (by omega), h2.2.2.1 z, hF⟩))
set_option maxRecDepth 100000 in
set_option maxHeartbeats 4000000 in
theorem lc_wax {p : Program} {e : Env} {s : State} {m : MethodId} {below : List Frame} {meth : Method} {c : Code} {l : Launch} {b L : Nat} {xs : Nat → Int32} {g : xG} {nm : String} {i : Int} {μ : xM} (hL : L ≤ 2560) (hX : va_X b L xs s s.heap) (hb : b < s.heap.size) (hg : g.1 = s.heap.size) (hC : xCtx g p s m #[Value.ref b] meth c cL_law 4 RL nm ret) (hi : 0 ≤ i ∧ i + 5 ≤ L) (h : RR μ) (again : ∀ μ2 : xM, RR μ2 → xLw g p l e s m below meth c b i μ2 854 []) : xLw g p l e s m below meth c b i μ 311 [] := by
  obtain ⟨T, r, nt, tx, un, kp, sl, hA, hB, hF⟩ := h
  refine x_aload_n (pc' := 312) hC dL_law_311 rfl rfl ?_
  refine x_aloadQ (pc' := 313) hC dL_law_312 rfl rfl ?_
  refine x_iload_n (pc' := 314) hC dL_law_313 rfl rfl ?_
  refine x_iconst (pc' := 315) hC dL_law_314 rfl ?_
  refine x_iadd (pc' := 316) hC dL_law_315 rfl ?_
  refine x_sld (pc' := 317) hC hX hb hg hL (by omega) dL_law_316 rfl ?_
  refine x_callV (pc' := 320) (n := 1) hC (k_wax xP_all hA hF (sc_rg xs _)) ky_X6_wax kv_X6_wax kl_L_44 dL_law_317 (xP_all 0 _ rfl) rfl rfl rfl rfl ⟨Nat.le_of_ble_eq_true rfl, Nat.le_of_ble_eq_true rfl⟩ (Nat.le_of_ble_eq_true rfl) ⟨Nat.le_of_ble_eq_true rfl, Nat.le_of_ble_eq_true rfl⟩ (Or.inl rfl) rfl (x_ki (fun a1 μ1 h1 => ?_))
  have hB1 := hB.scr (h1.2.2.2) (Or.inr (by omega))
  refine x_aload_n (pc' := 321) hC dL_law_320 rfl rfl ?_
  refine x_aloadQ (pc' := 322) hC dL_law_321 rfl rfl ?_
  refine x_iload_n (pc' := 323) hC dL_law_322 rfl rfl ?_
  refine x_iconst (pc' := 324) hC dL_law_323 rfl ?_
  refine x_iadd (pc' := 325) hC dL_law_324 rfl ?_
  refine x_sld (pc' := 326) hC hX hb hg hL (by omega) dL_law_325 rfl ?_
  refine x_callV (pc' := 329) (n := 1) hC (q_wax xM_all hB1 hF (sc_rg xs _)) ky_X7_wax kv_X7_wax kl_L_47 dL_law_326 (xM_all 0 _ rfl) rfl rfl rfl rfl ⟨Nat.le_of_ble_eq_true rfl, Nat.le_of_ble_eq_true rfl⟩ (Nat.le_of_ble_eq_true rfl) ⟨Nat.le_of_ble_eq_true rfl, Nat.le_of_ble_eq_true rfl⟩ (Or.inl rfl) rfl (x_ki (fun a2 μ2 h2 => ?_))
  exact x_same (tgt := 854) hC dL_law_329 (by decide) (h1.1.trans h2.1.symm) (again μ2 (by
    rcases Classical.em (okWax T r (sc xs (i + 1))) with z | z
    · exact ⟨_, _, _, _, _, _, _, (h1.2.1 z).scr h2.2.2.2 (by omega), h2.2.1 z, hF.wax z⟩
    · exact ⟨_, _, _, _, _, _, _, (h1.2.2.1 z).scr h2.2.2.2 (by omega), h2.2.2.1 z, hF⟩))
set_option maxRecDepth 100000 in
set_option maxHeartbeats 4000000 in
theorem lc_sand {p : Program} {e : Env} {s : State} {m : MethodId} {below : List Frame} {meth : Method} {c : Code} {l : Launch} {b L : Nat} {xs : Nat → Int32} {g : xG} {nm : String} {i : Int} {μ : xM} (hL : L ≤ 2560) (hX : va_X b L xs s s.heap) (hb : b < s.heap.size) (hg : g.1 = s.heap.size) (hC : xCtx g p s m #[Value.ref b] meth c cL_law 4 RL nm ret) (hi : 0 ≤ i ∧ i + 5 ≤ L) (h : RR μ) (again : ∀ μ2 : xM, RR μ2 → xLw g p l e s m below meth c b i μ2 854 []) : xLw g p l e s m below meth c b i μ 334 [] := by
  obtain ⟨T, r, nt, tx, un, kp, sl, hA, hB, hF⟩ := h
  refine x_aload_n (pc' := 335) hC dL_law_334 rfl rfl ?_
  refine x_aloadQ (pc' := 336) hC dL_law_335 rfl rfl ?_
  refine x_iload_n (pc' := 337) hC dL_law_336 rfl rfl ?_
  refine x_iconst (pc' := 338) hC dL_law_337 rfl ?_
  refine x_iadd (pc' := 339) hC dL_law_338 rfl ?_
  refine x_sld (pc' := 340) hC hX hb hg hL (by omega) dL_law_339 rfl ?_
  refine x_callV (pc' := 343) (n := 1) hC (k_sand xP_all hA hF (sc_rg xs _)) ky_X6_sand kv_X6_sand kl_L_48 dL_law_340 (xP_all 0 _ rfl) rfl rfl rfl rfl ⟨Nat.le_of_ble_eq_true rfl, Nat.le_of_ble_eq_true rfl⟩ (Nat.le_of_ble_eq_true rfl) ⟨Nat.le_of_ble_eq_true rfl, Nat.le_of_ble_eq_true rfl⟩ (Or.inl rfl) rfl (x_ki (fun a1 μ1 h1 => ?_))
  have hB1 := hB.scr (h1.2.2.2) (Or.inr (by omega))
  refine x_aload_n (pc' := 344) hC dL_law_343 rfl rfl ?_
  refine x_aloadQ (pc' := 345) hC dL_law_344 rfl rfl ?_
  refine x_iload_n (pc' := 346) hC dL_law_345 rfl rfl ?_
  refine x_iconst (pc' := 347) hC dL_law_346 rfl ?_
  refine x_iadd (pc' := 348) hC dL_law_347 rfl ?_
  refine x_sld (pc' := 349) hC hX hb hg hL (by omega) dL_law_348 rfl ?_
  refine x_callV (pc' := 352) (n := 1) hC (q_sand xM_all hB1 hF (sc_rg xs _)) ky_X7_sand kv_X7_sand kl_L_51 dL_law_349 (xM_all 0 _ rfl) rfl rfl rfl rfl ⟨Nat.le_of_ble_eq_true rfl, Nat.le_of_ble_eq_true rfl⟩ (Nat.le_of_ble_eq_true rfl) ⟨Nat.le_of_ble_eq_true rfl, Nat.le_of_ble_eq_true rfl⟩ (Or.inl rfl) rfl (x_ki (fun a2 μ2 h2 => ?_))
  exact x_same (tgt := 854) hC dL_law_352 (by decide) (h1.1.trans h2.1.symm) (again μ2 (by
    rcases Classical.em (okSand T r (sc xs (i + 1))) with z | z
    · exact ⟨_, _, _, _, _, _, _, (h1.2.1 z).scr h2.2.2.2 (by omega), h2.2.1 z, hF.sand z⟩
    · exact ⟨_, _, _, _, _, _, _, (h1.2.2.1 z).scr h2.2.2.2 (by omega), h2.2.2.1 z, hF⟩))
set_option maxRecDepth 100000 in
set_option maxHeartbeats 4000000 in
theorem lc_help {p : Program} {e : Env} {s : State} {m : MethodId} {below : List Frame} {meth : Method} {c : Code} {l : Launch} {b L : Nat} {xs : Nat → Int32} {g : xG} {nm : String} {i : Int} {μ : xM} (hL : L ≤ 2560) (hX : va_X b L xs s s.heap) (hb : b < s.heap.size) (hg : g.1 = s.heap.size) (hC : xCtx g p s m #[Value.ref b] meth c cL_law 4 RL nm ret) (hi : 0 ≤ i ∧ i + 5 ≤ L) (h : RR μ) (again : ∀ μ2 : xM, RR μ2 → xLw g p l e s m below meth c b i μ2 854 []) : xLw g p l e s m below meth c b i μ 357 [] := by
  obtain ⟨T, r, nt, tx, un, kp, sl, hA, hB, hF⟩ := h
  refine x_aload_n (pc' := 358) hC dL_law_357 rfl rfl ?_
  refine x_aloadQ (pc' := 359) hC dL_law_358 rfl rfl ?_
  refine x_iload_n (pc' := 360) hC dL_law_359 rfl rfl ?_
  refine x_iconst (pc' := 361) hC dL_law_360 rfl ?_
  refine x_iadd (pc' := 362) hC dL_law_361 rfl ?_
  refine x_sld (pc' := 363) hC hX hb hg hL (by omega) dL_law_362 rfl ?_
  refine x_callV (pc' := 366) (n := 1) hC (k_help xP_all hA hF (sc_rg xs _)) ky_X6_help kv_X6_help kl_L_52 dL_law_363 (xP_all 0 _ rfl) rfl rfl rfl rfl ⟨Nat.le_of_ble_eq_true rfl, Nat.le_of_ble_eq_true rfl⟩ (Nat.le_of_ble_eq_true rfl) ⟨Nat.le_of_ble_eq_true rfl, Nat.le_of_ble_eq_true rfl⟩ (Or.inl rfl) rfl (x_ki (fun a1 μ1 h1 => ?_))
  have hB1 := hB.scr (h1.2.2.2) (Or.inr (by omega))
  refine x_aload_n (pc' := 367) hC dL_law_366 rfl rfl ?_
  refine x_aloadQ (pc' := 368) hC dL_law_367 rfl rfl ?_
  refine x_iload_n (pc' := 369) hC dL_law_368 rfl rfl ?_
  refine x_iconst (pc' := 370) hC dL_law_369 rfl ?_
  refine x_iadd (pc' := 371) hC dL_law_370 rfl ?_
  refine x_sld (pc' := 372) hC hX hb hg hL (by omega) dL_law_371 rfl ?_
  refine x_callV (pc' := 375) (n := 1) hC (q_help xM_all hB1 hF (sc_rg xs _)) ky_X7_help kv_X7_help kl_L_55 dL_law_372 (xM_all 0 _ rfl) rfl rfl rfl rfl ⟨Nat.le_of_ble_eq_true rfl, Nat.le_of_ble_eq_true rfl⟩ (Nat.le_of_ble_eq_true rfl) ⟨Nat.le_of_ble_eq_true rfl, Nat.le_of_ble_eq_true rfl⟩ (Or.inl rfl) rfl (x_ki (fun a2 μ2 h2 => ?_))
  exact x_same (tgt := 854) hC dL_law_375 (by decide) (h1.1.trans h2.1.symm) (again μ2 (by
    rcases Classical.em (okHelp T r (sc xs (i + 1))) with z | z
    · exact ⟨_, _, _, _, _, _, _, (h1.2.1 z).scr h2.2.2.2 (by omega), h2.2.1 z, hF.help z⟩
    · exact ⟨_, _, _, _, _, _, _, (h1.2.2.1 z).scr h2.2.2.2 (by omega), h2.2.2.1 z, hF⟩))
set_option maxRecDepth 100000 in
set_option maxHeartbeats 4000000 in
theorem lc_undo {p : Program} {e : Env} {s : State} {m : MethodId} {below : List Frame} {meth : Method} {c : Code} {l : Launch} {b L : Nat} {xs : Nat → Int32} {g : xG} {nm : String} {i : Int} {μ : xM} (hL : L ≤ 2560) (hX : va_X b L xs s s.heap) (hb : b < s.heap.size) (hg : g.1 = s.heap.size) (hC : xCtx g p s m #[Value.ref b] meth c cL_law 4 RL nm ret) (hi : 0 ≤ i ∧ i + 5 ≤ L) (h : RR μ) (again : ∀ μ2 : xM, RR μ2 → xLw g p l e s m below meth c b i μ2 854 []) : xLw g p l e s m below meth c b i μ 380 [] := by
  obtain ⟨T, r, nt, tx, un, kp, sl, hA, hB, hF⟩ := h
  cases un with
  | nil =>
    refine x_aload_n (pc' := 381) hC dL_law_380 rfl rfl ?_
    refine x_callV (pc' := 384) (n := 0) hC (k_undo0 xP_all hA hF rfl) ky_X6_undo kv_X6_undo kl_L_56 dL_law_381 (xP_all 0 _ rfl) rfl rfl rfl rfl ⟨Nat.le_of_ble_eq_true rfl, Nat.le_of_ble_eq_true rfl⟩ (Nat.le_of_ble_eq_true rfl) ⟨Nat.le_of_ble_eq_true rfl, Nat.le_of_ble_eq_true rfl⟩ (Or.inl rfl) rfl (x_ki (fun a1 μ1 h1 => ?_))
    have hB1 := hB.scr (h1.2.2) (Or.inr (by omega))
    refine x_aload_n (pc' := 385) hC dL_law_384 rfl rfl ?_
    refine x_callV (pc' := 388) (n := 0) hC (q_undo0 xM_all hB1 hF rfl) ky_X7_undo kv_X7_undo kl_L_59 dL_law_385 (xM_all 0 _ rfl) rfl rfl rfl rfl ⟨Nat.le_of_ble_eq_true rfl, Nat.le_of_ble_eq_true rfl⟩ (Nat.le_of_ble_eq_true rfl) ⟨Nat.le_of_ble_eq_true rfl, Nat.le_of_ble_eq_true rfl⟩ (Or.inl rfl) rfl (x_ki (fun a2 μ2 h2 => ?_))
    exact x_same (tgt := 854) hC dL_law_388 (by decide) (h1.1.trans h2.1.symm) (again μ2 ⟨_, _, _, _, _, _, _, h1.2.1.scr h2.2.2 (by omega), h2.2.1, hF⟩)
  | cons u ls =>
    refine x_aload_n (pc' := 381) hC dL_law_380 rfl rfl ?_
    refine x_callV (pc' := 384) (n := 0) hC (k_undo1 xP_all hA hF rfl) ky_X6_undo kv_X6_undo kl_L_56 dL_law_381 (xP_all 0 _ rfl) rfl rfl rfl rfl ⟨Nat.le_of_ble_eq_true rfl, Nat.le_of_ble_eq_true rfl⟩ (Nat.le_of_ble_eq_true rfl) ⟨Nat.le_of_ble_eq_true rfl, Nat.le_of_ble_eq_true rfl⟩ (Or.inl rfl) rfl (x_ki (fun a1 μ1 h1 => ?_))
    have hB1 := hB.scr (h1.2.2) (Or.inr (by omega))
    refine x_aload_n (pc' := 385) hC dL_law_384 rfl rfl ?_
    refine x_callV (pc' := 388) (n := 0) hC (q_undo1 xM_all hB1 hF rfl) ky_X7_undo kv_X7_undo kl_L_59 dL_law_385 (xM_all 0 _ rfl) rfl rfl rfl rfl ⟨Nat.le_of_ble_eq_true rfl, Nat.le_of_ble_eq_true rfl⟩ (Nat.le_of_ble_eq_true rfl) ⟨Nat.le_of_ble_eq_true rfl, Nat.le_of_ble_eq_true rfl⟩ (Or.inl rfl) rfl (x_ki (fun a2 μ2 h2 => ?_))
    exact x_same (tgt := 854) hC dL_law_388 (by decide) (h1.1.trans h2.1.symm) (again μ2 ⟨_, _, _, _, _, _, _, h1.2.1.scr h2.2.2 (by omega), h2.2.1, hF.undo⟩)
set_option maxRecDepth 100000 in
set_option maxHeartbeats 4000000 in
theorem lc_governs {p : Program} {e : Env} {s : State} {m : MethodId} {below : List Frame} {meth : Method} {c : Code} {l : Launch} {b L : Nat} {xs : Nat → Int32} {g : xG} {nm : String} {i : Int} {μ : xM} (hL : L ≤ 2560) (hX : va_X b L xs s s.heap) (hb : b < s.heap.size) (hg : g.1 = s.heap.size) (hC : xCtx g p s m #[Value.ref b] meth c cL_law 4 RL nm ret) (hi : 0 ≤ i ∧ i + 5 ≤ L) (h : RR μ) (again : ∀ μ2 : xM, RR μ2 → xLw g p l e s m below meth c b i μ2 854 []) : xLw g p l e s m below meth c b i μ 393 [] := by
  obtain ⟨T, r, nt, tx, un, kp, sl, hA, hB, hF⟩ := h
  refine x_aload_n (pc' := 394) hC dL_law_393 rfl rfl ?_
  refine x_callV (pc' := 397) (n := 0) hC (k_governs xP_all hA hF) ky_X6_governs kv_X6_governs kl_L_60 dL_law_394 (xP_all 0 _ rfl) rfl rfl rfl rfl ⟨Nat.le_of_ble_eq_true rfl, Nat.le_of_ble_eq_true rfl⟩ (Nat.le_of_ble_eq_true rfl) ⟨Nat.le_of_ble_eq_true rfl, Nat.le_of_ble_eq_true rfl⟩ (Or.inl rfl) rfl (x_ki (fun a1 μ1 h1 => ?_))
  have hB1 := hB.scr (h1.2.2) (Or.inr (by omega))
  refine x_aload_n (pc' := 398) hC dL_law_397 rfl rfl ?_
  refine x_callV (pc' := 401) (n := 0) hC (m_governs xM_all hF.1 hF.2.1.1 hB1.2.1 hB1.2.2.1) ky_X7_governs kv_X7_governs kl_L_63 dL_law_398 (xM_all 0 _ rfl) rfl rfl rfl rfl ⟨Nat.le_of_ble_eq_true rfl, Nat.le_of_ble_eq_true rfl⟩ (Nat.le_of_ble_eq_true rfl) ⟨Nat.le_of_ble_eq_true rfl, Nat.le_of_ble_eq_true rfl⟩ (Or.inl rfl) rfl (x_ki (fun a2 μ2 h2 => ?_))
  exact x_same (tgt := 854) hC dL_law_401 (by decide) (h1.1.trans h2.1.symm) (again μ2 ⟨_, _, _, _, _, _, _, h1.2.1.scr h2.2 (by omega), hB1.scr h2.2 (by omega), hF⟩)
set_option maxRecDepth 100000 in
set_option maxHeartbeats 4000000 in
theorem lc_behind {p : Program} {e : Env} {s : State} {m : MethodId} {below : List Frame} {meth : Method} {c : Code} {l : Launch} {b L : Nat} {xs : Nat → Int32} {g : xG} {nm : String} {i : Int} {μ : xM} (hL : L ≤ 2560) (hX : va_X b L xs s s.heap) (hb : b < s.heap.size) (hg : g.1 = s.heap.size) (hC : xCtx g p s m #[Value.ref b] meth c cL_law 4 RL nm ret) (hi : 0 ≤ i ∧ i + 5 ≤ L) (h : RR μ) (again : ∀ μ2 : xM, RR μ2 → xLw g p l e s m below meth c b i μ2 854 []) : xLw g p l e s m below meth c b i μ 406 [] := by
  obtain ⟨T, r, nt, tx, un, kp, sl, hA, hB, hF⟩ := h
  refine x_aload_n (pc' := 407) hC dL_law_406 rfl rfl ?_
  refine x_aloadQ (pc' := 408) hC dL_law_407 rfl rfl ?_
  refine x_iload_n (pc' := 409) hC dL_law_408 rfl rfl ?_
  refine x_iconst (pc' := 410) hC dL_law_409 rfl ?_
  refine x_iadd (pc' := 411) hC dL_law_410 rfl ?_
  refine x_sld (pc' := 412) hC hX hb hg hL (by omega) dL_law_411 rfl ?_
  refine x_aloadQ (pc' := 413) hC dL_law_412 rfl rfl ?_
  refine x_iload_n (pc' := 414) hC dL_law_413 rfl rfl ?_
  refine x_iconst (pc' := 415) hC dL_law_414 rfl ?_
  refine x_iadd (pc' := 416) hC dL_law_415 rfl ?_
  refine x_sld (pc' := 417) hC hX hb hg hL (by omega) dL_law_416 rfl ?_
  refine x_aloadQ (pc' := 418) hC dL_law_417 rfl rfl ?_
  refine x_iload_n (pc' := 419) hC dL_law_418 rfl rfl ?_
  refine x_iconst (pc' := 420) hC dL_law_419 rfl ?_
  refine x_iadd (pc' := 421) hC dL_law_420 rfl ?_
  refine x_sld (pc' := 422) hC hX hb hg hL (by omega) dL_law_421 rfl ?_
  refine x_callV (pc' := 425) (n := 3) hC (k_behind xP_all hA hF (sc_rg xs _) (sc_rg xs _) (sc_rg xs _)) ky_X6_behind kv_X6_behind kl_L_64 dL_law_422 (xP_all 0 _ rfl) rfl rfl rfl rfl ⟨Nat.le_of_ble_eq_true rfl, Nat.le_of_ble_eq_true rfl⟩ (Nat.le_of_ble_eq_true rfl) ⟨Nat.le_of_ble_eq_true rfl, Nat.le_of_ble_eq_true rfl⟩ (Or.inl rfl) rfl (x_ki (fun a1 μ1 h1 => ?_))
  have hB1 := hB.scr (h1.2.2) (Or.inr (by omega))
  refine x_aload_n (pc' := 426) hC dL_law_425 rfl rfl ?_
  refine x_aloadQ (pc' := 427) hC dL_law_426 rfl rfl ?_
  refine x_iload_n (pc' := 428) hC dL_law_427 rfl rfl ?_
  refine x_iconst (pc' := 429) hC dL_law_428 rfl ?_
  refine x_iadd (pc' := 430) hC dL_law_429 rfl ?_
  refine x_sld (pc' := 431) hC hX hb hg hL (by omega) dL_law_430 rfl ?_
  refine x_aloadQ (pc' := 432) hC dL_law_431 rfl rfl ?_
  refine x_iload_n (pc' := 433) hC dL_law_432 rfl rfl ?_
  refine x_iconst (pc' := 434) hC dL_law_433 rfl ?_
  refine x_iadd (pc' := 435) hC dL_law_434 rfl ?_
  refine x_sld (pc' := 436) hC hX hb hg hL (by omega) dL_law_435 rfl ?_
  refine x_aloadQ (pc' := 437) hC dL_law_436 rfl rfl ?_
  refine x_iload_n (pc' := 438) hC dL_law_437 rfl rfl ?_
  refine x_iconst (pc' := 439) hC dL_law_438 rfl ?_
  refine x_iadd (pc' := 440) hC dL_law_439 rfl ?_
  refine x_sld (pc' := 441) hC hX hb hg hL (by omega) dL_law_440 rfl ?_
  refine x_callV (pc' := 444) (n := 3) hC (q_behind xM_all hB1 hF (sc_rg xs _) (sc_rg xs _) (sc_rg xs _)) ky_X7_behind kv_X7_behind kl_L_68 dL_law_441 (xM_all 0 _ rfl) rfl rfl rfl rfl ⟨Nat.le_of_ble_eq_true rfl, Nat.le_of_ble_eq_true rfl⟩ (Nat.le_of_ble_eq_true rfl) ⟨Nat.le_of_ble_eq_true rfl, Nat.le_of_ble_eq_true rfl⟩ (Or.inl rfl) rfl (x_ki (fun a2 μ2 h2 => ?_))
  exact x_same (tgt := 854) hC dL_law_444 (by decide) (h1.1.trans h2.1.symm) (again μ2 ⟨_, _, _, _, _, _, _, h1.2.1.scr h2.2.2 (by omega), h2.2.1, hF⟩)
set_option maxRecDepth 100000 in
set_option maxHeartbeats 4000000 in
theorem lc_slide {p : Program} {e : Env} {s : State} {m : MethodId} {below : List Frame} {meth : Method} {c : Code} {l : Launch} {b L : Nat} {xs : Nat → Int32} {g : xG} {nm : String} {i : Int} {μ : xM} (hL : L ≤ 2560) (hX : va_X b L xs s s.heap) (hb : b < s.heap.size) (hg : g.1 = s.heap.size) (hC : xCtx g p s m #[Value.ref b] meth c cL_law 4 RL nm ret) (hi : 0 ≤ i ∧ i + 5 ≤ L) (h : RR μ) (again : ∀ μ2 : xM, RR μ2 → xLw g p l e s m below meth c b i μ2 854 []) : xLw g p l e s m below meth c b i μ 449 [] := by
  obtain ⟨T, r, nt, tx, un, kp, sl, hA, hB, hF⟩ := h
  refine x_aload_n (pc' := 450) hC dL_law_449 rfl rfl ?_
  refine x_aloadQ (pc' := 451) hC dL_law_450 rfl rfl ?_
  refine x_iload_n (pc' := 452) hC dL_law_451 rfl rfl ?_
  refine x_iconst (pc' := 453) hC dL_law_452 rfl ?_
  refine x_iadd (pc' := 454) hC dL_law_453 rfl ?_
  refine x_sld (pc' := 455) hC hX hb hg hL (by omega) dL_law_454 rfl ?_
  refine x_callV (pc' := 458) (n := 1) hC (k_slide xP_all hA hF (sc_rg xs _)) ky_X6_slide kv_X6_slide kl_L_69 dL_law_455 (xP_all 0 _ rfl) rfl rfl rfl rfl ⟨Nat.le_of_ble_eq_true rfl, Nat.le_of_ble_eq_true rfl⟩ (Nat.le_of_ble_eq_true rfl) ⟨Nat.le_of_ble_eq_true rfl, Nat.le_of_ble_eq_true rfl⟩ (Or.inl rfl) rfl (x_ki (fun a1 μ1 h1 => ?_))
  have hB1 := hB.scr (h1.2.2) (Or.inr (by omega))
  refine x_aload_n (pc' := 459) hC dL_law_458 rfl rfl ?_
  refine x_aloadQ (pc' := 460) hC dL_law_459 rfl rfl ?_
  refine x_iload_n (pc' := 461) hC dL_law_460 rfl rfl ?_
  refine x_iconst (pc' := 462) hC dL_law_461 rfl ?_
  refine x_iadd (pc' := 463) hC dL_law_462 rfl ?_
  refine x_sld (pc' := 464) hC hX hb hg hL (by omega) dL_law_463 rfl ?_
  refine x_callV (pc' := 467) (n := 1) hC (q_slide xM_all hB1 hF (sc_rg xs _)) ky_X7_slide kv_X7_slide kl_L_72 dL_law_464 (xM_all 0 _ rfl) rfl rfl rfl rfl ⟨Nat.le_of_ble_eq_true rfl, Nat.le_of_ble_eq_true rfl⟩ (Nat.le_of_ble_eq_true rfl) ⟨Nat.le_of_ble_eq_true rfl, Nat.le_of_ble_eq_true rfl⟩ (Or.inl rfl) rfl (x_ki (fun a2 μ2 h2 => ?_))
  exact x_same (tgt := 854) hC dL_law_467 (by decide) (h1.1.trans h2.1.symm) (again μ2 ⟨_, _, _, _, _, _, _, h1.2.1.scr h2.2.2 (by omega), h2.2.1, hF⟩)
set_option maxRecDepth 100000 in
set_option maxHeartbeats 4000000 in
theorem lc_top {p : Program} {e : Env} {s : State} {m : MethodId} {below : List Frame} {meth : Method} {c : Code} {l : Launch} {b L : Nat} {xs : Nat → Int32} {g : xG} {nm : String} {i : Int} {μ : xM} (hL : L ≤ 2560) (hX : va_X b L xs s s.heap) (hb : b < s.heap.size) (hg : g.1 = s.heap.size) (hC : xCtx g p s m #[Value.ref b] meth c cL_law 4 RL nm ret) (hi : 0 ≤ i ∧ i + 5 ≤ L) (h : RR μ) (again : ∀ μ2 : xM, RR μ2 → xLw g p l e s m below meth c b i μ2 854 []) : xLw g p l e s m below meth c b i μ 472 [] := by
  obtain ⟨T, r, nt, tx, un, kp, sl, hA, hB, hF⟩ := h
  refine x_aload_n (pc' := 473) hC dL_law_472 rfl rfl ?_
  refine x_aloadQ (pc' := 474) hC dL_law_473 rfl rfl ?_
  refine x_iload_n (pc' := 475) hC dL_law_474 rfl rfl ?_
  refine x_iconst (pc' := 476) hC dL_law_475 rfl ?_
  refine x_iadd (pc' := 477) hC dL_law_476 rfl ?_
  refine x_sld (pc' := 478) hC hX hb hg hL (by omega) dL_law_477 rfl ?_
  refine x_callV (pc' := 481) (n := 1) hC (k_top xP_all hA hF (sc_rg xs _)) ky_X6_top kv_X6_top kl_L_73 dL_law_478 (xP_all 0 _ rfl) rfl rfl rfl rfl ⟨Nat.le_of_ble_eq_true rfl, Nat.le_of_ble_eq_true rfl⟩ (Nat.le_of_ble_eq_true rfl) ⟨Nat.le_of_ble_eq_true rfl, Nat.le_of_ble_eq_true rfl⟩ (Or.inl rfl) rfl (x_ki (fun a1 μ1 h1 => ?_))
  have hB1 := hB.scr (h1.2.2) (Or.inr (by omega))
  refine x_aload_n (pc' := 482) hC dL_law_481 rfl rfl ?_
  refine x_aloadQ (pc' := 483) hC dL_law_482 rfl rfl ?_
  refine x_iload_n (pc' := 484) hC dL_law_483 rfl rfl ?_
  refine x_iconst (pc' := 485) hC dL_law_484 rfl ?_
  refine x_iadd (pc' := 486) hC dL_law_485 rfl ?_
  refine x_sld (pc' := 487) hC hX hb hg hL (by omega) dL_law_486 rfl ?_
  refine x_callV (pc' := 490) (n := 1) hC (q_top xM_all hB1 hF (sc_rg xs _)) ky_X7_top kv_X7_top kl_L_76 dL_law_487 (xM_all 0 _ rfl) rfl rfl rfl rfl ⟨Nat.le_of_ble_eq_true rfl, Nat.le_of_ble_eq_true rfl⟩ (Nat.le_of_ble_eq_true rfl) ⟨Nat.le_of_ble_eq_true rfl, Nat.le_of_ble_eq_true rfl⟩ (Or.inl rfl) rfl (x_ki (fun a2 μ2 h2 => ?_))
  exact x_same (tgt := 854) hC dL_law_490 (by decide) (h1.1.trans h2.1.symm) (again μ2 ⟨_, _, _, _, _, _, _, h1.2.1.scr h2.2.2 (by omega), h2.2.1, hF⟩)
set_option maxRecDepth 100000 in
set_option maxHeartbeats 4000000 in
theorem lc_topple {p : Program} {e : Env} {s : State} {m : MethodId} {below : List Frame} {meth : Method} {c : Code} {l : Launch} {b L : Nat} {xs : Nat → Int32} {g : xG} {nm : String} {i : Int} {μ : xM} (hL : L ≤ 2560) (hX : va_X b L xs s s.heap) (hb : b < s.heap.size) (hg : g.1 = s.heap.size) (hC : xCtx g p s m #[Value.ref b] meth c cL_law 4 RL nm ret) (hi : 0 ≤ i ∧ i + 5 ≤ L) (h : RR μ) (again : ∀ μ2 : xM, RR μ2 → xLw g p l e s m below meth c b i μ2 854 []) : xLw g p l e s m below meth c b i μ 495 [] := by
  obtain ⟨T, r, nt, tx, un, kp, sl, hA, hB, hF⟩ := h
  refine x_aload_n (pc' := 496) hC dL_law_495 rfl rfl ?_
  refine x_aloadQ (pc' := 497) hC dL_law_496 rfl rfl ?_
  refine x_iload_n (pc' := 498) hC dL_law_497 rfl rfl ?_
  refine x_iconst (pc' := 499) hC dL_law_498 rfl ?_
  refine x_iadd (pc' := 500) hC dL_law_499 rfl ?_
  refine x_sld (pc' := 501) hC hX hb hg hL (by omega) dL_law_500 rfl ?_
  refine x_callV (pc' := 504) (n := 1) hC (k_topple xP_all hA hF (sc_rg xs _)) ky_X6_topple kv_X6_topple kl_L_77 dL_law_501 (xP_all 0 _ rfl) rfl rfl rfl rfl ⟨Nat.le_of_ble_eq_true rfl, Nat.le_of_ble_eq_true rfl⟩ (Nat.le_of_ble_eq_true rfl) ⟨Nat.le_of_ble_eq_true rfl, Nat.le_of_ble_eq_true rfl⟩ (Or.inl rfl) rfl (x_ki (fun a1 μ1 h1 => ?_))
  have hB1 := hB.scr (h1.2.2) (Or.inr (by omega))
  refine x_aload_n (pc' := 505) hC dL_law_504 rfl rfl ?_
  refine x_aloadQ (pc' := 506) hC dL_law_505 rfl rfl ?_
  refine x_iload_n (pc' := 507) hC dL_law_506 rfl rfl ?_
  refine x_iconst (pc' := 508) hC dL_law_507 rfl ?_
  refine x_iadd (pc' := 509) hC dL_law_508 rfl ?_
  refine x_sld (pc' := 510) hC hX hb hg hL (by omega) dL_law_509 rfl ?_
  refine x_callV (pc' := 513) (n := 1) hC (q_topple xM_all hB1 hF (sc_rg xs _)) ky_X7_topple kv_X7_topple kl_L_80 dL_law_510 (xM_all 0 _ rfl) rfl rfl rfl rfl ⟨Nat.le_of_ble_eq_true rfl, Nat.le_of_ble_eq_true rfl⟩ (Nat.le_of_ble_eq_true rfl) ⟨Nat.le_of_ble_eq_true rfl, Nat.le_of_ble_eq_true rfl⟩ (Or.inl rfl) rfl (x_ki (fun a2 μ2 h2 => ?_))
  exact x_same (tgt := 854) hC dL_law_513 (by decide) (h1.1.trans h2.1.symm) (again μ2 ⟨_, _, _, _, _, _, _, h1.2.1.scr h2.2.2 (by omega), h2.2.1, hF⟩)
set_option maxRecDepth 100000 in
set_option maxHeartbeats 4000000 in
theorem lc_plot {p : Program} {e : Env} {s : State} {m : MethodId} {below : List Frame} {meth : Method} {c : Code} {l : Launch} {b L : Nat} {xs : Nat → Int32} {g : xG} {nm : String} {i : Int} {μ : xM} (hL : L ≤ 2560) (hX : va_X b L xs s s.heap) (hb : b < s.heap.size) (hg : g.1 = s.heap.size) (hC : xCtx g p s m #[Value.ref b] meth c cL_law 4 RL nm ret) (hi : 0 ≤ i ∧ i + 5 ≤ L) (h : RR μ) (again : ∀ μ2 : xM, RR μ2 → xLw g p l e s m below meth c b i μ2 854 []) : xLw g p l e s m below meth c b i μ 518 [] := by
  obtain ⟨T, r, nt, tx, un, kp, sl, hA, hB, hF⟩ := h
  refine x_aload_n (pc' := 519) hC dL_law_518 rfl rfl ?_
  refine x_aloadQ (pc' := 520) hC dL_law_519 rfl rfl ?_
  refine x_iload_n (pc' := 521) hC dL_law_520 rfl rfl ?_
  refine x_iconst (pc' := 522) hC dL_law_521 rfl ?_
  refine x_iadd (pc' := 523) hC dL_law_522 rfl ?_
  refine x_sld (pc' := 524) hC hX hb hg hL (by omega) dL_law_523 rfl ?_
  refine x_aloadQ (pc' := 525) hC dL_law_524 rfl rfl ?_
  refine x_iload_n (pc' := 526) hC dL_law_525 rfl rfl ?_
  refine x_iconst (pc' := 527) hC dL_law_526 rfl ?_
  refine x_iadd (pc' := 528) hC dL_law_527 rfl ?_
  refine x_sld (pc' := 529) hC hX hb hg hL (by omega) dL_law_528 rfl ?_
  refine x_aloadQ (pc' := 530) hC dL_law_529 rfl rfl ?_
  refine x_iload_n (pc' := 531) hC dL_law_530 rfl rfl ?_
  refine x_iconst (pc' := 532) hC dL_law_531 rfl ?_
  refine x_iadd (pc' := 533) hC dL_law_532 rfl ?_
  refine x_sld (pc' := 534) hC hX hb hg hL (by omega) dL_law_533 rfl ?_
  refine x_callV (pc' := 537) (n := 3) hC (k_plot xP_all hA hF (sc_rg xs _) (sc_rg xs _) (sc_rg xs _)) ky_X6_plot kv_X6_plot kl_L_81 dL_law_534 (xP_all 0 _ rfl) rfl rfl rfl rfl ⟨Nat.le_of_ble_eq_true rfl, Nat.le_of_ble_eq_true rfl⟩ (Nat.le_of_ble_eq_true rfl) ⟨Nat.le_of_ble_eq_true rfl, Nat.le_of_ble_eq_true rfl⟩ (Or.inl rfl) rfl (x_ki (fun a1 μ1 h1 => ?_))
  have hB1 := hB.scr (h1.2.2) (Or.inr (by omega))
  refine x_aload_n (pc' := 538) hC dL_law_537 rfl rfl ?_
  refine x_aloadQ (pc' := 539) hC dL_law_538 rfl rfl ?_
  refine x_iload_n (pc' := 540) hC dL_law_539 rfl rfl ?_
  refine x_iconst (pc' := 541) hC dL_law_540 rfl ?_
  refine x_iadd (pc' := 542) hC dL_law_541 rfl ?_
  refine x_sld (pc' := 543) hC hX hb hg hL (by omega) dL_law_542 rfl ?_
  refine x_aloadQ (pc' := 544) hC dL_law_543 rfl rfl ?_
  refine x_iload_n (pc' := 545) hC dL_law_544 rfl rfl ?_
  refine x_iconst (pc' := 546) hC dL_law_545 rfl ?_
  refine x_iadd (pc' := 547) hC dL_law_546 rfl ?_
  refine x_sld (pc' := 548) hC hX hb hg hL (by omega) dL_law_547 rfl ?_
  refine x_aloadQ (pc' := 549) hC dL_law_548 rfl rfl ?_
  refine x_iload_n (pc' := 550) hC dL_law_549 rfl rfl ?_
  refine x_iconst (pc' := 551) hC dL_law_550 rfl ?_
  refine x_iadd (pc' := 552) hC dL_law_551 rfl ?_
  refine x_sld (pc' := 553) hC hX hb hg hL (by omega) dL_law_552 rfl ?_
  refine x_callV (pc' := 556) (n := 3) hC (q_plot xM_all hB1 hF (sc_rg xs _) (sc_rg xs _) (sc_rg xs _)) ky_X7_plot kv_X7_plot kl_L_84 dL_law_553 (xM_all 0 _ rfl) rfl rfl rfl rfl ⟨Nat.le_of_ble_eq_true rfl, Nat.le_of_ble_eq_true rfl⟩ (Nat.le_of_ble_eq_true rfl) ⟨Nat.le_of_ble_eq_true rfl, Nat.le_of_ble_eq_true rfl⟩ (Or.inl rfl) rfl (x_ki (fun a2 μ2 h2 => ?_))
  exact x_same (tgt := 854) hC dL_law_556 (by decide) (h1.1.trans h2.1.symm) (again μ2 ⟨_, _, _, _, _, _, _, h1.2.1.scr h2.2.2 (by omega), h2.2.1, hF⟩)
set_option maxRecDepth 100000 in
set_option maxHeartbeats 4000000 in
theorem lc_hold {p : Program} {e : Env} {s : State} {m : MethodId} {below : List Frame} {meth : Method} {c : Code} {l : Launch} {b L : Nat} {xs : Nat → Int32} {g : xG} {nm : String} {i : Int} {μ : xM} (hL : L ≤ 2560) (hX : va_X b L xs s s.heap) (hb : b < s.heap.size) (hg : g.1 = s.heap.size) (hC : xCtx g p s m #[Value.ref b] meth c cL_law 4 RL nm ret) (hi : 0 ≤ i ∧ i + 5 ≤ L) (h : RR μ) (again : ∀ μ2 : xM, RR μ2 → xLw g p l e s m below meth c b i μ2 854 []) : xLw g p l e s m below meth c b i μ 561 [] := by
  obtain ⟨T, r, nt, tx, un, kp, sl, hA, hB, hF⟩ := h
  refine x_aload_n (pc' := 562) hC dL_law_561 rfl rfl ?_
  refine x_aloadQ (pc' := 563) hC dL_law_562 rfl rfl ?_
  refine x_iload_n (pc' := 564) hC dL_law_563 rfl rfl ?_
  refine x_iconst (pc' := 565) hC dL_law_564 rfl ?_
  refine x_iadd (pc' := 566) hC dL_law_565 rfl ?_
  refine x_sld (pc' := 567) hC hX hb hg hL (by omega) dL_law_566 rfl ?_
  refine x_aloadQ (pc' := 568) hC dL_law_567 rfl rfl ?_
  refine x_iload_n (pc' := 569) hC dL_law_568 rfl rfl ?_
  refine x_iconst (pc' := 570) hC dL_law_569 rfl ?_
  refine x_iadd (pc' := 571) hC dL_law_570 rfl ?_
  refine x_sld (pc' := 572) hC hX hb hg hL (by omega) dL_law_571 rfl ?_
  refine x_callV (pc' := 575) (n := 2) hC (k_hold xP_all hA hF (sc_rg xs _) (sc_rg xs _)) ky_X6_hold kv_X6_hold kl_L_85 dL_law_572 (xP_all 0 _ rfl) rfl rfl rfl rfl ⟨Nat.le_of_ble_eq_true rfl, Nat.le_of_ble_eq_true rfl⟩ (Nat.le_of_ble_eq_true rfl) ⟨Nat.le_of_ble_eq_true rfl, Nat.le_of_ble_eq_true rfl⟩ (Or.inl rfl) rfl (x_ki (fun a1 μ1 h1 => ?_))
  have hB1 := hB.scr (h1.2.2) (Or.inr (by omega))
  refine x_aload_n (pc' := 576) hC dL_law_575 rfl rfl ?_
  refine x_aloadQ (pc' := 577) hC dL_law_576 rfl rfl ?_
  refine x_iload_n (pc' := 578) hC dL_law_577 rfl rfl ?_
  refine x_iconst (pc' := 579) hC dL_law_578 rfl ?_
  refine x_iadd (pc' := 580) hC dL_law_579 rfl ?_
  refine x_sld (pc' := 581) hC hX hb hg hL (by omega) dL_law_580 rfl ?_
  refine x_aloadQ (pc' := 582) hC dL_law_581 rfl rfl ?_
  refine x_iload_n (pc' := 583) hC dL_law_582 rfl rfl ?_
  refine x_iconst (pc' := 584) hC dL_law_583 rfl ?_
  refine x_iadd (pc' := 585) hC dL_law_584 rfl ?_
  refine x_sld (pc' := 586) hC hX hb hg hL (by omega) dL_law_585 rfl ?_
  refine x_callV (pc' := 589) (n := 2) hC (q_hold xM_all hB1 hF (sc_rg xs _) (sc_rg xs _)) ky_X7_hold kv_X7_hold kl_L_88 dL_law_586 (xM_all 0 _ rfl) rfl rfl rfl rfl ⟨Nat.le_of_ble_eq_true rfl, Nat.le_of_ble_eq_true rfl⟩ (Nat.le_of_ble_eq_true rfl) ⟨Nat.le_of_ble_eq_true rfl, Nat.le_of_ble_eq_true rfl⟩ (Or.inl rfl) rfl (x_ki (fun a2 μ2 h2 => ?_))
  exact x_same (tgt := 854) hC dL_law_589 (by decide) (h1.1.trans h2.1.symm) (again μ2 ⟨_, _, _, _, _, _, _, h1.2.1.scr h2.2.2 (by omega), h2.2.1, hF⟩)
set_option maxRecDepth 100000 in
set_option maxHeartbeats 4000000 in
theorem lc_cabinet {p : Program} {e : Env} {s : State} {m : MethodId} {below : List Frame} {meth : Method} {c : Code} {l : Launch} {b L : Nat} {xs : Nat → Int32} {g : xG} {nm : String} {i : Int} {μ : xM} (hL : L ≤ 2560) (hX : va_X b L xs s s.heap) (hb : b < s.heap.size) (hg : g.1 = s.heap.size) (hC : xCtx g p s m #[Value.ref b] meth c cL_law 4 RL nm ret) (hi : 0 ≤ i ∧ i + 5 ≤ L) (h : RR μ) (again : ∀ μ2 : xM, RR μ2 → xLw g p l e s m below meth c b i μ2 854 []) : xLw g p l e s m below meth c b i μ 594 [] := by
  obtain ⟨T, r, nt, tx, un, kp, sl, hA, hB, hF⟩ := h
  refine x_aload_n (pc' := 595) hC dL_law_594 rfl rfl ?_
  refine x_aloadQ (pc' := 596) hC dL_law_595 rfl rfl ?_
  refine x_iload_n (pc' := 597) hC dL_law_596 rfl rfl ?_
  refine x_iconst (pc' := 598) hC dL_law_597 rfl ?_
  refine x_iadd (pc' := 599) hC dL_law_598 rfl ?_
  refine x_sld (pc' := 600) hC hX hb hg hL (by omega) dL_law_599 rfl ?_
  refine x_callV (pc' := 603) (n := 1) hC (k_cabinet xP_all hA hF (sc_rg xs _)) ky_X6_cabinet kv_X6_cabinet kl_L_89 dL_law_600 (xP_all 0 _ rfl) rfl rfl rfl rfl ⟨Nat.le_of_ble_eq_true rfl, Nat.le_of_ble_eq_true rfl⟩ (Nat.le_of_ble_eq_true rfl) ⟨Nat.le_of_ble_eq_true rfl, Nat.le_of_ble_eq_true rfl⟩ (Or.inl rfl) rfl (x_ki (fun a1 μ1 h1 => ?_))
  have hB1 := hB.scr (h1.2.2) (Or.inr (by omega))
  refine x_aload_n (pc' := 604) hC dL_law_603 rfl rfl ?_
  refine x_aloadQ (pc' := 605) hC dL_law_604 rfl rfl ?_
  refine x_iload_n (pc' := 606) hC dL_law_605 rfl rfl ?_
  refine x_iconst (pc' := 607) hC dL_law_606 rfl ?_
  refine x_iadd (pc' := 608) hC dL_law_607 rfl ?_
  refine x_sld (pc' := 609) hC hX hb hg hL (by omega) dL_law_608 rfl ?_
  refine x_callV (pc' := 612) (n := 1) hC (q_cabinet xM_all hB1 hF (sc_rg xs _)) ky_X7_cabinet kv_X7_cabinet kl_L_92 dL_law_609 (xM_all 0 _ rfl) rfl rfl rfl rfl ⟨Nat.le_of_ble_eq_true rfl, Nat.le_of_ble_eq_true rfl⟩ (Nat.le_of_ble_eq_true rfl) ⟨Nat.le_of_ble_eq_true rfl, Nat.le_of_ble_eq_true rfl⟩ (Or.inl rfl) rfl (x_ki (fun a2 μ2 h2 => ?_))
  exact x_same (tgt := 854) hC dL_law_612 (by decide) (h1.1.trans h2.1.symm) (again μ2 ⟨_, _, _, _, _, _, _, h1.2.1.scr h2.2.2 (by omega), h2.2.1, hF⟩)
set_option maxRecDepth 100000 in
set_option maxHeartbeats 4000000 in
theorem lc_seen {p : Program} {e : Env} {s : State} {m : MethodId} {below : List Frame} {meth : Method} {c : Code} {l : Launch} {b L : Nat} {xs : Nat → Int32} {g : xG} {nm : String} {i : Int} {μ : xM} (hL : L ≤ 2560) (hX : va_X b L xs s s.heap) (hb : b < s.heap.size) (hg : g.1 = s.heap.size) (hC : xCtx g p s m #[Value.ref b] meth c cL_law 4 RL nm ret) (hi : 0 ≤ i ∧ i + 5 ≤ L) (h : RR μ) (again : ∀ μ2 : xM, RR μ2 → xLw g p l e s m below meth c b i μ2 854 []) : xLw g p l e s m below meth c b i μ 617 [] := by
  obtain ⟨T, r, nt, tx, un, kp, sl, hA, hB, hF⟩ := h
  refine x_aload_n (pc' := 618) hC dL_law_617 rfl rfl ?_
  refine x_aloadQ (pc' := 619) hC dL_law_618 rfl rfl ?_
  refine x_iload_n (pc' := 620) hC dL_law_619 rfl rfl ?_
  refine x_iconst (pc' := 621) hC dL_law_620 rfl ?_
  refine x_iadd (pc' := 622) hC dL_law_621 rfl ?_
  refine x_sld (pc' := 623) hC hX hb hg hL (by omega) dL_law_622 rfl ?_
  refine x_aloadQ (pc' := 624) hC dL_law_623 rfl rfl ?_
  refine x_iload_n (pc' := 625) hC dL_law_624 rfl rfl ?_
  refine x_iconst (pc' := 626) hC dL_law_625 rfl ?_
  refine x_iadd (pc' := 627) hC dL_law_626 rfl ?_
  refine x_sld (pc' := 628) hC hX hb hg hL (by omega) dL_law_627 rfl ?_
  refine x_callV (pc' := 631) (n := 2) hC (k_seen xP_all hA hF (sc_rg xs _) (sc_rg xs _)) ky_X6_seen kv_X6_seen kl_L_93 dL_law_628 (xP_all 0 _ rfl) rfl rfl rfl rfl ⟨Nat.le_of_ble_eq_true rfl, Nat.le_of_ble_eq_true rfl⟩ (Nat.le_of_ble_eq_true rfl) ⟨Nat.le_of_ble_eq_true rfl, Nat.le_of_ble_eq_true rfl⟩ (Or.inl rfl) rfl (x_ki (fun a1 μ1 h1 => ?_))
  have hB1 := hB.scr (h1.2.2.2) (Or.inr (by omega))
  refine x_aload_n (pc' := 632) hC dL_law_631 rfl rfl ?_
  refine x_aloadQ (pc' := 633) hC dL_law_632 rfl rfl ?_
  refine x_iload_n (pc' := 634) hC dL_law_633 rfl rfl ?_
  refine x_iconst (pc' := 635) hC dL_law_634 rfl ?_
  refine x_iadd (pc' := 636) hC dL_law_635 rfl ?_
  refine x_sld (pc' := 637) hC hX hb hg hL (by omega) dL_law_636 rfl ?_
  refine x_aloadQ (pc' := 638) hC dL_law_637 rfl rfl ?_
  refine x_iload_n (pc' := 639) hC dL_law_638 rfl rfl ?_
  refine x_iconst (pc' := 640) hC dL_law_639 rfl ?_
  refine x_iadd (pc' := 641) hC dL_law_640 rfl ?_
  refine x_sld (pc' := 642) hC hX hb hg hL (by omega) dL_law_641 rfl ?_
  refine x_callV (pc' := 645) (n := 2) hC (q_seen xM_all hB1 hF (sc_rg xs _) (sc_rg xs _)) ky_X7_seen kv_X7_seen kl_L_96 dL_law_642 (xM_all 0 _ rfl) rfl rfl rfl rfl ⟨Nat.le_of_ble_eq_true rfl, Nat.le_of_ble_eq_true rfl⟩ (Nat.le_of_ble_eq_true rfl) ⟨Nat.le_of_ble_eq_true rfl, Nat.le_of_ble_eq_true rfl⟩ (Or.inl rfl) rfl (x_ki (fun a2 μ2 h2 => ?_))
  exact x_same (tgt := 854) hC dL_law_645 (by decide) (h1.1.trans h2.1.symm) (again μ2 (by
    rcases Classical.em (okSeen T sl (sc xs (i + 1)) (sc xs (i + 2))) with z | z
    · exact ⟨_, _, _, _, _, _, _, (h1.2.1 z).scr h2.2.2.2 (by omega), h2.2.1 z, hF⟩
    · exact ⟨_, _, _, _, _, _, _, (h1.2.2.1 z).scr h2.2.2.2 (by omega), h2.2.2.1 z, hF⟩))
set_option maxRecDepth 100000 in
set_option maxHeartbeats 4000000 in
theorem lc_forget {p : Program} {e : Env} {s : State} {m : MethodId} {below : List Frame} {meth : Method} {c : Code} {l : Launch} {b L : Nat} {xs : Nat → Int32} {g : xG} {nm : String} {i : Int} {μ : xM} (hL : L ≤ 2560) (hX : va_X b L xs s s.heap) (hb : b < s.heap.size) (hg : g.1 = s.heap.size) (hC : xCtx g p s m #[Value.ref b] meth c cL_law 4 RL nm ret) (hi : 0 ≤ i ∧ i + 5 ≤ L) (h : RR μ) (again : ∀ μ2 : xM, RR μ2 → xLw g p l e s m below meth c b i μ2 854 []) : xLw g p l e s m below meth c b i μ 650 [] := by
  obtain ⟨T, r, nt, tx, un, kp, sl, hA, hB, hF⟩ := h
  refine x_aload_n (pc' := 651) hC dL_law_650 rfl rfl ?_
  refine x_callV (pc' := 654) (n := 0) hC (k_forget xP_all hA hF) ky_X6_forget kv_X6_forget kl_L_97 dL_law_651 (xP_all 0 _ rfl) rfl rfl rfl rfl ⟨Nat.le_of_ble_eq_true rfl, Nat.le_of_ble_eq_true rfl⟩ (Nat.le_of_ble_eq_true rfl) ⟨Nat.le_of_ble_eq_true rfl, Nat.le_of_ble_eq_true rfl⟩ (Or.inl rfl) rfl (x_ki (fun a1 μ1 h1 => ?_))
  have hB1 := hB.scr (h1.2.2) (Or.inr (by omega))
  refine x_aload_n (pc' := 655) hC dL_law_654 rfl rfl ?_
  refine x_callV (pc' := 658) (n := 0) hC (q_forget xM_all hB1 hF) ky_X7_forget kv_X7_forget kl_L_100 dL_law_655 (xM_all 0 _ rfl) rfl rfl rfl rfl ⟨Nat.le_of_ble_eq_true rfl, Nat.le_of_ble_eq_true rfl⟩ (Nat.le_of_ble_eq_true rfl) ⟨Nat.le_of_ble_eq_true rfl, Nat.le_of_ble_eq_true rfl⟩ (Or.inl rfl) rfl (x_ki (fun a2 μ2 h2 => ?_))
  exact x_same (tgt := 854) hC dL_law_658 (by decide) (h1.1.trans h2.1.symm) (again μ2 ⟨_, _, _, _, _, _, _, h1.2.1.scr h2.2.2 (by omega), h2.2.1, hF⟩)
set_option maxRecDepth 100000 in
set_option maxHeartbeats 4000000 in
theorem lc_waxes {p : Program} {e : Env} {s : State} {m : MethodId} {below : List Frame} {meth : Method} {c : Code} {l : Launch} {b L : Nat} {xs : Nat → Int32} {g : xG} {nm : String} {i : Int} {μ : xM} (hL : L ≤ 2560) (hX : va_X b L xs s s.heap) (hb : b < s.heap.size) (hg : g.1 = s.heap.size) (hC : xCtx g p s m #[Value.ref b] meth c cL_law 4 RL nm ret) (hi : 0 ≤ i ∧ i + 5 ≤ L) (h : RR μ) (again : ∀ μ2 : xM, RR μ2 → xLw g p l e s m below meth c b i μ2 854 []) : xLw g p l e s m below meth c b i μ 663 [] := by
  obtain ⟨T, r, nt, tx, un, kp, sl, hA, hB, hF⟩ := h
  refine x_aload_n (pc' := 664) hC dL_law_663 rfl rfl ?_
  refine x_aloadQ (pc' := 665) hC dL_law_664 rfl rfl ?_
  refine x_iload_n (pc' := 666) hC dL_law_665 rfl rfl ?_
  refine x_iconst (pc' := 667) hC dL_law_666 rfl ?_
  refine x_iadd (pc' := 668) hC dL_law_667 rfl ?_
  refine x_sld (pc' := 669) hC hX hb hg hL (by omega) dL_law_668 rfl ?_
  refine x_callV (pc' := 672) (n := 1) hC (k_waxes xP_all hA hF (sc_rg xs _)) ky_X6_waxes kv_X6_waxes kl_L_101 dL_law_669 (xP_all 0 _ rfl) rfl rfl rfl rfl ⟨Nat.le_of_ble_eq_true rfl, Nat.le_of_ble_eq_true rfl⟩ (Nat.le_of_ble_eq_true rfl) ⟨Nat.le_of_ble_eq_true rfl, Nat.le_of_ble_eq_true rfl⟩ (Or.inl rfl) rfl (x_ki (fun a1 μ1 h1 => ?_))
  have hB1 := hB.scr (h1.2.2) (Or.inr (by omega))
  refine x_aload_n (pc' := 673) hC dL_law_672 rfl rfl ?_
  refine x_aloadQ (pc' := 674) hC dL_law_673 rfl rfl ?_
  refine x_iload_n (pc' := 675) hC dL_law_674 rfl rfl ?_
  refine x_iconst (pc' := 676) hC dL_law_675 rfl ?_
  refine x_iadd (pc' := 677) hC dL_law_676 rfl ?_
  refine x_sld (pc' := 678) hC hX hb hg hL (by omega) dL_law_677 rfl ?_
  refine x_callV (pc' := 681) (n := 1) hC (q_waxes xM_all hB1 hF (sc_rg xs _)) ky_X7_waxes kv_X7_waxes kl_L_104 dL_law_678 (xM_all 0 _ rfl) rfl rfl rfl rfl ⟨Nat.le_of_ble_eq_true rfl, Nat.le_of_ble_eq_true rfl⟩ (Nat.le_of_ble_eq_true rfl) ⟨Nat.le_of_ble_eq_true rfl, Nat.le_of_ble_eq_true rfl⟩ (Or.inl rfl) rfl (x_ki (fun a2 μ2 h2 => ?_))
  exact x_same (tgt := 854) hC dL_law_681 (by decide) (h1.1.trans h2.1.symm) (again μ2 ⟨_, _, _, _, _, _, _, h1.2.1.scr h2.2.2 (by omega), h2.2.1, hF⟩)
set_option maxRecDepth 100000 in
set_option maxHeartbeats 4000000 in
theorem lc_grips {p : Program} {e : Env} {s : State} {m : MethodId} {below : List Frame} {meth : Method} {c : Code} {l : Launch} {b L : Nat} {xs : Nat → Int32} {g : xG} {nm : String} {i : Int} {μ : xM} (hL : L ≤ 2560) (hX : va_X b L xs s s.heap) (hb : b < s.heap.size) (hg : g.1 = s.heap.size) (hC : xCtx g p s m #[Value.ref b] meth c cL_law 4 RL nm ret) (hi : 0 ≤ i ∧ i + 5 ≤ L) (h : RR μ) (again : ∀ μ2 : xM, RR μ2 → xLw g p l e s m below meth c b i μ2 854 []) : xLw g p l e s m below meth c b i μ 686 [] := by
  obtain ⟨T, r, nt, tx, un, kp, sl, hA, hB, hF⟩ := h
  refine x_aload_n (pc' := 687) hC dL_law_686 rfl rfl ?_
  refine x_aloadQ (pc' := 688) hC dL_law_687 rfl rfl ?_
  refine x_iload_n (pc' := 689) hC dL_law_688 rfl rfl ?_
  refine x_iconst (pc' := 690) hC dL_law_689 rfl ?_
  refine x_iadd (pc' := 691) hC dL_law_690 rfl ?_
  refine x_sld (pc' := 692) hC hX hb hg hL (by omega) dL_law_691 rfl ?_
  refine x_callV (pc' := 695) (n := 1) hC (k_grips xP_all hA hF (sc_rg xs _)) ky_X6_grips kv_X6_grips kl_L_105 dL_law_692 (xP_all 0 _ rfl) rfl rfl rfl rfl ⟨Nat.le_of_ble_eq_true rfl, Nat.le_of_ble_eq_true rfl⟩ (Nat.le_of_ble_eq_true rfl) ⟨Nat.le_of_ble_eq_true rfl, Nat.le_of_ble_eq_true rfl⟩ (Or.inl rfl) rfl (x_ki (fun a1 μ1 h1 => ?_))
  have hB1 := hB.scr (h1.2.2) (Or.inr (by omega))
  refine x_aload_n (pc' := 696) hC dL_law_695 rfl rfl ?_
  refine x_aloadQ (pc' := 697) hC dL_law_696 rfl rfl ?_
  refine x_iload_n (pc' := 698) hC dL_law_697 rfl rfl ?_
  refine x_iconst (pc' := 699) hC dL_law_698 rfl ?_
  refine x_iadd (pc' := 700) hC dL_law_699 rfl ?_
  refine x_sld (pc' := 701) hC hX hb hg hL (by omega) dL_law_700 rfl ?_
  refine x_callV (pc' := 704) (n := 1) hC (q_grips xM_all hB1 hF (sc_rg xs _)) ky_X7_grips kv_X7_grips kl_L_108 dL_law_701 (xM_all 0 _ rfl) rfl rfl rfl rfl ⟨Nat.le_of_ble_eq_true rfl, Nat.le_of_ble_eq_true rfl⟩ (Nat.le_of_ble_eq_true rfl) ⟨Nat.le_of_ble_eq_true rfl, Nat.le_of_ble_eq_true rfl⟩ (Or.inl rfl) rfl (x_ki (fun a2 μ2 h2 => ?_))
  exact x_same (tgt := 854) hC dL_law_704 (by decide) (h1.1.trans h2.1.symm) (again μ2 ⟨_, _, _, _, _, _, _, h1.2.1.scr h2.2.2 (by omega), h2.2.1, hF⟩)
set_option maxRecDepth 100000 in
set_option maxHeartbeats 4000000 in
theorem lc_likely {p : Program} {e : Env} {s : State} {m : MethodId} {below : List Frame} {meth : Method} {c : Code} {l : Launch} {b L : Nat} {xs : Nat → Int32} {g : xG} {nm : String} {i : Int} {μ : xM} (hL : L ≤ 2560) (hX : va_X b L xs s s.heap) (hb : b < s.heap.size) (hg : g.1 = s.heap.size) (hC : xCtx g p s m #[Value.ref b] meth c cL_law 4 RL nm ret) (hi : 0 ≤ i ∧ i + 5 ≤ L) (h : RR μ) (again : ∀ μ2 : xM, RR μ2 → xLw g p l e s m below meth c b i μ2 854 []) : xLw g p l e s m below meth c b i μ 709 [] := by
  obtain ⟨T, r, nt, tx, un, kp, sl, hA, hB, hF⟩ := h
  refine x_aload_n (pc' := 710) hC dL_law_709 rfl rfl ?_
  refine x_aloadQ (pc' := 711) hC dL_law_710 rfl rfl ?_
  refine x_iload_n (pc' := 712) hC dL_law_711 rfl rfl ?_
  refine x_iconst (pc' := 713) hC dL_law_712 rfl ?_
  refine x_iadd (pc' := 714) hC dL_law_713 rfl ?_
  refine x_sld (pc' := 715) hC hX hb hg hL (by omega) dL_law_714 rfl ?_
  refine x_aloadQ (pc' := 716) hC dL_law_715 rfl rfl ?_
  refine x_iload_n (pc' := 717) hC dL_law_716 rfl rfl ?_
  refine x_iconst (pc' := 718) hC dL_law_717 rfl ?_
  refine x_iadd (pc' := 719) hC dL_law_718 rfl ?_
  refine x_sld (pc' := 720) hC hX hb hg hL (by omega) dL_law_719 rfl ?_
  refine x_aloadQ (pc' := 721) hC dL_law_720 rfl rfl ?_
  refine x_iload_n (pc' := 722) hC dL_law_721 rfl rfl ?_
  refine x_iconst (pc' := 723) hC dL_law_722 rfl ?_
  refine x_iadd (pc' := 724) hC dL_law_723 rfl ?_
  refine x_sld (pc' := 725) hC hX hb hg hL (by omega) dL_law_724 rfl ?_
  refine x_aloadQ (pc' := 726) hC dL_law_725 rfl rfl ?_
  refine x_iload_n (pc' := 727) hC dL_law_726 rfl rfl ?_
  refine x_iconst (pc' := 728) hC dL_law_727 rfl ?_
  refine x_iadd (pc' := 729) hC dL_law_728 rfl ?_
  refine x_sld (pc' := 730) hC hX hb hg hL (by omega) dL_law_729 rfl ?_
  refine x_callV (pc' := 733) (n := 4) hC (k_likely xP_all hA hF (sc_rg xs _) (sc_rg xs _) (sc_rg xs _) (sc_rg xs _)) ky_X6_likely kv_X6_likely kl_L_109 dL_law_730 (xP_all 0 _ rfl) rfl rfl rfl rfl ⟨Nat.le_of_ble_eq_true rfl, Nat.le_of_ble_eq_true rfl⟩ (Nat.le_of_ble_eq_true rfl) ⟨Nat.le_of_ble_eq_true rfl, Nat.le_of_ble_eq_true rfl⟩ (Or.inl rfl) rfl (x_ki (fun a1 μ1 h1 => ?_))
  have hB1 := hB.scr (h1.2.2) (Or.inr (by omega))
  refine x_aload_n (pc' := 734) hC dL_law_733 rfl rfl ?_
  refine x_aloadQ (pc' := 735) hC dL_law_734 rfl rfl ?_
  refine x_iload_n (pc' := 736) hC dL_law_735 rfl rfl ?_
  refine x_iconst (pc' := 737) hC dL_law_736 rfl ?_
  refine x_iadd (pc' := 738) hC dL_law_737 rfl ?_
  refine x_sld (pc' := 739) hC hX hb hg hL (by omega) dL_law_738 rfl ?_
  refine x_aloadQ (pc' := 740) hC dL_law_739 rfl rfl ?_
  refine x_iload_n (pc' := 741) hC dL_law_740 rfl rfl ?_
  refine x_iconst (pc' := 742) hC dL_law_741 rfl ?_
  refine x_iadd (pc' := 743) hC dL_law_742 rfl ?_
  refine x_sld (pc' := 744) hC hX hb hg hL (by omega) dL_law_743 rfl ?_
  refine x_aloadQ (pc' := 745) hC dL_law_744 rfl rfl ?_
  refine x_iload_n (pc' := 746) hC dL_law_745 rfl rfl ?_
  refine x_iconst (pc' := 747) hC dL_law_746 rfl ?_
  refine x_iadd (pc' := 748) hC dL_law_747 rfl ?_
  refine x_sld (pc' := 749) hC hX hb hg hL (by omega) dL_law_748 rfl ?_
  refine x_aloadQ (pc' := 750) hC dL_law_749 rfl rfl ?_
  refine x_iload_n (pc' := 751) hC dL_law_750 rfl rfl ?_
  refine x_iconst (pc' := 752) hC dL_law_751 rfl ?_
  refine x_iadd (pc' := 753) hC dL_law_752 rfl ?_
  refine x_sld (pc' := 754) hC hX hb hg hL (by omega) dL_law_753 rfl ?_
  refine x_callV (pc' := 757) (n := 4) hC (q_likely xM_all hB1 hF (sc_rg xs _) (sc_rg xs _) (sc_rg xs _) (sc_rg xs _)) ky_X7_likely kv_X7_likely kl_L_113 dL_law_754 (xM_all 0 _ rfl) rfl rfl rfl rfl ⟨Nat.le_of_ble_eq_true rfl, Nat.le_of_ble_eq_true rfl⟩ (Nat.le_of_ble_eq_true rfl) ⟨Nat.le_of_ble_eq_true rfl, Nat.le_of_ble_eq_true rfl⟩ (Or.inl rfl) rfl (x_ki (fun a2 μ2 h2 => ?_))
  exact x_same (tgt := 854) hC dL_law_757 (by decide) (h1.1.trans h2.1.symm) (again μ2 ⟨_, _, _, _, _, _, _, h1.2.1.scr h2.2.2 (by omega), h2.2.1, hF⟩)
set_option maxRecDepth 100000 in
set_option maxHeartbeats 4000000 in
theorem lc_century {p : Program} {e : Env} {s : State} {m : MethodId} {below : List Frame} {meth : Method} {c : Code} {l : Launch} {b L : Nat} {xs : Nat → Int32} {g : xG} {nm : String} {i : Int} {μ : xM} (hL : L ≤ 2560) (hX : va_X b L xs s s.heap) (hb : b < s.heap.size) (hg : g.1 = s.heap.size) (hC : xCtx g p s m #[Value.ref b] meth c cL_law 4 RL nm ret) (hi : 0 ≤ i ∧ i + 5 ≤ L) (h : RR μ) (again : ∀ μ2 : xM, RR μ2 → xLw g p l e s m below meth c b i μ2 854 []) : xLw g p l e s m below meth c b i μ 762 [] := by
  obtain ⟨T, r, nt, tx, un, kp, sl, hA, hB, hF⟩ := h
  refine x_aload_n (pc' := 763) hC dL_law_762 rfl rfl ?_
  refine x_aloadQ (pc' := 764) hC dL_law_763 rfl rfl ?_
  refine x_iload_n (pc' := 765) hC dL_law_764 rfl rfl ?_
  refine x_iconst (pc' := 766) hC dL_law_765 rfl ?_
  refine x_iadd (pc' := 767) hC dL_law_766 rfl ?_
  refine x_sld (pc' := 768) hC hX hb hg hL (by omega) dL_law_767 rfl ?_
  refine x_aloadQ (pc' := 769) hC dL_law_768 rfl rfl ?_
  refine x_iload_n (pc' := 770) hC dL_law_769 rfl rfl ?_
  refine x_iconst (pc' := 771) hC dL_law_770 rfl ?_
  refine x_iadd (pc' := 772) hC dL_law_771 rfl ?_
  refine x_sld (pc' := 773) hC hX hb hg hL (by omega) dL_law_772 rfl ?_
  refine x_aloadQ (pc' := 774) hC dL_law_773 rfl rfl ?_
  refine x_iload_n (pc' := 775) hC dL_law_774 rfl rfl ?_
  refine x_iconst (pc' := 776) hC dL_law_775 rfl ?_
  refine x_iadd (pc' := 777) hC dL_law_776 rfl ?_
  refine x_sld (pc' := 778) hC hX hb hg hL (by omega) dL_law_777 rfl ?_
  refine x_callV (pc' := 781) (n := 3) hC (k_century xP_all hA hF (sc_rg xs _) (sc_rg xs _) (sc_rg xs _)) ky_X6_century kv_X6_century kl_L_114 dL_law_778 (xP_all 0 _ rfl) rfl rfl rfl rfl ⟨Nat.le_of_ble_eq_true rfl, Nat.le_of_ble_eq_true rfl⟩ (Nat.le_of_ble_eq_true rfl) ⟨Nat.le_of_ble_eq_true rfl, Nat.le_of_ble_eq_true rfl⟩ (Or.inl rfl) rfl (x_ki (fun a1 μ1 h1 => ?_))
  have hB1 := hB.scr (h1.2.2) (Or.inr (by omega))
  refine x_aload_n (pc' := 782) hC dL_law_781 rfl rfl ?_
  refine x_aloadQ (pc' := 783) hC dL_law_782 rfl rfl ?_
  refine x_iload_n (pc' := 784) hC dL_law_783 rfl rfl ?_
  refine x_iconst (pc' := 785) hC dL_law_784 rfl ?_
  refine x_iadd (pc' := 786) hC dL_law_785 rfl ?_
  refine x_sld (pc' := 787) hC hX hb hg hL (by omega) dL_law_786 rfl ?_
  refine x_aloadQ (pc' := 788) hC dL_law_787 rfl rfl ?_
  refine x_iload_n (pc' := 789) hC dL_law_788 rfl rfl ?_
  refine x_iconst (pc' := 790) hC dL_law_789 rfl ?_
  refine x_iadd (pc' := 791) hC dL_law_790 rfl ?_
  refine x_sld (pc' := 792) hC hX hb hg hL (by omega) dL_law_791 rfl ?_
  refine x_aloadQ (pc' := 793) hC dL_law_792 rfl rfl ?_
  refine x_iload_n (pc' := 794) hC dL_law_793 rfl rfl ?_
  refine x_iconst (pc' := 795) hC dL_law_794 rfl ?_
  refine x_iadd (pc' := 796) hC dL_law_795 rfl ?_
  refine x_sld (pc' := 797) hC hX hb hg hL (by omega) dL_law_796 rfl ?_
  refine x_callV (pc' := 800) (n := 3) hC (q_century xM_all hB1 hF (sc_rg xs _) (sc_rg xs _) (sc_rg xs _)) ky_X7_century kv_X7_century kl_L_117 dL_law_797 (xM_all 0 _ rfl) rfl rfl rfl rfl ⟨Nat.le_of_ble_eq_true rfl, Nat.le_of_ble_eq_true rfl⟩ (Nat.le_of_ble_eq_true rfl) ⟨Nat.le_of_ble_eq_true rfl, Nat.le_of_ble_eq_true rfl⟩ (Or.inl rfl) rfl (x_ki (fun a2 μ2 h2 => ?_))
  exact x_same (tgt := 854) hC dL_law_800 (by decide) (h1.1.trans h2.1.symm) (again μ2 ⟨_, _, _, _, _, _, _, h1.2.1.scr h2.2.2 (by omega), h2.2.1, hF⟩)
set_option maxRecDepth 100000 in
set_option maxHeartbeats 4000000 in
theorem lc_keep {p : Program} {e : Env} {s : State} {m : MethodId} {below : List Frame} {meth : Method} {c : Code} {l : Launch} {b L : Nat} {xs : Nat → Int32} {g : xG} {nm : String} {i : Int} {μ : xM} (hL : L ≤ 2560) (hX : va_X b L xs s s.heap) (hb : b < s.heap.size) (hg : g.1 = s.heap.size) (hC : xCtx g p s m #[Value.ref b] meth c cL_law 4 RL nm ret) (hi : 0 ≤ i ∧ i + 5 ≤ L) (h : RR μ) (again : ∀ μ2 : xM, RR μ2 → xLw g p l e s m below meth c b i μ2 854 []) : xLw g p l e s m below meth c b i μ 805 [] := by
  obtain ⟨T, r, nt, tx, un, kp, sl, hA, hB, hF⟩ := h
  refine x_aload_n (pc' := 806) hC dL_law_805 rfl rfl ?_
  refine x_callV (pc' := 809) (n := 0) hC (k_keep xP_all hA hF) ky_X6_keep kv_X6_keep kl_L_118 dL_law_806 (xP_all 0 _ rfl) rfl rfl rfl rfl ⟨Nat.le_of_ble_eq_true rfl, Nat.le_of_ble_eq_true rfl⟩ (Nat.le_of_ble_eq_true rfl) ⟨Nat.le_of_ble_eq_true rfl, Nat.le_of_ble_eq_true rfl⟩ (Or.inl rfl) rfl (x_ki (fun a1 μ1 h1 => ?_))
  have hB1 := hB.scr (h1.2.2) (Or.inr (by omega))
  refine x_aload_n (pc' := 810) hC dL_law_809 rfl rfl ?_
  refine x_callV (pc' := 813) (n := 0) hC (q_keep xM_all hB1 hF) ky_X7_keep kv_X7_keep kl_L_121 dL_law_810 (xM_all 0 _ rfl) rfl rfl rfl rfl ⟨Nat.le_of_ble_eq_true rfl, Nat.le_of_ble_eq_true rfl⟩ (Nat.le_of_ble_eq_true rfl) ⟨Nat.le_of_ble_eq_true rfl, Nat.le_of_ble_eq_true rfl⟩ (Or.inl rfl) rfl (x_ki (fun a2 μ2 h2 => ?_))
  exact x_same (tgt := 854) hC dL_law_813 (by decide) (h1.1.trans h2.1.symm) (again μ2 ⟨_, _, _, _, _, _, _, h1.2.1.scr h2.2.2 (by omega), h2.2.1, hF.keep⟩)
set_option maxRecDepth 100000 in
set_option maxHeartbeats 4000000 in
theorem lc_back {p : Program} {e : Env} {s : State} {m : MethodId} {below : List Frame} {meth : Method} {c : Code} {l : Launch} {b L : Nat} {xs : Nat → Int32} {g : xG} {nm : String} {i : Int} {μ : xM} (hL : L ≤ 2560) (hX : va_X b L xs s s.heap) (hb : b < s.heap.size) (hg : g.1 = s.heap.size) (hC : xCtx g p s m #[Value.ref b] meth c cL_law 4 RL nm ret) (hi : 0 ≤ i ∧ i + 5 ≤ L) (h : RR μ) (again : ∀ μ2 : xM, RR μ2 → xLw g p l e s m below meth c b i μ2 854 []) : xLw g p l e s m below meth c b i μ 818 [] := by
  obtain ⟨T, r, nt, tx, un, kp, sl, hA, hB, hF⟩ := h
  cases kp with
  | nil =>
    refine x_aload_n (pc' := 819) hC dL_law_818 rfl rfl ?_
    refine x_callV (pc' := 822) (n := 0) hC (k_back0 xP_all hA hF rfl) ky_X6_back kv_X6_back kl_L_122 dL_law_819 (xP_all 0 _ rfl) rfl rfl rfl rfl ⟨Nat.le_of_ble_eq_true rfl, Nat.le_of_ble_eq_true rfl⟩ (Nat.le_of_ble_eq_true rfl) ⟨Nat.le_of_ble_eq_true rfl, Nat.le_of_ble_eq_true rfl⟩ (Or.inl rfl) rfl (x_ki (fun a1 μ1 h1 => ?_))
    have hB1 := hB.scr (h1.2.2) (Or.inr (by omega))
    refine x_aload_n (pc' := 823) hC dL_law_822 rfl rfl ?_
    refine x_callV (pc' := 826) (n := 0) hC (q_back0 xM_all hB1 hF rfl) ky_X7_back kv_X7_back kl_L_125 dL_law_823 (xM_all 0 _ rfl) rfl rfl rfl rfl ⟨Nat.le_of_ble_eq_true rfl, Nat.le_of_ble_eq_true rfl⟩ (Nat.le_of_ble_eq_true rfl) ⟨Nat.le_of_ble_eq_true rfl, Nat.le_of_ble_eq_true rfl⟩ (Or.inl rfl) rfl (x_ki (fun a2 μ2 h2 => ?_))
    exact x_same (tgt := 854) hC dL_law_826 (by decide) (h1.1.trans h2.1.symm) (again μ2 ⟨_, _, _, _, _, _, _, h1.2.1.scr h2.2.2 (by omega), h2.2.1, hF⟩)
  | cons u ls =>
    refine x_aload_n (pc' := 819) hC dL_law_818 rfl rfl ?_
    refine x_callV (pc' := 822) (n := 0) hC (k_back1 xP_all hA hF rfl) ky_X6_back kv_X6_back kl_L_122 dL_law_819 (xP_all 0 _ rfl) rfl rfl rfl rfl ⟨Nat.le_of_ble_eq_true rfl, Nat.le_of_ble_eq_true rfl⟩ (Nat.le_of_ble_eq_true rfl) ⟨Nat.le_of_ble_eq_true rfl, Nat.le_of_ble_eq_true rfl⟩ (Or.inl rfl) rfl (x_ki (fun a1 μ1 h1 => ?_))
    have hB1 := hB.scr (h1.2.2) (Or.inr (by omega))
    refine x_aload_n (pc' := 823) hC dL_law_822 rfl rfl ?_
    refine x_callV (pc' := 826) (n := 0) hC (q_back1 xM_all hB1 hF rfl) ky_X7_back kv_X7_back kl_L_125 dL_law_823 (xM_all 0 _ rfl) rfl rfl rfl rfl ⟨Nat.le_of_ble_eq_true rfl, Nat.le_of_ble_eq_true rfl⟩ (Nat.le_of_ble_eq_true rfl) ⟨Nat.le_of_ble_eq_true rfl, Nat.le_of_ble_eq_true rfl⟩ (Or.inl rfl) rfl (x_ki (fun a2 μ2 h2 => ?_))
    exact x_same (tgt := 854) hC dL_law_826 (by decide) (h1.1.trans h2.1.symm) (again μ2 ⟨_, _, _, _, _, _, _, h1.2.1.scr h2.2.2 (by omega), h2.2.1, hF.back⟩)
set_option maxRecDepth 100000 in
set_option maxHeartbeats 4000000 in
theorem lc_count {p : Program} {e : Env} {s : State} {m : MethodId} {below : List Frame} {meth : Method} {c : Code} {l : Launch} {b L : Nat} {xs : Nat → Int32} {g : xG} {nm : String} {i : Int} {μ : xM} (hL : L ≤ 2560) (hX : va_X b L xs s s.heap) (hb : b < s.heap.size) (hg : g.1 = s.heap.size) (hC : xCtx g p s m #[Value.ref b] meth c cL_law 4 RL nm ret) (hi : 0 ≤ i ∧ i + 5 ≤ L) (h : RR μ) (again : ∀ μ2 : xM, RR μ2 → xLw g p l e s m below meth c b i μ2 854 []) : xLw g p l e s m below meth c b i μ 831 [] := by
  obtain ⟨T, r, nt, tx, un, kp, sl, hA, hB, hF⟩ := h
  refine x_aload_n (pc' := 832) hC dL_law_831 rfl rfl ?_
  refine x_aloadQ (pc' := 833) hC dL_law_832 rfl rfl ?_
  refine x_iload_n (pc' := 834) hC dL_law_833 rfl rfl ?_
  refine x_iconst (pc' := 835) hC dL_law_834 rfl ?_
  refine x_iadd (pc' := 836) hC dL_law_835 rfl ?_
  refine x_sld (pc' := 837) hC hX hb hg hL (by omega) dL_law_836 rfl ?_
  refine x_callV (pc' := 840) (n := 1) hC (k_count xP_all hA hF (sc_rg xs _)) ky_X6_count kv_X6_count kl_L_126 dL_law_837 (xP_all 0 _ rfl) rfl rfl rfl rfl ⟨Nat.le_of_ble_eq_true rfl, Nat.le_of_ble_eq_true rfl⟩ (Nat.le_of_ble_eq_true rfl) ⟨Nat.le_of_ble_eq_true rfl, Nat.le_of_ble_eq_true rfl⟩ (Or.inl rfl) rfl (x_ki (fun a1 μ1 h1 => ?_))
  have hB1 := hB.scr (h1.2.2) (Or.inr (by omega))
  refine x_aload_n (pc' := 841) hC dL_law_840 rfl rfl ?_
  refine x_aloadQ (pc' := 842) hC dL_law_841 rfl rfl ?_
  refine x_iload_n (pc' := 843) hC dL_law_842 rfl rfl ?_
  refine x_iconst (pc' := 844) hC dL_law_843 rfl ?_
  refine x_iadd (pc' := 845) hC dL_law_844 rfl ?_
  refine x_sld (pc' := 846) hC hX hb hg hL (by omega) dL_law_845 rfl ?_
  refine x_callV (pc' := 849) (n := 1) hC (q_count xM_all hB1 hF (sc_rg xs _)) ky_X7_count kv_X7_count kl_L_129 dL_law_846 (xM_all 0 _ rfl) rfl rfl rfl rfl ⟨Nat.le_of_ble_eq_true rfl, Nat.le_of_ble_eq_true rfl⟩ (Nat.le_of_ble_eq_true rfl) ⟨Nat.le_of_ble_eq_true rfl, Nat.le_of_ble_eq_true rfl⟩ (Or.inl rfl) rfl (x_ki (fun a2 μ2 h2 => ?_))
  exact x_same (tgt := 854) hC dL_law_849 (by decide) (h1.1.trans h2.1.symm) (again μ2 ⟨_, _, _, _, _, _, _, h1.2.1.scr h2.2.2 (by omega), h2.2.1, hF⟩)
set_option maxRecDepth 100000 in
set_option maxHeartbeats 4000000 in
theorem law_loop {p : Program} {e : Env} {s : State} {m : MethodId} {below : List Frame} {meth : Method} {c : Code} {l : Launch} {b L : Nat} {xs : Nat → Int32} {g : xG} {nm : String} (hL : L ≤ 2560) (hX : va_X b L xs s s.heap) (hb : b < s.heap.size) (hg : g.1 = s.heap.size) (hC : xCtx g p s m #[Value.ref b] meth c cL_law 4 RL nm ret) : ∀ (zn : Nat) (i : Int) (μ : xM), 0 ≤ i → i ≤ (L : Int) + 5 → RR μ → ((L : Int) + 5 - i).toNat < zn → xLw g p l e s m below meth c b i μ 18 [] := by
  intro zn
  induction zn with
  | zero => intros; rename_i hz; exact absurd hz (Nat.not_lt_zero _)
  | succ zn ih =>
    intro i μ h0 h1 hr hlt
    refine x_iload_n (pc' := 19) hC dL_law_18 rfl rfl ?_
    refine x_aloadQ (pc' := 20) hC dL_law_19 rfl rfl ?_
    refine x_slen (pc' := 21) hC hX hb hg dL_law_20 rfl ?_
    refine x_iconst (pc' := 22) hC dL_law_21 rfl ?_
    refine x_isub (pc' := 23) hC dL_law_22 rfl ?_
    refine x_icmp_gt (tgt := 860) (pc' := 26) hC dL_law_23 (by decide) rfl (by omega) (by omega) (fun c23 => ?_) (fun c23 => ?_)
    · refine x_iconst (pc' := 861) hC dL_law_860 rfl ?_
      exact fun H locs ls hl hW hS => va_forget (fun q hq => by rw [← hg]; exact hS.2.2 q hq) (W.widen (k := 600000) (n := 7302250) (Nat.le_of_ble_eq_true rfl) (Nat.le_of_ble_eq_true rfl) (lw_ret hC.1 hC.2.1 hC.2.2.2.2.2.2.1 hC.2.2.2.2.2.2.2.1 dL_law_861))
    · have again : ∀ μ2 : xM, RR μ2 → xLw g p l e s m below meth c b i μ2 854 [] := fun μ2 h2 => by
        refine x_iinc (pc' := 857) hC dL_law_854 rfl (by decide) rfl rfl ?_
        refine x_goto (tgt := 18) hC dL_law_857 (by decide) ?_
        exact ih (i + 5) μ2 (by omega) (by omega) h2 (by omega)
      have hi : 0 ≤ i ∧ i + 5 ≤ L := by omega
      refine x_aloadQ (pc' := 27) hC dL_law_26 rfl rfl ?_
      refine x_iload_n (pc' := 28) hC dL_law_27 rfl rfl ?_
      refine x_sld (pc' := 29) hC hX hb hg hL (by omega) dL_law_28 rfl ?_
      refine x_bipush (pc' := 31) hC dL_law_29 (by decide) rfl ?_
      refine x_iand (pc' := 32) hC dL_law_31 rfl ?_
      have w9 := iAnd_rg (sc xs i) 31
      generalize iAnd (sc xs i) 31 = k at w9 ⊢
      have hk : k = 0 ∨ k = 1 ∨ k = 2 ∨ k = 3 ∨ k = 4 ∨ k = 5 ∨ k = 6 ∨ k = 7 ∨ k = 8 ∨ k = 9 ∨ k = 10 ∨ k = 11 ∨ k = 12 ∨ k = 13 ∨ k = 14 ∨ k = 15 ∨ k = 16 ∨ k = 17 ∨ k = 18 ∨ k = 19 ∨ k = 20 ∨ k = 21 ∨ k = 22 ∨ k = 23 ∨ k = 24 ∨ k = 25 ∨ k = 26 ∨ k = 27 ∨ (k < 0 ∨ 27 < k) := by omega
      rcases hk with w | w | w | w | w | w | w | w | w | w | w | w | w | w | w | w | w | w | w | w | w | w | w | w | w | w | w | w | w
      · exact x_tabIn (off := 128) (tgt := 160) hC dL_law_32 w9 (by omega) (by rw [w]; rfl) (by decide) (lc_write hL hX hb hg hC hi hr again)
      · exact x_tabIn (off := 151) (tgt := 183) hC dL_law_32 w9 (by omega) (by rw [w]; rfl) (by decide) (lc_wipe hL hX hb hg hC hi hr again)
      · exact x_tabIn (off := 164) (tgt := 196) hC dL_law_32 w9 (by omega) (by rw [w]; rfl) (by decide) (lc_fault hL hX hb hg hC hi hr again)
      · exact x_tabIn (off := 177) (tgt := 209) hC dL_law_32 w9 (by omega) (by rw [w]; rfl) (by decide) (lc_lay hL hX hb hg hC hi hr again)
      · exact x_tabIn (off := 190) (tgt := 222) hC dL_law_32 w9 (by omega) (by rw [w]; rfl) (by decide) (lc_minister hL hX hb hg hC hi hr again)
      · exact x_tabIn (off := 223) (tgt := 255) hC dL_law_32 w9 (by omega) (by rw [w]; rfl) (by decide) (lc_step hL hX hb hg hC hi hr again)
      · exact x_tabIn (off := 256) (tgt := 288) hC dL_law_32 w9 (by omega) (by rw [w]; rfl) (by decide) (lc_pass hL hX hb hg hC hi hr again)
      · exact x_tabIn (off := 279) (tgt := 311) hC dL_law_32 w9 (by omega) (by rw [w]; rfl) (by decide) (lc_wax hL hX hb hg hC hi hr again)
      · exact x_tabIn (off := 302) (tgt := 334) hC dL_law_32 w9 (by omega) (by rw [w]; rfl) (by decide) (lc_sand hL hX hb hg hC hi hr again)
      · exact x_tabIn (off := 325) (tgt := 357) hC dL_law_32 w9 (by omega) (by rw [w]; rfl) (by decide) (lc_help hL hX hb hg hC hi hr again)
      · exact x_tabIn (off := 348) (tgt := 380) hC dL_law_32 w9 (by omega) (by rw [w]; rfl) (by decide) (lc_undo hL hX hb hg hC hi hr again)
      · exact x_tabIn (off := 361) (tgt := 393) hC dL_law_32 w9 (by omega) (by rw [w]; rfl) (by decide) (lc_governs hL hX hb hg hC hi hr again)
      · exact x_tabIn (off := 374) (tgt := 406) hC dL_law_32 w9 (by omega) (by rw [w]; rfl) (by decide) (lc_behind hL hX hb hg hC hi hr again)
      · exact x_tabIn (off := 417) (tgt := 449) hC dL_law_32 w9 (by omega) (by rw [w]; rfl) (by decide) (lc_slide hL hX hb hg hC hi hr again)
      · exact x_tabIn (off := 440) (tgt := 472) hC dL_law_32 w9 (by omega) (by rw [w]; rfl) (by decide) (lc_top hL hX hb hg hC hi hr again)
      · exact x_tabIn (off := 463) (tgt := 495) hC dL_law_32 w9 (by omega) (by rw [w]; rfl) (by decide) (lc_topple hL hX hb hg hC hi hr again)
      · exact x_tabIn (off := 486) (tgt := 518) hC dL_law_32 w9 (by omega) (by rw [w]; rfl) (by decide) (lc_plot hL hX hb hg hC hi hr again)
      · exact x_tabIn (off := 529) (tgt := 561) hC dL_law_32 w9 (by omega) (by rw [w]; rfl) (by decide) (lc_hold hL hX hb hg hC hi hr again)
      · exact x_tabIn (off := 562) (tgt := 594) hC dL_law_32 w9 (by omega) (by rw [w]; rfl) (by decide) (lc_cabinet hL hX hb hg hC hi hr again)
      · exact x_tabIn (off := 585) (tgt := 617) hC dL_law_32 w9 (by omega) (by rw [w]; rfl) (by decide) (lc_seen hL hX hb hg hC hi hr again)
      · exact x_tabIn (off := 618) (tgt := 650) hC dL_law_32 w9 (by omega) (by rw [w]; rfl) (by decide) (lc_forget hL hX hb hg hC hi hr again)
      · exact x_tabIn (off := 631) (tgt := 663) hC dL_law_32 w9 (by omega) (by rw [w]; rfl) (by decide) (lc_waxes hL hX hb hg hC hi hr again)
      · exact x_tabIn (off := 654) (tgt := 686) hC dL_law_32 w9 (by omega) (by rw [w]; rfl) (by decide) (lc_grips hL hX hb hg hC hi hr again)
      · exact x_tabIn (off := 677) (tgt := 709) hC dL_law_32 w9 (by omega) (by rw [w]; rfl) (by decide) (lc_likely hL hX hb hg hC hi hr again)
      · exact x_tabIn (off := 730) (tgt := 762) hC dL_law_32 w9 (by omega) (by rw [w]; rfl) (by decide) (lc_century hL hX hb hg hC hi hr again)
      · exact x_tabIn (off := 773) (tgt := 805) hC dL_law_32 w9 (by omega) (by rw [w]; rfl) (by decide) (lc_keep hL hX hb hg hC hi hr again)
      · exact x_tabIn (off := 786) (tgt := 818) hC dL_law_32 w9 (by omega) (by rw [w]; rfl) (by decide) (lc_back hL hX hb hg hC hi hr again)
      · exact x_tabIn (off := 799) (tgt := 831) hC dL_law_32 w9 (by omega) (by rw [w]; rfl) (by decide) (lc_count hL hX hb hg hC hi hr again)
      · exact x_tabOut (tgt := 854) hC dL_law_32 w9 (by omega) (by decide) (again μ hr)
