set_option maxRecDepth 100000 in
set_option maxHeartbeats 4000000 in
theorem q_likely {g : xG} {l : Launch} {S : List xS} {μ : xM} {T r : Int → Int} {nt : Int} {tx : Int → Int} {un kp : List (Int → Int)} {sl : List (Int × Int)} {m n x w : Int} (hM : xPreM S) (hA : RM μ T r nt tx un kp sl) (hF : WF T r un kp) (hm : -2147483648 ≤ m ∧ m < 2147483648) (hn : -2147483648 ≤ n ∧ n < 2147483648) (hx : -2147483648 ≤ x ∧ x < 2147483648) (hw : -2147483648 ≤ w ∧ w < 2147483648) : xCt g l yX7_likely cX7_likely 10 (some .int) 5 110 0 0 [vR g 81, vI m, vI n, vI x, vI w] S μ S (xI (fun a μ' => a = aLikely T r m n x w ∧ RM μ' T r nt tx un kp sl ∧ FrI 81 92 μ μ')) := by
  refine x_enter (by decide) (Nat.le_of_ble_eq_true rfl) ?_
  intro zp ze zs zm za zb zh zc hC hz0
  have hT := hF.1
  have hR := hF.2.1.1
  have hy := hF.2.1.2
  have t0 := hT.1
  have t1 := hT.2.1
  have t2 := hT.2.2.1
  have t3 := hT.2.2.2.1
  have hQ := hA.2.1
  have hN := hA.2.2.1
  obtain ⟨⟨m0, m1, m2, m3⟩, m4⟩ := hA.2.1
  have euc : ∀ (zn : Nat) (A B V W : Nat) (a b v9 w9 : Int) (μ1 : xM) (b1 : 0 ≤ m ∧ m < T 3) (b2 : 0 ≤ n ∧ n ≤ 6) (b3 : 0 ≤ x ∧ x ≤ 10) (b4 : 0 ≤ w ∧ w ≤ 1) (ha : a = A) (hb : b = B) (hv : v9 = V) (hw9 : w9 = W) (hB : 0 < B ∧ B ≤ 1000000) (hAa : A ≤ 100000000) (hVW : V ≤ 100000000 ∧ W ≤ 100000000) (hgg : Nat.gcd V W = Nat.gcd A B) (hae : a = aboveF T r m x n.toNat (2 ^ n.toNat)) (hbe : b = powI 10 n.toNat) (h1 : FrI 87 88 μ μ1), W < zn → xX g 10 zp l ze { frames := 5, cells := 0, slots := 0, locals := 110 } zs zm za zb zh zc 0 0 (MQ zb (xQ g S (xI (fun a μ' => a = aLikely T r m n x w ∧ RM μ' T r nt tx un kp sl ∧ FrI 81 92 μ μ'))) za zs 0 0 (xA0 g)) S μ1 197 [some (vR g 81), some (vI m), some (vI n), some (vI x), some (vI w), some (vI a), some (vI b), some (vI v9), some (vI w9), none] [] := by
    intro zn
    induction zn with
    | zero => intros; rename_i hz; exact absurd hz (Nat.not_lt_zero _)
    | succ zn ih =>
      intro A B V W a b v9 w9 μ1 b1 b2 b3 b4 ha hb hv hw9 hB hAa hVW hgg hae hbe h1 hn
      subst hv
      subst hw9
      subst ha
      subst hb
      refine x_iload (pc' := 199) hC dX7_likely_197 rfl rfl ?_
      refine x_if_eq (tgt := 220) (pc' := 202) hC dX7_likely_199 (by decide) rfl (by omega) (fun c199 => ?_) (fun c199 => ?_)
      · have w0 : W = 0 := by omega
        subst w0
        obtain ⟨e7, e8⟩ := gcd_pos hgg hB.1
        refine x_iload (pc' := 222) hC dX7_likely_220 rfl rfl ?_
        refine x_if_ne (tgt := 233) (pc' := 225) hC dX7_likely_222 (by decide) rfl (by omega) (fun c222 => ?_) (fun c222 => ?_)
        · refine x_iload (pc' := 235) hC dX7_likely_233 rfl rfl ?_
          refine x_iload (pc' := 237) hC dX7_likely_235 rfl rfl ?_
          refine x_idiv (pc' := 238) hC dX7_likely_237 (by omega) (by omega) rfl ?_
          try rw [i_div (by omega) (by omega)]
          exact x_iret hC dX7_likely_238 (xI.mk ⟨by
      unfold aLikely
      rw [if_pos ⟨b1, b2, b3, b4⟩, ← hae, ← hbe, show Int.gcd (A : Int) (B : Int) = V from e7.symm]
      first | rw [if_neg c222] | rw [if_pos (by omega)], hA.scr h1 (by omega), h1.mono (by omega) (by omega)⟩)
        · refine x_iload (pc' := 227) hC dX7_likely_225 rfl rfl ?_
          refine x_iload (pc' := 229) hC dX7_likely_227 rfl rfl ?_
          refine x_idiv (pc' := 230) hC dX7_likely_229 (by omega) (by omega) rfl ?_
          rw [i_div (by omega) (by omega)]
          refine x_goto (tgt := 238) hC dX7_likely_230 (by decide) ?_
          try rw [i_div (by omega) (by omega)]
          exact x_iret hC dX7_likely_238 (xI.mk ⟨by
      unfold aLikely
      rw [if_pos ⟨b1, b2, b3, b4⟩, ← hae, ← hbe, show Int.gcd (A : Int) (B : Int) = V from e7.symm]
      first | rw [if_neg c222] | rw [if_pos (by omega)], hA.scr h1 (by omega), h1.mono (by omega) (by omega)⟩)
      · refine x_iload (pc' := 204) hC dX7_likely_202 rfl rfl ?_
        refine x_iload (pc' := 206) hC dX7_likely_204 rfl rfl ?_
        refine x_irem (pc' := 207) hC dX7_likely_206 (by omega) (by omega) rfl ?_
        rw [i_rem (by omega) (by omega)]
        refine x_istore (pc' := 209) hC dX7_likely_207 (by decide) rfl rfl ?_
        refine x_iload (pc' := 211) hC dX7_likely_209 rfl rfl ?_
        refine x_istore (pc' := 213) hC dX7_likely_211 (by decide) rfl rfl ?_
        refine x_iload (pc' := 215) hC dX7_likely_213 rfl rfl ?_
        refine x_istore (pc' := 217) hC dX7_likely_215 (by decide) rfl rfl ?_
        refine x_goto (tgt := 197) hC dX7_likely_217 (by decide) ?_
        refine x_vs (vs' := [some (vR g 81), some (vI m), some (vI n), some (vI x), some (vI w), some (vI (A : Int)), some (vI (B : Int)), some (vI (W : Int)), some (vI ((V : Int) % W)), none]) (by intro i v; match i with | 0 => exact id | 1 => exact id | 2 => exact id | 3 => exact id | 4 => exact id | 5 => exact id | 6 => exact id | 7 => exact id | 8 => exact id | 9 => (intro h; cases h) | i + 10 => (intro h; cases h)) ?_
        have z5 := Nat.mod_lt V (show 0 < W by omega)
        exact ih A B W (V % W) _ _ _ _ μ1 b1 b2 b3 b4 rfl rfl rfl (by omega) hB hAa (by omega) (by rw [← hgg, Nat.gcd_comm V W, Nat.gcd_rec W V, Nat.gcd_comm]) hae hbe h1 (by omega)
  have tens : ∀ (zn : Nat) (j : Nat) (i ab be : Int) (μ1 : xM) (b1 : 0 ≤ m ∧ m < T 3) (b2 : 0 ≤ n ∧ n ≤ 6) (b3 : 0 ≤ x ∧ x ≤ 10) (b4 : 0 ≤ w ∧ w ≤ 1) (hi : i = j) (hj : j ≤ n.toNat) (hab : ab = aboveF T r m x n.toNat (2 ^ n.toNat)) (hab2 : 0 ≤ ab ∧ ab ≤ 100000000) (hbe : be = powI 10 j) (h1 : FrI 87 88 μ μ1), n.toNat - j < zn → xX g 10 zp l ze { frames := 5, cells := 0, slots := 0, locals := 110 } zs zm za zb zh zc 0 0 (MQ zb (xQ g S (xI (fun a μ' => a = aLikely T r m n x w ∧ RM μ' T r nt tx un kp sl ∧ FrI 81 92 μ μ'))) za zs 0 0 (xA0 g)) S μ1 170 [some (vR g 81), some (vI m), some (vI n), some (vI x), some (vI w), some (vI ab), some (vI be), some (vI i), none, none] [] := by
    intro zn
    induction zn with
    | zero => intros; rename_i hz; exact absurd hz (Nat.not_lt_zero _)
    | succ zn ih =>
      intro j i ab be μ1 b1 b2 b3 b4 hi hj hab hab2 hbe h1 hn
      subst hi
      refine x_iload (pc' := 172) hC dX7_likely_170 rfl rfl ?_
      refine x_iload_n (pc' := 173) hC dX7_likely_172 rfl rfl ?_
      refine x_icmp_ge (tgt := 189) (pc' := 176) hC dX7_likely_173 (by decide) rfl (by omega) (by omega) (fun c173 => ?_) (fun c173 => ?_)
      · refine x_iload (pc' := 191) hC dX7_likely_189 rfl rfl ?_
        refine x_istore (pc' := 193) hC dX7_likely_191 (by decide) rfl rfl ?_
        refine x_iload (pc' := 195) hC dX7_likely_193 rfl rfl ?_
        refine x_istore (pc' := 197) hC dX7_likely_195 (by decide) rfl rfl ?_
        refine x_vs (vs' := [some (vR g 81), some (vI m), some (vI n), some (vI x), some (vI w), some (vI ab), some (vI be), some (vI ab), some (vI be), none]) (by intro i v; match i with | 0 => exact id | 1 => exact id | 2 => exact id | 3 => exact id | 4 => exact id | 5 => exact id | 6 => exact id | 7 => exact id | 8 => exact id | 9 => (intro h; cases h) | i + 10 => (intro h; cases h)) ?_
        have p3 := pow10_all n.toNat (by omega)
        have j0 : n.toNat = j := by omega
        have hbe2 : be = powI 10 n.toNat := by rw [j0]; exact hbe
        exact euc (be.toNat + 1) ab.toNat be.toNat ab.toNat be.toNat _ _ _ _ μ1 b1 b2 b3 b4 (by omega) (by omega) (by omega) (by omega) (by omega) (by omega) (by omega) rfl hab hbe2 h1 (by omega)
      · refine x_iload (pc' := 178) hC dX7_likely_176 rfl rfl ?_
        refine x_bipush (pc' := 180) hC dX7_likely_178 (by decide) rfl ?_
        refine x_imul (pc' := 181) hC dX7_likely_180 rfl ?_
        refine x_istore (pc' := 183) hC dX7_likely_181 (by decide) rfl rfl ?_
        refine x_iinc (pc' := 186) hC dX7_likely_183 rfl (by decide) rfl rfl ?_
        refine x_goto (tgt := 170) hC dX7_likely_186 (by decide) ?_
        exact ih (j + 1) _ _ _ μ1 b1 b2 b3 b4 (by omega) (by omega) hab hab2 (by rw [powI, hbe]) h1 (by omega)
  have loop : ∀ (zn : Nat) (k : Nat) (i ab : Int) (μ1 : xM) (b1 : 0 ≤ m ∧ m < T 3) (b2 : 0 ≤ n ∧ n ≤ 6) (b3 : 0 ≤ x ∧ x ≤ 10) (b4 : 0 ≤ w ∧ w ≤ 1) (hi : i = k) (hk : k ≤ 2 ^ n.toNat) (hab : ab = aboveF T r m x n.toNat k) (h1 : FrI 87 88 μ μ1), 2 ^ n.toNat - k < zn → xX g 10 zp l ze { frames := 5, cells := 0, slots := 0, locals := 110 } zs zm za zb zh zc 0 0 (MQ zb (xQ g S (xI (fun a μ' => a = aLikely T r m n x w ∧ RM μ' T r nt tx un kp sl ∧ FrI 81 92 μ μ'))) za zs 0 0 (xA0 g)) S μ1 54 [some (vR g 81), some (vI m), some (vI n), some (vI x), some (vI w), some (vI ab), some (vI 1), some (vI i), none, none] [] := by
    intro zn
    induction zn with
    | zero => intros; rename_i hz; exact absurd hz (Nat.not_lt_zero _)
    | succ zn ih9 =>
      intro k i ab μ1 b1 b2 b3 b4 hi hk hab h1 hn
      subst hi
      have q1 := aboveF_rg (T := T) (r := r) (m := m) (x := x) (n := n.toNat) (by omega) b3 k hk
      have q2 := shl1_all n.toNat (by omega)
      rw [show ((n.toNat : Nat) : Int) = n by omega] at q2
      have q4 : 2 ^ n.toNat ≤ 64 := by have : n.toNat = 0 ∨ n.toNat = 1 ∨ n.toNat = 2 ∨ n.toNat = 3 ∨ n.toNat = 4 ∨ n.toNat = 5 ∨ n.toNat = 6 := by omega
                                       rcases this with h | h | h | h | h | h | h <;> rw [h] <;> decide
      have loop2 : ∀ (zn : Nat) (j : Nat) (y ch : Int) (μ2 : xM) (r2 : Int → Int) (hy9 : y = j) (hj : j ≤ n.toNat) (hkk : k < 2 ^ n.toNat) (h2 : FrI 87 88 μ μ2) (h2r : Rw μ2 87 r2) (h3 : WR T r2) (hc : ch = chanceF x k j) (hpp : pathF T k (n.toNat - j) j r2 = pathF T k n.toNat 0 r), n.toNat - j < zn → xX g 10 zp l ze { frames := 5, cells := 0, slots := 0, locals := 110 } zs zm za zb zh zc 0 0 (MQ zb (xQ g S (xI (fun a μ' => a = aLikely T r m n x w ∧ RM μ' T r nt tx un kp sl ∧ FrI 81 92 μ μ'))) za zs 0 0 (xA0 g)) S μ2 72 [some (vR g 81), some (vI m), some (vI n), some (vI x), some (vI w), some (vI ab), some (vI 1), some (vI (k : Int)), some (vI ch), some (vI y)] [] := by
        intro zn
        induction zn with
        | zero => intros; rename_i hz; exact absurd hz (Nat.not_lt_zero _)
        | succ zn ih =>
          intro j y ch μ2 r2 hy9 hj hkk h2 h2r h3 hc hpp hn
          subst hy9
          have g2 := gov_in (T := T) (r := r2) hT
          have g3 := h3.2.1 (gov T r2) g2.1 g2.2
          have e3 := waxBy_0 (x := r2 (18 + gov T r2)) h3 (by omega) (by omega)
          have mid : ∀ (ch2 : Int) (hc2 : ch2 = chanceF x k (j + 1)) (hjj : j < n.toNat), xX g 10 zp l ze { frames := 5, cells := 0, slots := 0, locals := 110 } zs zm za zb zh zc 0 0 (MQ zb (xQ g S (xI (fun a μ' => a = aLikely T r m n x w ∧ RM μ' T r nt tx un kp sl ∧ FrI 81 92 μ μ'))) za zs 0 0 (xA0 g)) S μ2 101 [some (vR g 81), some (vI m), some (vI n), some (vI x), some (vI w), some (vI ab), some (vI 1), some (vI (k : Int)), some (vI ch2), some (vI (j : Int))] [] := by
            intro ch2 hc2 hjj
            refine x_aload_n (pc' := 102) hC dX7_likely_101 rfl rfl ?_
            refine x_aload_n (pc' := 103) hC dX7_likely_102 rfl rfl ?_
            refine x_getR (pc' := 106) (b := 87) hC kf_X7_25 dX7_likely_103 (hM 0 _ rfl) rfl rfl ?_
            refine x_bipush (pc' := 108) hC dX7_likely_106 (by decide) rfl ?_
            refine x_aload_n (pc' := 109) hC dX7_likely_108 rfl rfl ?_
            refine x_callV (pc' := 112) (n := 0) hC (m_governor hM hT h3 ⟨hQ.fr h2 (by omega), h2r⟩) ky_X7_governor kv_X7_governor kl_X7_125 dX7_likely_109 (hM 0 _ rfl) rfl rfl rfl rfl ⟨Nat.le_of_ble_eq_true rfl, Nat.le_of_ble_eq_true rfl⟩ (Nat.le_of_ble_eq_true rfl) ⟨Nat.le_refl _, Nat.le_refl _⟩ (Or.inl rfl) rfl (x_kd ?_)
            refine x_iadd (pc' := 113) hC dX7_likely_112 rfl ?_
            refine x_iald (pc' := 114) hC dX7_likely_113 (hM 6 _ rfl) (by omega) (by decide) rfl ?_
            rw [h2r (18 + gov T r2) (by omega) (by omega)]
            refine x_iload (pc' := 116) hC dX7_likely_114 rfl rfl ?_
            refine x_iload (pc' := 118) hC dX7_likely_116 rfl rfl ?_
            refine x_callS (pc' := 121) (n := 2) hC (m_has) ky_X7_has ks_X7_has kl_X7_107 dX7_likely_118 rfl rfl ⟨Nat.le_of_ble_eq_true rfl, Nat.le_of_ble_eq_true rfl⟩ (Nat.le_of_ble_eq_true rfl) ⟨Nat.le_refl _, Nat.le_refl _⟩ (Or.inl rfl) rfl (x_kd ?_)
            refine x_ifb_eq (tgt := 128) (pc' := 124) hC dX7_likely_121 (by decide) rfl (fun c121 => ?_) (fun c121 => ?_)
            · refine x_iconst (pc' := 129) hC dX7_likely_128 rfl ?_
              refine x_callV (pc' := 132) (n := 2) hC (m_more hM hT h3 ⟨hQ.fr h2 (by omega), h2r⟩ g3 (by omega)) ky_X7_more kv_X7_more kl_X7_176 dX7_likely_129 (hM 0 _ rfl) rfl rfl rfl rfl ⟨Nat.le_of_ble_eq_true rfl, Nat.le_of_ble_eq_true rfl⟩ (Nat.le_of_ble_eq_true rfl) ⟨Nat.le_refl _, Nat.le_refl _⟩ (Or.inl rfl) rfl (x_kn (fun μ129 h129 => ?_))
              refine x_aload_n (pc' := 133) hC dX7_likely_132 rfl rfl ?_
              refine x_callV (pc' := 136) (n := 0) hC (m_goYear hM hT (WR_waxBy h3 (by omega) (by omega)) ⟨hQ.fr (h2.tr h129.1) (by omega), h129.2⟩) ky_X7_goYear kv_X7_goYear kl_X7_128 dX7_likely_133 (hM 0 _ rfl) rfl rfl rfl rfl ⟨Nat.le_of_ble_eq_true rfl, Nat.le_of_ble_eq_true rfl⟩ (Nat.le_of_ble_eq_true rfl) ⟨Nat.le_refl _, Nat.le_refl _⟩ (Or.inl rfl) rfl (x_kn (fun μ133 h133 => ?_))
              refine x_iinc (pc' := 139) hC dX7_likely_136 rfl (by decide) rfl rfl ?_
              refine x_goto (tgt := 72) hC dX7_likely_139 (by decide) ?_
              exact ih (j + 1) _ _ _ _ (by omega) (by omega) hkk ((h2.tr h129.1).tr h133.1) h133.2 (WR_goYear hT (WR_waxBy h3 (by omega) (by omega))) hc2 (by rw [show n.toNat - j = (n.toNat - (j + 1)) + 1 by omega, pathF] at hpp; first | (rw [if_pos c121] at hpp; exact hpp) | (rw [if_neg c121] at hpp; rw [e3]; exact hpp)) (by omega)
            · refine x_iconst (pc' := 125) hC dX7_likely_124 rfl ?_
              refine x_goto (tgt := 129) hC dX7_likely_125 (by decide) ?_
              refine x_callV (pc' := 132) (n := 2) hC (m_more hM hT h3 ⟨hQ.fr h2 (by omega), h2r⟩ g3 (by omega)) ky_X7_more kv_X7_more kl_X7_176 dX7_likely_129 (hM 0 _ rfl) rfl rfl rfl rfl ⟨Nat.le_of_ble_eq_true rfl, Nat.le_of_ble_eq_true rfl⟩ (Nat.le_of_ble_eq_true rfl) ⟨Nat.le_refl _, Nat.le_refl _⟩ (Or.inl rfl) rfl (x_kn (fun μ129 h129 => ?_))
              refine x_aload_n (pc' := 133) hC dX7_likely_132 rfl rfl ?_
              refine x_callV (pc' := 136) (n := 0) hC (m_goYear hM hT (WR_waxBy h3 (by omega) (by omega)) ⟨hQ.fr (h2.tr h129.1) (by omega), h129.2⟩) ky_X7_goYear kv_X7_goYear kl_X7_128 dX7_likely_133 (hM 0 _ rfl) rfl rfl rfl rfl ⟨Nat.le_of_ble_eq_true rfl, Nat.le_of_ble_eq_true rfl⟩ (Nat.le_of_ble_eq_true rfl) ⟨Nat.le_refl _, Nat.le_refl _⟩ (Or.inl rfl) rfl (x_kn (fun μ133 h133 => ?_))
              refine x_iinc (pc' := 139) hC dX7_likely_136 rfl (by decide) rfl rfl ?_
              refine x_goto (tgt := 72) hC dX7_likely_139 (by decide) ?_
              exact ih (j + 1) _ _ _ _ (by omega) (by omega) hkk ((h2.tr h129.1).tr h133.1) h133.2 (WR_goYear hT (WR_waxBy h3 (by omega) (by omega))) hc2 (by rw [show n.toNat - j = (n.toNat - (j + 1)) + 1 by omega, pathF] at hpp; first | (rw [if_pos c121] at hpp; exact hpp) | (rw [if_neg c121] at hpp; rw [e3]; exact hpp)) (by omega)
          refine x_iload (pc' := 74) hC dX7_likely_72 rfl rfl ?_
          refine x_iload_n (pc' := 75) hC dX7_likely_74 rfl rfl ?_
          refine x_icmp_ge (tgt := 142) (pc' := 78) hC dX7_likely_75 (by decide) rfl (by omega) (by omega) (fun c75 => ?_) (fun c75 => ?_)
          · have j0 : n.toNat - j = 0 := by omega
            have hp : r2 = pathF T k n.toNat 0 r := by rw [← hpp, j0]; rfl
            refine x_iload (pc' := 144) hC dX7_likely_142 rfl rfl ?_
            refine x_aload_n (pc' := 145) hC dX7_likely_144 rfl rfl ?_
            refine x_callV (pc' := 148) (n := 0) hC (m_governor hM hT h3 ⟨hQ.fr h2 (by omega), h2r⟩) ky_X7_governor kv_X7_governor kl_X7_125 dX7_likely_145 (hM 0 _ rfl) rfl rfl rfl rfl ⟨Nat.le_of_ble_eq_true rfl, Nat.le_of_ble_eq_true rfl⟩ (Nat.le_of_ble_eq_true rfl) ⟨Nat.le_refl _, Nat.le_refl _⟩ (Or.inl rfl) rfl (x_kd ?_)
            refine x_iload_n (pc' := 149) hC dX7_likely_148 rfl rfl ?_
            refine x_icmp_ne (tgt := 157) (pc' := 152) hC dX7_likely_149 (by decide) rfl (by omega) (by omega) (fun c149 => ?_) (fun c149 => ?_)
            · refine x_iconst (pc' := 158) hC dX7_likely_157 rfl ?_
              refine x_iadd (pc' := 159) hC dX7_likely_158 rfl ?_
              refine x_istore (pc' := 161) hC dX7_likely_159 (by decide) rfl rfl ?_
              refine x_iinc (pc' := 164) hC dX7_likely_161 rfl (by decide) rfl rfl ?_
              refine x_goto (tgt := 54) hC dX7_likely_164 (by decide) ?_
              refine x_vs (vs' := [some (vR g 81), some (vI m), some (vI n), some (vI x), some (vI w), some (vI _), some (vI 1), some (vI ((k : Int) + 1)), none, none]) (by intro i v; match i with | 0 => exact id | 1 => exact id | 2 => exact id | 3 => exact id | 4 => exact id | 5 => exact id | 6 => exact id | 7 => exact id | 8 => (intro h; cases h) | 9 => (intro h; cases h) | i + 10 => (intro h; cases h)) ?_
              first | exact ih9 (k + 1) _ _ _ b1 b2 b3 b4 (by omega) (by omega) (by rw [aboveF, ← hp, if_pos c149, hab, hc, show n.toNat = j by omega]) h2 (by omega) | exact ih9 (k + 1) _ _ _ b1 b2 b3 b4 (by omega) (by omega) (by rw [aboveF, ← hp, if_neg c149, hab]) h2 (by omega)
            · refine x_iload (pc' := 154) hC dX7_likely_152 rfl rfl ?_
              refine x_goto (tgt := 158) hC dX7_likely_154 (by decide) ?_
              refine x_iadd (pc' := 159) hC dX7_likely_158 rfl ?_
              refine x_istore (pc' := 161) hC dX7_likely_159 (by decide) rfl rfl ?_
              refine x_iinc (pc' := 164) hC dX7_likely_161 rfl (by decide) rfl rfl ?_
              refine x_goto (tgt := 54) hC dX7_likely_164 (by decide) ?_
              refine x_vs (vs' := [some (vR g 81), some (vI m), some (vI n), some (vI x), some (vI w), some (vI _), some (vI 1), some (vI ((k : Int) + 1)), none, none]) (by intro i v; match i with | 0 => exact id | 1 => exact id | 2 => exact id | 3 => exact id | 4 => exact id | 5 => exact id | 6 => exact id | 7 => exact id | 8 => (intro h; cases h) | 9 => (intro h; cases h) | i + 10 => (intro h; cases h)) ?_
              first | exact ih9 (k + 1) _ _ _ b1 b2 b3 b4 (by omega) (by omega) (by rw [aboveF, ← hp, if_pos c149, hab, hc, show n.toNat = j by omega]) h2 (by omega) | exact ih9 (k + 1) _ _ _ b1 b2 b3 b4 (by omega) (by omega) (by rw [aboveF, ← hp, if_neg c149, hab]) h2 (by omega)
          · refine x_iload (pc' := 80) hC dX7_likely_78 rfl rfl ?_
            refine x_iload (pc' := 82) hC dX7_likely_80 rfl rfl ?_
            refine x_iload (pc' := 84) hC dX7_likely_82 rfl rfl ?_
            refine x_callS (pc' := 87) (n := 2) hC (m_has) ky_X7_has ks_X7_has kl_X7_107 dX7_likely_84 rfl rfl ⟨Nat.le_of_ble_eq_true rfl, Nat.le_of_ble_eq_true rfl⟩ (Nat.le_of_ble_eq_true rfl) ⟨Nat.le_refl _, Nat.le_refl _⟩ (Or.inl rfl) rfl (x_kd ?_)
            refine x_ifb_eq (tgt := 94) (pc' := 90) hC dX7_likely_87 (by decide) rfl (fun c87 => ?_) (fun c87 => ?_)
            · refine x_bipush (pc' := 96) hC dX7_likely_94 (by decide) rfl ?_
              refine x_iload_n (pc' := 97) hC dX7_likely_96 rfl rfl ?_
              refine x_isub (pc' := 98) hC dX7_likely_97 rfl ?_
              refine x_imul (pc' := 99) hC dX7_likely_98 rfl ?_
              refine x_istore (pc' := 101) hC dX7_likely_99 (by decide) rfl rfl ?_
              first | exact mid _ (by rw [chanceF, if_pos c87, hc]) (by omega) | exact mid _ (by rw [chanceF, if_neg c87, hc]) (by omega)
            · refine x_iload_n (pc' := 91) hC dX7_likely_90 rfl rfl ?_
              refine x_goto (tgt := 98) hC dX7_likely_91 (by decide) ?_
              refine x_imul (pc' := 99) hC dX7_likely_98 rfl ?_
              refine x_istore (pc' := 101) hC dX7_likely_99 (by decide) rfl rfl ?_
              first | exact mid _ (by rw [chanceF, if_pos c87, hc]) (by omega) | exact mid _ (by rw [chanceF, if_neg c87, hc]) (by omega)
      refine x_iload (pc' := 56) hC dX7_likely_54 rfl rfl ?_
      refine x_iconst (pc' := 57) hC dX7_likely_56 rfl ?_
      refine x_iload_n (pc' := 58) hC dX7_likely_57 rfl rfl ?_
      refine x_ishl (pc' := 59) hC dX7_likely_58 rfl ?_
      rw [q2]
      refine x_icmp_ge (tgt := 167) (pc' := 62) hC dX7_likely_59 (by decide) rfl (by omega) (by omega) (fun c59 => ?_) (fun c59 => ?_)
      · have k0 : k = 2 ^ n.toNat := by omega
        subst k0
        refine x_iconst (pc' := 168) hC dX7_likely_167 rfl ?_
        refine x_istore (pc' := 170) hC dX7_likely_168 (by decide) rfl rfl ?_
        refine x_vs (vs' := [some (vR g 81), some (vI m), some (vI n), some (vI x), some (vI w), some (vI ab), some (vI 1), some (vI 0), none, none]) (by intro i v; match i with | 0 => exact id | 1 => exact id | 2 => exact id | 3 => exact id | 4 => exact id | 5 => exact id | 6 => exact id | 7 => exact id | 8 => (intro h; cases h) | 9 => (intro h; cases h) | i + 10 => (intro h; cases h)) ?_
        exact tens (n.toNat + 1) 0 0 ab 1 μ1 b1 b2 b3 b4 rfl (by omega) hab (by omega) rfl h1 (by omega)
      · refine x_iconst (pc' := 63) hC dX7_likely_62 rfl ?_
        refine x_istore (pc' := 65) hC dX7_likely_63 (by decide) rfl rfl ?_
        refine x_aload_n (pc' := 66) hC dX7_likely_65 rfl rfl ?_
        refine x_callV (pc' := 69) (n := 0) hC (m_aside hM (hN.fr h1 (by omega))) ky_X7_aside kv_X7_aside kl_X7_136 dX7_likely_66 (hM 0 _ rfl) rfl rfl rfl rfl ⟨Nat.le_of_ble_eq_true rfl, Nat.le_of_ble_eq_true rfl⟩ (Nat.le_of_ble_eq_true rfl) ⟨Nat.le_refl _, Nat.le_refl _⟩ (Or.inl rfl) rfl (x_kn (fun μ66 h66 => ?_))
        refine x_iconst (pc' := 70) hC dX7_likely_69 rfl ?_
        refine x_istore (pc' := 72) hC dX7_likely_70 (by decide) rfl rfl ?_
        exact loop2 (n.toNat + 1) 0 _ _ _ r rfl (by omega) (by omega) (h1.tr h66.1) h66.2 hR rfl rfl (by omega)
  refine x_aload_n (pc' := 1) hC dX7_likely_0 rfl rfl ?_
  refine x_iload_n (pc' := 2) hC dX7_likely_1 rfl rfl ?_
  refine x_callV (pc' := 5) (n := 1) hC (m_isOne hM hT hQ (by omega)) ky_X7_isOne kv_X7_isOne kl_X7_131 dX7_likely_2 (hM 0 _ rfl) rfl rfl rfl rfl ⟨Nat.le_of_ble_eq_true rfl, Nat.le_of_ble_eq_true rfl⟩ (Nat.le_of_ble_eq_true rfl) ⟨Nat.le_refl _, Nat.le_refl _⟩ (Or.inl rfl) rfl (x_kd ?_)
  refine x_ifb_eq (tgt := 43) (pc' := 8) hC dX7_likely_5 (by decide) rfl (fun c5 => ?_) (fun c5 => ?_)
  · refine x_iconst (pc' := 44) hC dX7_likely_43 rfl ?_
    exact x_iret hC dX7_likely_44 (xI.mk ⟨by unfold aLikely; rw [if_neg (by omega)], hA, FrI.rf⟩)
  · refine x_iload_n (pc' := 9) hC dX7_likely_8 rfl rfl ?_
    refine x_i2l (pc' := 10) hC dX7_likely_9 (by omega) rfl ?_
    refine x_lconst (pc' := 11) (a := 0) hC dX7_likely_10 (by decide) rfl ?_
    refine x_ldc2 (pc' := 14) (a := 6) hC kc_X7_172 dX7_likely_11 (by decide) rfl ?_
    refine x_callS (pc' := 17) (n := 3) hC (m_in (by omega) (by omega) (by omega)) ky_X7_in ks_X7_in kl_X7_58 dX7_likely_14 rfl rfl ⟨Nat.le_of_ble_eq_true rfl, Nat.le_of_ble_eq_true rfl⟩ (Nat.le_of_ble_eq_true rfl) ⟨Nat.le_refl _, Nat.le_refl _⟩ (Or.inl rfl) rfl (x_kd ?_)
    refine x_ifb_eq (tgt := 43) (pc' := 20) hC dX7_likely_17 (by decide) rfl (fun c17 => ?_) (fun c17 => ?_)
    · refine x_iconst (pc' := 44) hC dX7_likely_43 rfl ?_
      exact x_iret hC dX7_likely_44 (xI.mk ⟨by unfold aLikely; rw [if_neg (by omega)], hA, FrI.rf⟩)
    · refine x_iload_n (pc' := 21) hC dX7_likely_20 rfl rfl ?_
      refine x_i2l (pc' := 22) hC dX7_likely_21 (by omega) rfl ?_
      refine x_lconst (pc' := 23) (a := 0) hC dX7_likely_22 (by decide) rfl ?_
      refine x_ldc2 (pc' := 26) (a := 10) hC kc_X7_174 dX7_likely_23 (by decide) rfl ?_
      refine x_callS (pc' := 29) (n := 3) hC (m_in (by omega) (by omega) (by omega)) ky_X7_in ks_X7_in kl_X7_58 dX7_likely_26 rfl rfl ⟨Nat.le_of_ble_eq_true rfl, Nat.le_of_ble_eq_true rfl⟩ (Nat.le_of_ble_eq_true rfl) ⟨Nat.le_refl _, Nat.le_refl _⟩ (Or.inl rfl) rfl (x_kd ?_)
      refine x_ifb_eq (tgt := 43) (pc' := 32) hC dX7_likely_29 (by decide) rfl (fun c29 => ?_) (fun c29 => ?_)
      · refine x_iconst (pc' := 44) hC dX7_likely_43 rfl ?_
        exact x_iret hC dX7_likely_44 (xI.mk ⟨by unfold aLikely; rw [if_neg (by omega)], hA, FrI.rf⟩)
      · refine x_iload (pc' := 34) hC dX7_likely_32 rfl rfl ?_
        refine x_i2l (pc' := 35) hC dX7_likely_34 (by omega) rfl ?_
        refine x_lconst (pc' := 36) (a := 0) hC dX7_likely_35 (by decide) rfl ?_
        refine x_lconst (pc' := 37) (a := 1) hC dX7_likely_36 (by decide) rfl ?_
        refine x_callS (pc' := 40) (n := 3) hC (m_in (by omega) (by omega) (by omega)) ky_X7_in ks_X7_in kl_X7_58 dX7_likely_37 rfl rfl ⟨Nat.le_of_ble_eq_true rfl, Nat.le_of_ble_eq_true rfl⟩ (Nat.le_of_ble_eq_true rfl) ⟨Nat.le_refl _, Nat.le_refl _⟩ (Or.inl rfl) rfl (x_kd ?_)
        refine x_ifb_ne (tgt := 45) (pc' := 43) hC dX7_likely_40 (by decide) rfl (fun c40 => ?_) (fun c40 => ?_)
        · refine x_iconst (pc' := 46) hC dX7_likely_45 rfl ?_
          refine x_istore (pc' := 48) hC dX7_likely_46 (by decide) rfl rfl ?_
          refine x_iconst (pc' := 49) hC dX7_likely_48 rfl ?_
          refine x_istore (pc' := 51) hC dX7_likely_49 (by decide) rfl rfl ?_
          refine x_iconst (pc' := 52) hC dX7_likely_51 rfl ?_
          refine x_istore (pc' := 54) hC dX7_likely_52 (by decide) rfl rfl ?_
          exact loop (2 ^ n.toNat + 1) 0 _ _ μ c5 c17 c29 c40 rfl (Nat.zero_le _) rfl FrI.rf (Nat.lt_succ_of_le (Nat.sub_le _ _))
        · refine x_iconst (pc' := 44) hC dX7_likely_43 rfl ?_
          exact x_iret hC dX7_likely_44 (xI.mk ⟨by unfold aLikely; rw [if_neg (by omega)], hA, FrI.rf⟩)
