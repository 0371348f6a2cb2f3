/-! ===== the law: its loop ===== -/
theorem oc0 {xs : hv_X} : hv_oc xs 0 = xs := rfl
theorem cmp_self (v : Int64) : lg_cmp v v = 0 := by simp [lg_cmp]
section LAW
variable {xs : hv_X} {D MC MS : Nat} {Q : hv_Q} {c s i : Nat} {I : hI} {L : hL} {τ : Bool}
theorem lw_c0 (hD : 21 ≤ D) (hc : c ≤ MC) (hs : s ≤ MS) (hi : i + 4 ≤ xs.1) (hn : xs.1 ≤ 2048) (hR : Rel I L τ) (nx : ∀ I L τ, Rel I L τ → P_L_law xs D MC MS Q 755 [some (.retAddr 0), some (.ref 0), some (.ref 67), some (.int (nI i))] [] (hv_SH, c, s) (I, L, hv_PP τ)) : P_L_law xs D MC MS Q 148 [some (.retAddr 0), some (.ref 0), some (.ref 67), some (.int (nI i))] [] (hv_SH, c, s) (I, L, hv_PP τ) := by
  obtain ⟨I1, I2, L1, L2, τ1, v, ok1, ok2, hr⟩ := b_type (xs := xs) (xs.2 (i + 1)) hR
  have e2 : nI i + 2 = nI (i + 2) := nI_add i 2
  have e3 : nI i + 3 = nI (i + 3) := nI_add i 3
  have x1 : hv_ix (nI (i + 1)) xs.1 = true := hv_ix_nI (by omega) (by omega)
  have y1 : (nI (i + 1)).toNatClampNeg = i + 1 := nI_clamp (by omega)
  have x2 : hv_ix (nI (i + 2)) xs.1 = true := hv_ix_nI (by omega) (by omega)
  have y2 : (nI (i + 2)).toNatClampNeg = i + 2 := nI_clamp (by omega)
  have x3 : hv_ix (nI (i + 3)) xs.1 = true := hv_ix_nI (by omega) (by omega)
  have y3 : (nI (i + 3)).toNatClampNeg = i + 3 := nI_clamp (by omega)
  simp only [hv_drop_i, hv_drop_r, hv_drop_n, hv_drop_a, hv_rf_some, r_L_law_148, r_L_law_149, r_L_law_150, r_L_law_151, r_L_law_152, r_L_law_153, r_L_law_153o, hv_drop_i, hv_drop_r, hv_drop_n, hv_drop_a, hv_rf_some, oc0, show (0 : Nat) < 4 by decide, true_and, and_self, nI_1, e2, e3, x1, x2, x3, y1, y2, y3]
  refine k_L_law_154 (show hv_kd (hv_SH, c, s) 0 = some 6 from rfl) ok1 ?_ hc hs
  rintro _ _ _ ⟨rfl, rfl, rfl⟩
  show P_L_law xs D MC MS Q 157 [some (.retAddr 0), some (.ref 0), some (.ref 67), some (.int (nI i))] [.int v] (hv_SH, c, s) (I1, L1, hv_PP τ1)
  simp only [hv_drop_i, hv_drop_r, hv_drop_n, hv_drop_a, hv_rf_some, r_L_law_157, r_L_law_158, r_L_law_159, r_L_law_160, r_L_law_161, r_L_law_162, r_L_law_162o, hv_drop_i, hv_drop_r, hv_drop_n, hv_drop_a, hv_rf_some, oc0, show (0 : Nat) < 4 by decide, true_and, and_self, nI_1, e2, e3, x1, x2, x3, y1, y2, y3]
  refine k_L_law_163 (show hv_kd (hv_SH, c, s) 67 = some 7 from rfl) ok2 ?_ hc hs
  rintro _ _ _ ⟨rfl, rfl, rfl⟩
  show P_L_law xs D MC MS Q 166 [some (.retAddr 0), some (.ref 0), some (.ref 67), some (.int (nI i))] [.int v, .int v] (hv_SH, c, s) (I2, L2, hv_PP τ1)
  rw [r_L_law_166, if_pos rfl]
  exact nx I2 L2 τ1 hr
theorem lw_c1 (hD : 21 ≤ D) (hc : c ≤ MC) (hs : s ≤ MS) (hi : i + 4 ≤ xs.1) (hn : xs.1 ≤ 2048) (hR : Rel I L τ) (nx : ∀ I L τ, Rel I L τ → P_L_law xs D MC MS Q 755 [some (.retAddr 0), some (.ref 0), some (.ref 67), some (.int (nI i))] [] (hv_SH, c, s) (I, L, hv_PP τ)) : P_L_law xs D MC MS Q 171 [some (.retAddr 0), some (.ref 0), some (.ref 67), some (.int (nI i))] [] (hv_SH, c, s) (I, L, hv_PP τ) := by
  obtain ⟨I1, I2, L1, L2, τ1, v, ok1, ok2, hr⟩ := b_clear (xs := xs)  hR
  simp only [hv_drop_i, hv_drop_r, hv_drop_n, hv_drop_a, hv_rf_some, r_L_law_171, hv_drop_i, hv_drop_r, hv_drop_n, hv_drop_a]
  refine k_L_law_172 (show hv_kd (hv_SH, c, s) 0 = some 6 from rfl) ok1 ?_ hc hs
  rintro _ _ _ ⟨rfl, rfl, rfl⟩
  show P_L_law xs D MC MS Q 175 [some (.retAddr 0), some (.ref 0), some (.ref 67), some (.int (nI i))] [.int v] (hv_SH, c, s) (I1, L1, hv_PP τ1)
  simp only [hv_drop_i, hv_drop_r, hv_drop_n, hv_drop_a, hv_rf_some, r_L_law_175, hv_drop_i, hv_drop_r, hv_drop_n, hv_drop_a]
  refine k_L_law_176 (show hv_kd (hv_SH, c, s) 67 = some 7 from rfl) ok2 ?_ hc hs
  rintro _ _ _ ⟨rfl, rfl, rfl⟩
  show P_L_law xs D MC MS Q 179 [some (.retAddr 0), some (.ref 0), some (.ref 67), some (.int (nI i))] [.int v, .int v] (hv_SH, c, s) (I2, L2, hv_PP τ1)
  rw [r_L_law_179, if_pos rfl]
  exact nx I2 L2 τ1 hr
theorem lw_c2 (hD : 21 ≤ D) (hc : c ≤ MC) (hs : s ≤ MS) (hi : i + 4 ≤ xs.1) (hn : xs.1 ≤ 2048) (hR : Rel I L τ) (nx : ∀ I L τ, Rel I L τ → P_L_law xs D MC MS Q 755 [some (.retAddr 0), some (.ref 0), some (.ref 67), some (.int (nI i))] [] (hv_SH, c, s) (I, L, hv_PP τ)) : P_L_law xs D MC MS Q 184 [some (.retAddr 0), some (.ref 0), some (.ref 67), some (.int (nI i))] [] (hv_SH, c, s) (I, L, hv_PP τ) := by
  obtain ⟨I1, I2, L1, L2, τ1, v, ok1, ok2, hr⟩ := b_grotto (xs := xs)  hR
  simp only [hv_drop_i, hv_drop_r, hv_drop_n, hv_drop_a, hv_rf_some, r_L_law_184, hv_drop_i, hv_drop_r, hv_drop_n, hv_drop_a]
  refine k_L_law_185 (show hv_kd (hv_SH, c, s) 0 = some 6 from rfl) ok1 ?_ hc hs
  rintro _ _ _ ⟨rfl, rfl, rfl⟩
  show P_L_law xs D MC MS Q 188 [some (.retAddr 0), some (.ref 0), some (.ref 67), some (.int (nI i))] [.int v] (hv_SH, c, s) (I1, L1, hv_PP τ1)
  simp only [hv_drop_i, hv_drop_r, hv_drop_n, hv_drop_a, hv_rf_some, r_L_law_188, hv_drop_i, hv_drop_r, hv_drop_n, hv_drop_a]
  refine k_L_law_189 (show hv_kd (hv_SH, c, s) 67 = some 7 from rfl) ok2 ?_ hc hs
  rintro _ _ _ ⟨rfl, rfl, rfl⟩
  show P_L_law xs D MC MS Q 192 [some (.retAddr 0), some (.ref 0), some (.ref 67), some (.int (nI i))] [.int v, .int v] (hv_SH, c, s) (I2, L2, hv_PP τ1)
  rw [r_L_law_192, if_pos rfl]
  exact nx I2 L2 τ1 hr
theorem lw_c3 (hD : 21 ≤ D) (hc : c ≤ MC) (hs : s ≤ MS) (hi : i + 4 ≤ xs.1) (hn : xs.1 ≤ 2048) (hR : Rel I L τ) (nx : ∀ I L τ, Rel I L τ → P_L_law xs D MC MS Q 755 [some (.retAddr 0), some (.ref 0), some (.ref 67), some (.int (nI i))] [] (hv_SH, c, s) (I, L, hv_PP τ)) : P_L_law xs D MC MS Q 197 [some (.retAddr 0), some (.ref 0), some (.ref 67), some (.int (nI i))] [] (hv_SH, c, s) (I, L, hv_PP τ) := by
  obtain ⟨I1, I2, L1, L2, τ1, v, ok1, ok2, hr⟩ := b_turn (xs := xs) (xs.2 (i + 1)) (xs.2 (i + 2)) hR
  have e2 : nI i + 2 = nI (i + 2) := nI_add i 2
  have e3 : nI i + 3 = nI (i + 3) := nI_add i 3
  have x1 : hv_ix (nI (i + 1)) xs.1 = true := hv_ix_nI (by omega) (by omega)
  have y1 : (nI (i + 1)).toNatClampNeg = i + 1 := nI_clamp (by omega)
  have x2 : hv_ix (nI (i + 2)) xs.1 = true := hv_ix_nI (by omega) (by omega)
  have y2 : (nI (i + 2)).toNatClampNeg = i + 2 := nI_clamp (by omega)
  have x3 : hv_ix (nI (i + 3)) xs.1 = true := hv_ix_nI (by omega) (by omega)
  have y3 : (nI (i + 3)).toNatClampNeg = i + 3 := nI_clamp (by omega)
  simp only [hv_drop_i, hv_drop_r, hv_drop_n, hv_drop_a, hv_rf_some, r_L_law_197, r_L_law_198, r_L_law_199, r_L_law_200, r_L_law_201, r_L_law_202, r_L_law_202o, r_L_law_203, r_L_law_204, r_L_law_205, r_L_law_206, r_L_law_207, r_L_law_207o, hv_drop_i, hv_drop_r, hv_drop_n, hv_drop_a, hv_rf_some, oc0, show (0 : Nat) < 4 by decide, true_and, and_self, nI_1, e2, e3, x1, x2, x3, y1, y2, y3]
  refine k_L_law_208 (show hv_kd (hv_SH, c, s) 0 = some 6 from rfl) ok1 ?_ hc hs
  rintro _ _ _ ⟨rfl, rfl, rfl⟩
  show P_L_law xs D MC MS Q 211 [some (.retAddr 0), some (.ref 0), some (.ref 67), some (.int (nI i))] [.int v] (hv_SH, c, s) (I1, L1, hv_PP τ1)
  simp only [hv_drop_i, hv_drop_r, hv_drop_n, hv_drop_a, hv_rf_some, r_L_law_211, r_L_law_212, r_L_law_213, r_L_law_214, r_L_law_215, r_L_law_216, r_L_law_216o, r_L_law_217, r_L_law_218, r_L_law_219, r_L_law_220, r_L_law_221, r_L_law_221o, hv_drop_i, hv_drop_r, hv_drop_n, hv_drop_a, hv_rf_some, oc0, show (0 : Nat) < 4 by decide, true_and, and_self, nI_1, e2, e3, x1, x2, x3, y1, y2, y3]
  refine k_L_law_222 (show hv_kd (hv_SH, c, s) 67 = some 7 from rfl) ok2 ?_ hc hs
  rintro _ _ _ ⟨rfl, rfl, rfl⟩
  show P_L_law xs D MC MS Q 225 [some (.retAddr 0), some (.ref 0), some (.ref 67), some (.int (nI i))] [.int v, .int v] (hv_SH, c, s) (I2, L2, hv_PP τ1)
  rw [r_L_law_225, if_pos rfl]
  exact nx I2 L2 τ1 hr
theorem lw_c4 (hD : 21 ≤ D) (hc : c ≤ MC) (hs : s ≤ MS) (hi : i + 4 ≤ xs.1) (hn : xs.1 ≤ 2048) (hR : Rel I L τ) (nx : ∀ I L τ, Rel I L τ → P_L_law xs D MC MS Q 755 [some (.retAddr 0), some (.ref 0), some (.ref 67), some (.int (nI i))] [] (hv_SH, c, s) (I, L, hv_PP τ)) : P_L_law xs D MC MS Q 230 [some (.retAddr 0), some (.ref 0), some (.ref 67), some (.int (nI i))] [] (hv_SH, c, s) (I, L, hv_PP τ) := by
  obtain ⟨I1, I2, L1, L2, τ1, v, ok1, ok2, hr⟩ := b_family (xs := xs) (xs.2 (i + 1)) (xs.2 (i + 2)) hR
  have e2 : nI i + 2 = nI (i + 2) := nI_add i 2
  have e3 : nI i + 3 = nI (i + 3) := nI_add i 3
  have x1 : hv_ix (nI (i + 1)) xs.1 = true := hv_ix_nI (by omega) (by omega)
  have y1 : (nI (i + 1)).toNatClampNeg = i + 1 := nI_clamp (by omega)
  have x2 : hv_ix (nI (i + 2)) xs.1 = true := hv_ix_nI (by omega) (by omega)
  have y2 : (nI (i + 2)).toNatClampNeg = i + 2 := nI_clamp (by omega)
  have x3 : hv_ix (nI (i + 3)) xs.1 = true := hv_ix_nI (by omega) (by omega)
  have y3 : (nI (i + 3)).toNatClampNeg = i + 3 := nI_clamp (by omega)
  simp only [hv_drop_i, hv_drop_r, hv_drop_n, hv_drop_a, hv_rf_some, r_L_law_230, r_L_law_231, r_L_law_232, r_L_law_233, r_L_law_234, r_L_law_235, r_L_law_235o, r_L_law_236, r_L_law_237, r_L_law_238, r_L_law_239, r_L_law_240, r_L_law_240o, hv_drop_i, hv_drop_r, hv_drop_n, hv_drop_a, hv_rf_some, oc0, show (0 : Nat) < 4 by decide, true_and, and_self, nI_1, e2, e3, x1, x2, x3, y1, y2, y3]
  refine k_L_law_241 (show hv_kd (hv_SH, c, s) 0 = some 6 from rfl) ok1 ?_ hc hs
  rintro _ _ _ ⟨rfl, rfl, rfl⟩
  show P_L_law xs D MC MS Q 244 [some (.retAddr 0), some (.ref 0), some (.ref 67), some (.int (nI i))] [.int v] (hv_SH, c, s) (I1, L1, hv_PP τ1)
  simp only [hv_drop_i, hv_drop_r, hv_drop_n, hv_drop_a, hv_rf_some, r_L_law_244, r_L_law_245, r_L_law_246, r_L_law_247, r_L_law_248, r_L_law_249, r_L_law_249o, r_L_law_250, r_L_law_251, r_L_law_252, r_L_law_253, r_L_law_254, r_L_law_254o, hv_drop_i, hv_drop_r, hv_drop_n, hv_drop_a, hv_rf_some, oc0, show (0 : Nat) < 4 by decide, true_and, and_self, nI_1, e2, e3, x1, x2, x3, y1, y2, y3]
  refine k_L_law_255 (show hv_kd (hv_SH, c, s) 67 = some 7 from rfl) ok2 ?_ hc hs
  rintro _ _ _ ⟨rfl, rfl, rfl⟩
  show P_L_law xs D MC MS Q 258 [some (.retAddr 0), some (.ref 0), some (.ref 67), some (.int (nI i))] [.int v, .int v] (hv_SH, c, s) (I2, L2, hv_PP τ1)
  rw [r_L_law_258, if_pos rfl]
  exact nx I2 L2 τ1 hr
theorem lw_c5 (hD : 21 ≤ D) (hc : c ≤ MC) (hs : s ≤ MS) (hi : i + 4 ≤ xs.1) (hn : xs.1 ≤ 2048) (hR : Rel I L τ) (nx : ∀ I L τ, Rel I L τ → P_L_law xs D MC MS Q 755 [some (.retAddr 0), some (.ref 0), some (.ref 67), some (.int (nI i))] [] (hv_SH, c, s) (I, L, hv_PP τ)) : P_L_law xs D MC MS Q 263 [some (.retAddr 0), some (.ref 0), some (.ref 67), some (.int (nI i))] [] (hv_SH, c, s) (I, L, hv_PP τ) := by
  obtain ⟨I1, I2, L1, L2, τ1, v, ok1, ok2, hr⟩ := b_gives (xs := xs) (xs.2 (i + 1)) (xs.2 (i + 2)) hR
  have e2 : nI i + 2 = nI (i + 2) := nI_add i 2
  have e3 : nI i + 3 = nI (i + 3) := nI_add i 3
  have x1 : hv_ix (nI (i + 1)) xs.1 = true := hv_ix_nI (by omega) (by omega)
  have y1 : (nI (i + 1)).toNatClampNeg = i + 1 := nI_clamp (by omega)
  have x2 : hv_ix (nI (i + 2)) xs.1 = true := hv_ix_nI (by omega) (by omega)
  have y2 : (nI (i + 2)).toNatClampNeg = i + 2 := nI_clamp (by omega)
  have x3 : hv_ix (nI (i + 3)) xs.1 = true := hv_ix_nI (by omega) (by omega)
  have y3 : (nI (i + 3)).toNatClampNeg = i + 3 := nI_clamp (by omega)
  simp only [hv_drop_i, hv_drop_r, hv_drop_n, hv_drop_a, hv_rf_some, r_L_law_263, r_L_law_264, r_L_law_265, r_L_law_266, r_L_law_267, r_L_law_268, r_L_law_268o, r_L_law_269, r_L_law_270, r_L_law_271, r_L_law_272, r_L_law_273, r_L_law_273o, hv_drop_i, hv_drop_r, hv_drop_n, hv_drop_a, hv_rf_some, oc0, show (0 : Nat) < 4 by decide, true_and, and_self, nI_1, e2, e3, x1, x2, x3, y1, y2, y3]
  refine k_L_law_274 (show hv_kd (hv_SH, c, s) 0 = some 6 from rfl) ok1 ?_ hc hs
  rintro _ _ _ ⟨rfl, rfl, rfl⟩
  show P_L_law xs D MC MS Q 277 [some (.retAddr 0), some (.ref 0), some (.ref 67), some (.int (nI i))] [.int v] (hv_SH, c, s) (I1, L1, hv_PP τ1)
  simp only [hv_drop_i, hv_drop_r, hv_drop_n, hv_drop_a, hv_rf_some, r_L_law_277, r_L_law_278, r_L_law_279, r_L_law_280, r_L_law_281, r_L_law_282, r_L_law_282o, r_L_law_283, r_L_law_284, r_L_law_285, r_L_law_286, r_L_law_287, r_L_law_287o, hv_drop_i, hv_drop_r, hv_drop_n, hv_drop_a, hv_rf_some, oc0, show (0 : Nat) < 4 by decide, true_and, and_self, nI_1, e2, e3, x1, x2, x3, y1, y2, y3]
  refine k_L_law_288 (show hv_kd (hv_SH, c, s) 67 = some 7 from rfl) ok2 ?_ hc hs
  rintro _ _ _ ⟨rfl, rfl, rfl⟩
  show P_L_law xs D MC MS Q 291 [some (.retAddr 0), some (.ref 0), some (.ref 67), some (.int (nI i))] [.int v, .int v] (hv_SH, c, s) (I2, L2, hv_PP τ1)
  rw [r_L_law_291, if_pos rfl]
  exact nx I2 L2 τ1 hr
theorem lw_c6 (hD : 21 ≤ D) (hc : c ≤ MC) (hs : s ≤ MS) (hi : i + 4 ≤ xs.1) (hn : xs.1 ≤ 2048) (hR : Rel I L τ) (nx : ∀ I L τ, Rel I L τ → P_L_law xs D MC MS Q 755 [some (.retAddr 0), some (.ref 0), some (.ref 67), some (.int (nI i))] [] (hv_SH, c, s) (I, L, hv_PP τ)) : P_L_law xs D MC MS Q 296 [some (.retAddr 0), some (.ref 0), some (.ref 67), some (.int (nI i))] [] (hv_SH, c, s) (I, L, hv_PP τ) := by
  obtain ⟨I1, I2, L1, L2, τ1, v, ok1, ok2, hr⟩ := b_swaps (xs := xs) (xs.2 (i + 1)) (xs.2 (i + 2)) hR
  have e2 : nI i + 2 = nI (i + 2) := nI_add i 2
  have e3 : nI i + 3 = nI (i + 3) := nI_add i 3
  have x1 : hv_ix (nI (i + 1)) xs.1 = true := hv_ix_nI (by omega) (by omega)
  have y1 : (nI (i + 1)).toNatClampNeg = i + 1 := nI_clamp (by omega)
  have x2 : hv_ix (nI (i + 2)) xs.1 = true := hv_ix_nI (by omega) (by omega)
  have y2 : (nI (i + 2)).toNatClampNeg = i + 2 := nI_clamp (by omega)
  have x3 : hv_ix (nI (i + 3)) xs.1 = true := hv_ix_nI (by omega) (by omega)
  have y3 : (nI (i + 3)).toNatClampNeg = i + 3 := nI_clamp (by omega)
  simp only [hv_drop_i, hv_drop_r, hv_drop_n, hv_drop_a, hv_rf_some, r_L_law_296, r_L_law_297, r_L_law_298, r_L_law_299, r_L_law_300, r_L_law_301, r_L_law_301o, r_L_law_302, r_L_law_303, r_L_law_304, r_L_law_305, r_L_law_306, r_L_law_306o, hv_drop_i, hv_drop_r, hv_drop_n, hv_drop_a, hv_rf_some, oc0, show (0 : Nat) < 4 by decide, true_and, and_self, nI_1, e2, e3, x1, x2, x3, y1, y2, y3]
  refine k_L_law_307 (show hv_kd (hv_SH, c, s) 0 = some 6 from rfl) ok1 ?_ hc hs
  rintro _ _ _ ⟨rfl, rfl, rfl⟩
  show P_L_law xs D MC MS Q 310 [some (.retAddr 0), some (.ref 0), some (.ref 67), some (.int (nI i))] [.int v] (hv_SH, c, s) (I1, L1, hv_PP τ1)
  simp only [hv_drop_i, hv_drop_r, hv_drop_n, hv_drop_a, hv_rf_some, r_L_law_310, r_L_law_311, r_L_law_312, r_L_law_313, r_L_law_314, r_L_law_315, r_L_law_315o, r_L_law_316, r_L_law_317, r_L_law_318, r_L_law_319, r_L_law_320, r_L_law_320o, hv_drop_i, hv_drop_r, hv_drop_n, hv_drop_a, hv_rf_some, oc0, show (0 : Nat) < 4 by decide, true_and, and_self, nI_1, e2, e3, x1, x2, x3, y1, y2, y3]
  refine k_L_law_321 (show hv_kd (hv_SH, c, s) 67 = some 7 from rfl) ok2 ?_ hc hs
  rintro _ _ _ ⟨rfl, rfl, rfl⟩
  show P_L_law xs D MC MS Q 324 [some (.retAddr 0), some (.ref 0), some (.ref 67), some (.int (nI i))] [.int v, .int v] (hv_SH, c, s) (I2, L2, hv_PP τ1)
  rw [r_L_law_324, if_pos rfl]
  exact nx I2 L2 τ1 hr
theorem lw_c7 (hD : 21 ≤ D) (hc : c ≤ MC) (hs : s ≤ MS) (hi : i + 4 ≤ xs.1) (hn : xs.1 ≤ 2048) (hR : Rel I L τ) (nx : ∀ I L τ, Rel I L τ → P_L_law xs D MC MS Q 755 [some (.retAddr 0), some (.ref 0), some (.ref 67), some (.int (nI i))] [] (hv_SH, c, s) (I, L, hv_PP τ)) : P_L_law xs D MC MS Q 329 [some (.retAddr 0), some (.ref 0), some (.ref 67), some (.int (nI i))] [] (hv_SH, c, s) (I, L, hv_PP τ) := by
  obtain ⟨I1, I2, L1, L2, τ1, v, ok1, ok2, hr⟩ := b_year (xs := xs)  hR
  simp only [hv_drop_i, hv_drop_r, hv_drop_n, hv_drop_a, hv_rf_some, r_L_law_329, hv_drop_i, hv_drop_r, hv_drop_n, hv_drop_a]
  refine k_L_law_330 (show hv_kd (hv_SH, c, s) 0 = some 6 from rfl) ok1 ?_ hc hs
  rintro _ _ _ ⟨rfl, rfl, rfl⟩
  show P_L_law xs D MC MS Q 333 [some (.retAddr 0), some (.ref 0), some (.ref 67), some (.int (nI i))] [.int v] (hv_SH, c, s) (I1, L1, hv_PP τ1)
  simp only [hv_drop_i, hv_drop_r, hv_drop_n, hv_drop_a, hv_rf_some, r_L_law_333, hv_drop_i, hv_drop_r, hv_drop_n, hv_drop_a]
  refine k_L_law_334 (show hv_kd (hv_SH, c, s) 67 = some 7 from rfl) ok2 ?_ hc hs
  rintro _ _ _ ⟨rfl, rfl, rfl⟩
  show P_L_law xs D MC MS Q 337 [some (.retAddr 0), some (.ref 0), some (.ref 67), some (.int (nI i))] [.int v, .int v] (hv_SH, c, s) (I2, L2, hv_PP τ1)
  rw [r_L_law_337, if_pos rfl]
  exact nx I2 L2 τ1 hr
theorem lw_c8 (hD : 21 ≤ D) (hc : c ≤ MC) (hs : s ≤ MS) (hi : i + 4 ≤ xs.1) (hn : xs.1 ≤ 2048) (hR : Rel I L τ) (nx : ∀ I L τ, Rel I L τ → P_L_law xs D MC MS Q 755 [some (.retAddr 0), some (.ref 0), some (.ref 67), some (.int (nI i))] [] (hv_SH, c, s) (I, L, hv_PP τ)) : P_L_law xs D MC MS Q 342 [some (.retAddr 0), some (.ref 0), some (.ref 67), some (.int (nI i))] [] (hv_SH, c, s) (I, L, hv_PP τ) := by
  obtain ⟨I1, I2, L1, L2, τ1, v, ok1, ok2, hr⟩ := b_undo (xs := xs)  hR
  simp only [hv_drop_i, hv_drop_r, hv_drop_n, hv_drop_a, hv_rf_some, r_L_law_342, hv_drop_i, hv_drop_r, hv_drop_n, hv_drop_a]
  refine k_L_law_343 (show hv_kd (hv_SH, c, s) 0 = some 6 from rfl) ok1 ?_ hc hs
  rintro _ _ _ ⟨rfl, rfl, rfl⟩
  show P_L_law xs D MC MS Q 346 [some (.retAddr 0), some (.ref 0), some (.ref 67), some (.int (nI i))] [.int v] (hv_SH, c, s) (I1, L1, hv_PP τ1)
  simp only [hv_drop_i, hv_drop_r, hv_drop_n, hv_drop_a, hv_rf_some, r_L_law_346, hv_drop_i, hv_drop_r, hv_drop_n, hv_drop_a]
  refine k_L_law_347 (show hv_kd (hv_SH, c, s) 67 = some 7 from rfl) ok2 ?_ hc hs
  rintro _ _ _ ⟨rfl, rfl, rfl⟩
  show P_L_law xs D MC MS Q 350 [some (.retAddr 0), some (.ref 0), some (.ref 67), some (.int (nI i))] [.int v, .int v] (hv_SH, c, s) (I2, L2, hv_PP τ1)
  rw [r_L_law_350, if_pos rfl]
  exact nx I2 L2 τ1 hr
theorem lw_c9 (hD : 21 ≤ D) (hc : c ≤ MC) (hs : s ≤ MS) (hi : i + 4 ≤ xs.1) (hn : xs.1 ≤ 2048) (hR : Rel I L τ) (nx : ∀ I L τ, Rel I L τ → P_L_law xs D MC MS Q 755 [some (.retAddr 0), some (.ref 0), some (.ref 67), some (.int (nI i))] [] (hv_SH, c, s) (I, L, hv_PP τ)) : P_L_law xs D MC MS Q 355 [some (.retAddr 0), some (.ref 0), some (.ref 67), some (.int (nI i))] [] (hv_SH, c, s) (I, L, hv_PP τ) := by
  obtain ⟨I1, I2, L1, L2, τ1, v, ok1, ok2, hr⟩ := b_now (xs := xs) (xs.2 (i + 1)) hR
  have e2 : nI i + 2 = nI (i + 2) := nI_add i 2
  have e3 : nI i + 3 = nI (i + 3) := nI_add i 3
  have x1 : hv_ix (nI (i + 1)) xs.1 = true := hv_ix_nI (by omega) (by omega)
  have y1 : (nI (i + 1)).toNatClampNeg = i + 1 := nI_clamp (by omega)
  have x2 : hv_ix (nI (i + 2)) xs.1 = true := hv_ix_nI (by omega) (by omega)
  have y2 : (nI (i + 2)).toNatClampNeg = i + 2 := nI_clamp (by omega)
  have x3 : hv_ix (nI (i + 3)) xs.1 = true := hv_ix_nI (by omega) (by omega)
  have y3 : (nI (i + 3)).toNatClampNeg = i + 3 := nI_clamp (by omega)
  simp only [hv_drop_i, hv_drop_r, hv_drop_n, hv_drop_a, hv_rf_some, r_L_law_355, r_L_law_356, r_L_law_357, r_L_law_358, r_L_law_359, r_L_law_360, r_L_law_360o, hv_drop_i, hv_drop_r, hv_drop_n, hv_drop_a, hv_rf_some, oc0, show (0 : Nat) < 4 by decide, true_and, and_self, nI_1, e2, e3, x1, x2, x3, y1, y2, y3]
  refine k_L_law_361 (show hv_kd (hv_SH, c, s) 0 = some 6 from rfl) ok1 ?_ hc hs
  rintro _ _ _ ⟨rfl, rfl, rfl⟩
  show P_L_law xs D MC MS Q 364 [some (.retAddr 0), some (.ref 0), some (.ref 67), some (.int (nI i))] [.int v] (hv_SH, c, s) (I1, L1, hv_PP τ1)
  simp only [hv_drop_i, hv_drop_r, hv_drop_n, hv_drop_a, hv_rf_some, r_L_law_364, r_L_law_365, r_L_law_366, r_L_law_367, r_L_law_368, r_L_law_369, r_L_law_369o, hv_drop_i, hv_drop_r, hv_drop_n, hv_drop_a, hv_rf_some, oc0, show (0 : Nat) < 4 by decide, true_and, and_self, nI_1, e2, e3, x1, x2, x3, y1, y2, y3]
  refine k_L_law_370 (show hv_kd (hv_SH, c, s) 67 = some 7 from rfl) ok2 ?_ hc hs
  rintro _ _ _ ⟨rfl, rfl, rfl⟩
  show P_L_law xs D MC MS Q 373 [some (.retAddr 0), some (.ref 0), some (.ref 67), some (.int (nI i))] [.int v, .int v] (hv_SH, c, s) (I2, L2, hv_PP τ1)
  rw [r_L_law_373, if_pos rfl]
  exact nx I2 L2 τ1 hr
theorem lw_c10 (hD : 21 ≤ D) (hc : c ≤ MC) (hs : s ≤ MS) (hi : i + 4 ≤ xs.1) (hn : xs.1 ≤ 2048) (hR : Rel I L τ) (nx : ∀ I L τ, Rel I L τ → P_L_law xs D MC MS Q 755 [some (.retAddr 0), some (.ref 0), some (.ref 67), some (.int (nI i))] [] (hv_SH, c, s) (I, L, hv_PP τ)) : P_L_law xs D MC MS Q 378 [some (.retAddr 0), some (.ref 0), some (.ref 67), some (.int (nI i))] [] (hv_SH, c, s) (I, L, hv_PP τ) := by
  obtain ⟨I1, I2, L1, L2, τ1, v, ok1, ok2, hr⟩ := b_most (xs := xs) (xs.2 (i + 1)) hR
  have e2 : nI i + 2 = nI (i + 2) := nI_add i 2
  have e3 : nI i + 3 = nI (i + 3) := nI_add i 3
  have x1 : hv_ix (nI (i + 1)) xs.1 = true := hv_ix_nI (by omega) (by omega)
  have y1 : (nI (i + 1)).toNatClampNeg = i + 1 := nI_clamp (by omega)
  have x2 : hv_ix (nI (i + 2)) xs.1 = true := hv_ix_nI (by omega) (by omega)
  have y2 : (nI (i + 2)).toNatClampNeg = i + 2 := nI_clamp (by omega)
  have x3 : hv_ix (nI (i + 3)) xs.1 = true := hv_ix_nI (by omega) (by omega)
  have y3 : (nI (i + 3)).toNatClampNeg = i + 3 := nI_clamp (by omega)
  simp only [hv_drop_i, hv_drop_r, hv_drop_n, hv_drop_a, hv_rf_some, r_L_law_378, r_L_law_379, r_L_law_380, r_L_law_381, r_L_law_382, r_L_law_383, r_L_law_383o, hv_drop_i, hv_drop_r, hv_drop_n, hv_drop_a, hv_rf_some, oc0, show (0 : Nat) < 4 by decide, true_and, and_self, nI_1, e2, e3, x1, x2, x3, y1, y2, y3]
  refine k_L_law_384 (show hv_kd (hv_SH, c, s) 0 = some 6 from rfl) ok1 ?_ hc hs
  rintro _ _ _ ⟨rfl, rfl, rfl⟩
  show P_L_law xs D MC MS Q 387 [some (.retAddr 0), some (.ref 0), some (.ref 67), some (.int (nI i))] [.int v] (hv_SH, c, s) (I1, L1, hv_PP τ1)
  simp only [hv_drop_i, hv_drop_r, hv_drop_n, hv_drop_a, hv_rf_some, r_L_law_387, r_L_law_388, r_L_law_389, r_L_law_390, r_L_law_391, r_L_law_392, r_L_law_392o, hv_drop_i, hv_drop_r, hv_drop_n, hv_drop_a, hv_rf_some, oc0, show (0 : Nat) < 4 by decide, true_and, and_self, nI_1, e2, e3, x1, x2, x3, y1, y2, y3]
  refine k_L_law_393 (show hv_kd (hv_SH, c, s) 67 = some 7 from rfl) ok2 ?_ hc hs
  rintro _ _ _ ⟨rfl, rfl, rfl⟩
  show P_L_law xs D MC MS Q 396 [some (.retAddr 0), some (.ref 0), some (.ref 67), some (.int (nI i))] [.int v, .int v] (hv_SH, c, s) (I2, L2, hv_PP τ1)
  rw [r_L_law_396, if_pos rfl]
  exact nx I2 L2 τ1 hr
theorem lw_c11 (hD : 21 ≤ D) (hc : c ≤ MC) (hs : s ≤ MS) (hi : i + 4 ≤ xs.1) (hn : xs.1 ≤ 2048) (hR : Rel I L τ) (nx : ∀ I L τ, Rel I L τ → P_L_law xs D MC MS Q 755 [some (.retAddr 0), some (.ref 0), some (.ref 67), some (.int (nI i))] [] (hv_SH, c, s) (I, L, hv_PP τ)) : P_L_law xs D MC MS Q 401 [some (.retAddr 0), some (.ref 0), some (.ref 67), some (.int (nI i))] [] (hv_SH, c, s) (I, L, hv_PP τ) := by
  obtain ⟨I1, I2, L1, L2, τ1, v, ok1, ok2, hr⟩ := b_fair (xs := xs) (xs.2 (i + 1)) hR
  have e2 : nI i + 2 = nI (i + 2) := nI_add i 2
  have e3 : nI i + 3 = nI (i + 3) := nI_add i 3
  have x1 : hv_ix (nI (i + 1)) xs.1 = true := hv_ix_nI (by omega) (by omega)
  have y1 : (nI (i + 1)).toNatClampNeg = i + 1 := nI_clamp (by omega)
  have x2 : hv_ix (nI (i + 2)) xs.1 = true := hv_ix_nI (by omega) (by omega)
  have y2 : (nI (i + 2)).toNatClampNeg = i + 2 := nI_clamp (by omega)
  have x3 : hv_ix (nI (i + 3)) xs.1 = true := hv_ix_nI (by omega) (by omega)
  have y3 : (nI (i + 3)).toNatClampNeg = i + 3 := nI_clamp (by omega)
  simp only [hv_drop_i, hv_drop_r, hv_drop_n, hv_drop_a, hv_rf_some, r_L_law_401, r_L_law_402, r_L_law_403, r_L_law_404, r_L_law_405, r_L_law_406, r_L_law_406o, hv_drop_i, hv_drop_r, hv_drop_n, hv_drop_a, hv_rf_some, oc0, show (0 : Nat) < 4 by decide, true_and, and_self, nI_1, e2, e3, x1, x2, x3, y1, y2, y3]
  refine k_L_law_407 (show hv_kd (hv_SH, c, s) 0 = some 6 from rfl) ok1 ?_ hc hs
  rintro _ _ _ ⟨rfl, rfl, rfl⟩
  show P_L_law xs D MC MS Q 410 [some (.retAddr 0), some (.ref 0), some (.ref 67), some (.int (nI i))] [.int v] (hv_SH, c, s) (I1, L1, hv_PP τ1)
  simp only [hv_drop_i, hv_drop_r, hv_drop_n, hv_drop_a, hv_rf_some, r_L_law_410, r_L_law_411, r_L_law_412, r_L_law_413, r_L_law_414, r_L_law_415, r_L_law_415o, hv_drop_i, hv_drop_r, hv_drop_n, hv_drop_a, hv_rf_some, oc0, show (0 : Nat) < 4 by decide, true_and, and_self, nI_1, e2, e3, x1, x2, x3, y1, y2, y3]
  refine k_L_law_416 (show hv_kd (hv_SH, c, s) 67 = some 7 from rfl) ok2 ?_ hc hs
  rintro _ _ _ ⟨rfl, rfl, rfl⟩
  show P_L_law xs D MC MS Q 419 [some (.retAddr 0), some (.ref 0), some (.ref 67), some (.int (nI i))] [.int v, .int v] (hv_SH, c, s) (I2, L2, hv_PP τ1)
  rw [r_L_law_419, if_pos rfl]
  exact nx I2 L2 τ1 hr
theorem lw_c12 (hD : 21 ≤ D) (hc : c ≤ MC) (hs : s ≤ MS) (hi : i + 4 ≤ xs.1) (hn : xs.1 ≤ 2048) (hR : Rel I L τ) (nx : ∀ I L τ, Rel I L τ → P_L_law xs D MC MS Q 755 [some (.retAddr 0), some (.ref 0), some (.ref 67), some (.int (nI i))] [] (hv_SH, c, s) (I, L, hv_PP τ)) : P_L_law xs D MC MS Q 424 [some (.retAddr 0), some (.ref 0), some (.ref 67), some (.int (nI i))] [] (hv_SH, c, s) (I, L, hv_PP τ) := by
  obtain ⟨I1, I2, L1, L2, τ1, v, ok1, ok2, hr⟩ := b_rather (xs := xs) (xs.2 (i + 1)) hR
  have e2 : nI i + 2 = nI (i + 2) := nI_add i 2
  have e3 : nI i + 3 = nI (i + 3) := nI_add i 3
  have x1 : hv_ix (nI (i + 1)) xs.1 = true := hv_ix_nI (by omega) (by omega)
  have y1 : (nI (i + 1)).toNatClampNeg = i + 1 := nI_clamp (by omega)
  have x2 : hv_ix (nI (i + 2)) xs.1 = true := hv_ix_nI (by omega) (by omega)
  have y2 : (nI (i + 2)).toNatClampNeg = i + 2 := nI_clamp (by omega)
  have x3 : hv_ix (nI (i + 3)) xs.1 = true := hv_ix_nI (by omega) (by omega)
  have y3 : (nI (i + 3)).toNatClampNeg = i + 3 := nI_clamp (by omega)
  simp only [hv_drop_i, hv_drop_r, hv_drop_n, hv_drop_a, hv_rf_some, r_L_law_424, r_L_law_425, r_L_law_426, r_L_law_427, r_L_law_428, r_L_law_429, r_L_law_429o, hv_drop_i, hv_drop_r, hv_drop_n, hv_drop_a, hv_rf_some, oc0, show (0 : Nat) < 4 by decide, true_and, and_self, nI_1, e2, e3, x1, x2, x3, y1, y2, y3]
  refine k_L_law_430 (show hv_kd (hv_SH, c, s) 0 = some 6 from rfl) ok1 ?_ hc hs
  rintro _ _ _ ⟨rfl, rfl, rfl⟩
  show P_L_law xs D MC MS Q 433 [some (.retAddr 0), some (.ref 0), some (.ref 67), some (.int (nI i))] [.int v] (hv_SH, c, s) (I1, L1, hv_PP τ1)
  simp only [hv_drop_i, hv_drop_r, hv_drop_n, hv_drop_a, hv_rf_some, r_L_law_433, r_L_law_434, r_L_law_435, r_L_law_436, r_L_law_437, r_L_law_438, r_L_law_438o, hv_drop_i, hv_drop_r, hv_drop_n, hv_drop_a, hv_rf_some, oc0, show (0 : Nat) < 4 by decide, true_and, and_self, nI_1, e2, e3, x1, x2, x3, y1, y2, y3]
  refine k_L_law_439 (show hv_kd (hv_SH, c, s) 67 = some 7 from rfl) ok2 ?_ hc hs
  rintro _ _ _ ⟨rfl, rfl, rfl⟩
  show P_L_law xs D MC MS Q 442 [some (.retAddr 0), some (.ref 0), some (.ref 67), some (.int (nI i))] [.int v, .int v] (hv_SH, c, s) (I2, L2, hv_PP τ1)
  rw [r_L_law_442, if_pos rfl]
  exact nx I2 L2 τ1 hr
theorem lw_c13 (hD : 21 ≤ D) (hc : c ≤ MC) (hs : s ≤ MS) (hi : i + 4 ≤ xs.1) (hn : xs.1 ≤ 2048) (hR : Rel I L τ) (nx : ∀ I L τ, Rel I L τ → P_L_law xs D MC MS Q 755 [some (.retAddr 0), some (.ref 0), some (.ref 67), some (.int (nI i))] [] (hv_SH, c, s) (I, L, hv_PP τ)) : P_L_law xs D MC MS Q 447 [some (.retAddr 0), some (.ref 0), some (.ref 67), some (.int (nI i))] [] (hv_SH, c, s) (I, L, hv_PP τ) := by
  obtain ⟨I1, I2, L1, L2, τ1, v, ok1, ok2, hr⟩ := b_entry (xs := xs) (xs.2 (i + 1)) (xs.2 (i + 2)) (xs.2 (i + 3)) hR
  have e2 : nI i + 2 = nI (i + 2) := nI_add i 2
  have e3 : nI i + 3 = nI (i + 3) := nI_add i 3
  have x1 : hv_ix (nI (i + 1)) xs.1 = true := hv_ix_nI (by omega) (by omega)
  have y1 : (nI (i + 1)).toNatClampNeg = i + 1 := nI_clamp (by omega)
  have x2 : hv_ix (nI (i + 2)) xs.1 = true := hv_ix_nI (by omega) (by omega)
  have y2 : (nI (i + 2)).toNatClampNeg = i + 2 := nI_clamp (by omega)
  have x3 : hv_ix (nI (i + 3)) xs.1 = true := hv_ix_nI (by omega) (by omega)
  have y3 : (nI (i + 3)).toNatClampNeg = i + 3 := nI_clamp (by omega)
  simp only [hv_drop_i, hv_drop_r, hv_drop_n, hv_drop_a, hv_rf_some, r_L_law_447, r_L_law_448, r_L_law_449, r_L_law_450, r_L_law_451, r_L_law_452, r_L_law_452o, r_L_law_453, r_L_law_454, r_L_law_455, r_L_law_456, r_L_law_457, r_L_law_457o, r_L_law_458, r_L_law_459, r_L_law_460, r_L_law_461, r_L_law_462, r_L_law_462o, hv_drop_i, hv_drop_r, hv_drop_n, hv_drop_a, hv_rf_some, oc0, show (0 : Nat) < 4 by decide, true_and, and_self, nI_1, e2, e3, x1, x2, x3, y1, y2, y3]
  refine k_L_law_463 (show hv_kd (hv_SH, c, s) 0 = some 6 from rfl) ok1 ?_ hc hs
  rintro _ _ _ ⟨rfl, rfl, rfl⟩
  show P_L_law xs D MC MS Q 466 [some (.retAddr 0), some (.ref 0), some (.ref 67), some (.int (nI i))] [.int v] (hv_SH, c, s) (I1, L1, hv_PP τ1)
  simp only [hv_drop_i, hv_drop_r, hv_drop_n, hv_drop_a, hv_rf_some, r_L_law_466, r_L_law_467, r_L_law_468, r_L_law_469, r_L_law_470, r_L_law_471, r_L_law_471o, r_L_law_472, r_L_law_473, r_L_law_474, r_L_law_475, r_L_law_476, r_L_law_476o, r_L_law_477, r_L_law_478, r_L_law_479, r_L_law_480, r_L_law_481, r_L_law_481o, hv_drop_i, hv_drop_r, hv_drop_n, hv_drop_a, hv_rf_some, oc0, show (0 : Nat) < 4 by decide, true_and, and_self, nI_1, e2, e3, x1, x2, x3, y1, y2, y3]
  refine k_L_law_482 (show hv_kd (hv_SH, c, s) 67 = some 7 from rfl) ok2 ?_ hc hs
  rintro _ _ _ ⟨rfl, rfl, rfl⟩
  show P_L_law xs D MC MS Q 485 [some (.retAddr 0), some (.ref 0), some (.ref 67), some (.int (nI i))] [.int v, .int v] (hv_SH, c, s) (I2, L2, hv_PP τ1)
  rw [r_L_law_485, if_pos rfl]
  exact nx I2 L2 τ1 hr
theorem lw_c14 (hD : 21 ≤ D) (hc : c ≤ MC) (hs : s ≤ MS) (hi : i + 4 ≤ xs.1) (hn : xs.1 ≤ 2048) (hR : Rel I L τ) (nx : ∀ I L τ, Rel I L τ → P_L_law xs D MC MS Q 755 [some (.retAddr 0), some (.ref 0), some (.ref 67), some (.int (nI i))] [] (hv_SH, c, s) (I, L, hv_PP τ)) : P_L_law xs D MC MS Q 490 [some (.retAddr 0), some (.ref 0), some (.ref 67), some (.int (nI i))] [] (hv_SH, c, s) (I, L, hv_PP τ) := by
  obtain ⟨I1, I2, L1, L2, τ1, v, ok1, ok2, hr⟩ := b_odds (xs := xs) (xs.2 (i + 1)) (xs.2 (i + 2)) hR
  have e2 : nI i + 2 = nI (i + 2) := nI_add i 2
  have e3 : nI i + 3 = nI (i + 3) := nI_add i 3
  have x1 : hv_ix (nI (i + 1)) xs.1 = true := hv_ix_nI (by omega) (by omega)
  have y1 : (nI (i + 1)).toNatClampNeg = i + 1 := nI_clamp (by omega)
  have x2 : hv_ix (nI (i + 2)) xs.1 = true := hv_ix_nI (by omega) (by omega)
  have y2 : (nI (i + 2)).toNatClampNeg = i + 2 := nI_clamp (by omega)
  have x3 : hv_ix (nI (i + 3)) xs.1 = true := hv_ix_nI (by omega) (by omega)
  have y3 : (nI (i + 3)).toNatClampNeg = i + 3 := nI_clamp (by omega)
  simp only [hv_drop_i, hv_drop_r, hv_drop_n, hv_drop_a, hv_rf_some, r_L_law_490, r_L_law_491, r_L_law_492, r_L_law_493, r_L_law_494, r_L_law_495, r_L_law_495o, r_L_law_496, r_L_law_497, r_L_law_498, r_L_law_499, r_L_law_500, r_L_law_500o, hv_drop_i, hv_drop_r, hv_drop_n, hv_drop_a, hv_rf_some, oc0, show (0 : Nat) < 4 by decide, true_and, and_self, nI_1, e2, e3, x1, x2, x3, y1, y2, y3]
  refine k_L_law_501 (show hv_kd (hv_SH, c, s) 0 = some 6 from rfl) ok1 ?_ hc hs
  rintro _ _ _ ⟨rfl, rfl, rfl⟩
  show P_L_law xs D MC MS Q 504 [some (.retAddr 0), some (.ref 0), some (.ref 67), some (.int (nI i))] [.long v] (hv_SH, c, s) (I1, L1, hv_PP τ1)
  simp only [hv_drop_i, hv_drop_r, hv_drop_n, hv_drop_a, hv_rf_some, r_L_law_504, r_L_law_505, r_L_law_506, r_L_law_507, r_L_law_508, r_L_law_509, r_L_law_509o, r_L_law_510, r_L_law_511, r_L_law_512, r_L_law_513, r_L_law_514, r_L_law_514o, hv_drop_i, hv_drop_r, hv_drop_n, hv_drop_a, hv_rf_some, oc0, show (0 : Nat) < 4 by decide, true_and, and_self, nI_1, e2, e3, x1, x2, x3, y1, y2, y3]
  refine k_L_law_515 (show hv_kd (hv_SH, c, s) 67 = some 7 from rfl) ok2 ?_ hc hs
  rintro _ _ _ ⟨rfl, rfl, rfl⟩
  show P_L_law xs D MC MS Q 518 [some (.retAddr 0), some (.ref 0), some (.ref 67), some (.int (nI i))] [.long v, .long v] (hv_SH, c, s) (I2, L2, hv_PP τ1)
  rw [r_L_law_518, cmp_self, r_L_law_519, if_pos rfl]
  exact nx I2 L2 τ1 hr
theorem lw_c15 (hD : 21 ≤ D) (hc : c ≤ MC) (hs : s ≤ MS) (hi : i + 4 ≤ xs.1) (hn : xs.1 ≤ 2048) (hR : Rel I L τ) (nx : ∀ I L τ, Rel I L τ → P_L_law xs D MC MS Q 755 [some (.retAddr 0), some (.ref 0), some (.ref 67), some (.int (nI i))] [] (hv_SH, c, s) (I, L, hv_PP τ)) : P_L_law xs D MC MS Q 524 [some (.retAddr 0), some (.ref 0), some (.ref 67), some (.int (nI i))] [] (hv_SH, c, s) (I, L, hv_PP τ) := by
  obtain ⟨I1, I2, L1, L2, τ1, v, ok1, ok2, hr⟩ := b_saw (xs := xs) (xs.2 (i + 1)) (xs.2 (i + 2)) hR
  have e2 : nI i + 2 = nI (i + 2) := nI_add i 2
  have e3 : nI i + 3 = nI (i + 3) := nI_add i 3
  have x1 : hv_ix (nI (i + 1)) xs.1 = true := hv_ix_nI (by omega) (by omega)
  have y1 : (nI (i + 1)).toNatClampNeg = i + 1 := nI_clamp (by omega)
  have x2 : hv_ix (nI (i + 2)) xs.1 = true := hv_ix_nI (by omega) (by omega)
  have y2 : (nI (i + 2)).toNatClampNeg = i + 2 := nI_clamp (by omega)
  have x3 : hv_ix (nI (i + 3)) xs.1 = true := hv_ix_nI (by omega) (by omega)
  have y3 : (nI (i + 3)).toNatClampNeg = i + 3 := nI_clamp (by omega)
  simp only [hv_drop_i, hv_drop_r, hv_drop_n, hv_drop_a, hv_rf_some, r_L_law_524, r_L_law_525, r_L_law_526, r_L_law_527, r_L_law_528, r_L_law_529, r_L_law_529o, r_L_law_530, r_L_law_531, r_L_law_532, r_L_law_533, r_L_law_534, r_L_law_534o, hv_drop_i, hv_drop_r, hv_drop_n, hv_drop_a, hv_rf_some, oc0, show (0 : Nat) < 4 by decide, true_and, and_self, nI_1, e2, e3, x1, x2, x3, y1, y2, y3]
  refine k_L_law_535 (show hv_kd (hv_SH, c, s) 0 = some 6 from rfl) ok1 ?_ hc hs
  rintro _ _ _ ⟨rfl, rfl, rfl⟩
  show P_L_law xs D MC MS Q 538 [some (.retAddr 0), some (.ref 0), some (.ref 67), some (.int (nI i))] [.int v] (hv_SH, c, s) (I1, L1, hv_PP τ1)
  simp only [hv_drop_i, hv_drop_r, hv_drop_n, hv_drop_a, hv_rf_some, r_L_law_538, r_L_law_539, r_L_law_540, r_L_law_541, r_L_law_542, r_L_law_543, r_L_law_543o, r_L_law_544, r_L_law_545, r_L_law_546, r_L_law_547, r_L_law_548, r_L_law_548o, hv_drop_i, hv_drop_r, hv_drop_n, hv_drop_a, hv_rf_some, oc0, show (0 : Nat) < 4 by decide, true_and, and_self, nI_1, e2, e3, x1, x2, x3, y1, y2, y3]
  refine k_L_law_549 (show hv_kd (hv_SH, c, s) 67 = some 7 from rfl) ok2 ?_ hc hs
  rintro _ _ _ ⟨rfl, rfl, rfl⟩
  show P_L_law xs D MC MS Q 552 [some (.retAddr 0), some (.ref 0), some (.ref 67), some (.int (nI i))] [.int v, .int v] (hv_SH, c, s) (I2, L2, hv_PP τ1)
  rw [r_L_law_552, if_pos rfl]
  exact nx I2 L2 τ1 hr
theorem lw_c16 (hD : 21 ≤ D) (hc : c ≤ MC) (hs : s ≤ MS) (hi : i + 4 ≤ xs.1) (hn : xs.1 ≤ 2048) (hR : Rel I L τ) (nx : ∀ I L τ, Rel I L τ → P_L_law xs D MC MS Q 755 [some (.retAddr 0), some (.ref 0), some (.ref 67), some (.int (nI i))] [] (hv_SH, c, s) (I, L, hv_PP τ)) : P_L_law xs D MC MS Q 557 [some (.retAddr 0), some (.ref 0), some (.ref 67), some (.int (nI i))] [] (hv_SH, c, s) (I, L, hv_PP τ) := by
  obtain ⟨I1, I2, L1, L2, τ1, v, ok1, ok2, hr⟩ := b_forget (xs := xs)  hR
  simp only [hv_drop_i, hv_drop_r, hv_drop_n, hv_drop_a, hv_rf_some, r_L_law_557, hv_drop_i, hv_drop_r, hv_drop_n, hv_drop_a]
  refine k_L_law_558 (show hv_kd (hv_SH, c, s) 0 = some 6 from rfl) ok1 ?_ hc hs
  rintro _ _ _ ⟨rfl, rfl, rfl⟩
  show P_L_law xs D MC MS Q 561 [some (.retAddr 0), some (.ref 0), some (.ref 67), some (.int (nI i))] [.int v] (hv_SH, c, s) (I1, L1, hv_PP τ1)
  simp only [hv_drop_i, hv_drop_r, hv_drop_n, hv_drop_a, hv_rf_some, r_L_law_561, hv_drop_i, hv_drop_r, hv_drop_n, hv_drop_a]
  refine k_L_law_562 (show hv_kd (hv_SH, c, s) 67 = some 7 from rfl) ok2 ?_ hc hs
  rintro _ _ _ ⟨rfl, rfl, rfl⟩
  show P_L_law xs D MC MS Q 565 [some (.retAddr 0), some (.ref 0), some (.ref 67), some (.int (nI i))] [.int v, .int v] (hv_SH, c, s) (I2, L2, hv_PP τ1)
  rw [r_L_law_565, if_pos rfl]
  exact nx I2 L2 τ1 hr
theorem lw_c17 (hD : 21 ≤ D) (hc : c ≤ MC) (hs : s ≤ MS) (hi : i + 4 ≤ xs.1) (hn : xs.1 ≤ 2048) (hR : Rel I L τ) (nx : ∀ I L τ, Rel I L τ → P_L_law xs D MC MS Q 755 [some (.retAddr 0), some (.ref 0), some (.ref 67), some (.int (nI i))] [] (hv_SH, c, s) (I, L, hv_PP τ)) : P_L_law xs D MC MS Q 570 [some (.retAddr 0), some (.ref 0), some (.ref 67), some (.int (nI i))] [] (hv_SH, c, s) (I, L, hv_PP τ) := by
  obtain ⟨I1, I2, L1, L2, τ1, v, ok1, ok2, hr⟩ := b_ways (xs := xs) (xs.2 (i + 1)) hR
  have e2 : nI i + 2 = nI (i + 2) := nI_add i 2
  have e3 : nI i + 3 = nI (i + 3) := nI_add i 3
  have x1 : hv_ix (nI (i + 1)) xs.1 = true := hv_ix_nI (by omega) (by omega)
  have y1 : (nI (i + 1)).toNatClampNeg = i + 1 := nI_clamp (by omega)
  have x2 : hv_ix (nI (i + 2)) xs.1 = true := hv_ix_nI (by omega) (by omega)
  have y2 : (nI (i + 2)).toNatClampNeg = i + 2 := nI_clamp (by omega)
  have x3 : hv_ix (nI (i + 3)) xs.1 = true := hv_ix_nI (by omega) (by omega)
  have y3 : (nI (i + 3)).toNatClampNeg = i + 3 := nI_clamp (by omega)
  simp only [hv_drop_i, hv_drop_r, hv_drop_n, hv_drop_a, hv_rf_some, r_L_law_570, r_L_law_571, r_L_law_572, r_L_law_573, r_L_law_574, r_L_law_575, r_L_law_575o, hv_drop_i, hv_drop_r, hv_drop_n, hv_drop_a, hv_rf_some, oc0, show (0 : Nat) < 4 by decide, true_and, and_self, nI_1, e2, e3, x1, x2, x3, y1, y2, y3]
  refine k_L_law_576 (show hv_kd (hv_SH, c, s) 0 = some 6 from rfl) ok1 ?_ hc hs
  rintro _ _ _ ⟨rfl, rfl, rfl⟩
  show P_L_law xs D MC MS Q 579 [some (.retAddr 0), some (.ref 0), some (.ref 67), some (.int (nI i))] [.int v] (hv_SH, c, s) (I1, L1, hv_PP τ1)
  simp only [hv_drop_i, hv_drop_r, hv_drop_n, hv_drop_a, hv_rf_some, r_L_law_579, r_L_law_580, r_L_law_581, r_L_law_582, r_L_law_583, r_L_law_584, r_L_law_584o, hv_drop_i, hv_drop_r, hv_drop_n, hv_drop_a, hv_rf_some, oc0, show (0 : Nat) < 4 by decide, true_and, and_self, nI_1, e2, e3, x1, x2, x3, y1, y2, y3]
  refine k_L_law_585 (show hv_kd (hv_SH, c, s) 67 = some 7 from rfl) ok2 ?_ hc hs
  rintro _ _ _ ⟨rfl, rfl, rfl⟩
  show P_L_law xs D MC MS Q 588 [some (.retAddr 0), some (.ref 0), some (.ref 67), some (.int (nI i))] [.int v, .int v] (hv_SH, c, s) (I2, L2, hv_PP τ1)
  rw [r_L_law_588, if_pos rfl]
  exact nx I2 L2 τ1 hr
theorem lw_c18 (hD : 21 ≤ D) (hc : c ≤ MC) (hs : s ≤ MS) (hi : i + 4 ≤ xs.1) (hn : xs.1 ≤ 2048) (hR : Rel I L τ) (nx : ∀ I L τ, Rel I L τ → P_L_law xs D MC MS Q 755 [some (.retAddr 0), some (.ref 0), some (.ref 67), some (.int (nI i))] [] (hv_SH, c, s) (I, L, hv_PP τ)) : P_L_law xs D MC MS Q 593 [some (.retAddr 0), some (.ref 0), some (.ref 67), some (.int (nI i))] [] (hv_SH, c, s) (I, L, hv_PP τ) := by
  obtain ⟨I1, I2, L1, L2, τ1, v, ok1, ok2, hr⟩ := b_cheese (xs := xs) (xs.2 (i + 1)) hR
  have e2 : nI i + 2 = nI (i + 2) := nI_add i 2
  have e3 : nI i + 3 = nI (i + 3) := nI_add i 3
  have x1 : hv_ix (nI (i + 1)) xs.1 = true := hv_ix_nI (by omega) (by omega)
  have y1 : (nI (i + 1)).toNatClampNeg = i + 1 := nI_clamp (by omega)
  have x2 : hv_ix (nI (i + 2)) xs.1 = true := hv_ix_nI (by omega) (by omega)
  have y2 : (nI (i + 2)).toNatClampNeg = i + 2 := nI_clamp (by omega)
  have x3 : hv_ix (nI (i + 3)) xs.1 = true := hv_ix_nI (by omega) (by omega)
  have y3 : (nI (i + 3)).toNatClampNeg = i + 3 := nI_clamp (by omega)
  simp only [hv_drop_i, hv_drop_r, hv_drop_n, hv_drop_a, hv_rf_some, r_L_law_593, r_L_law_594, r_L_law_595, r_L_law_596, r_L_law_597, r_L_law_598, r_L_law_598o, hv_drop_i, hv_drop_r, hv_drop_n, hv_drop_a, hv_rf_some, oc0, show (0 : Nat) < 4 by decide, true_and, and_self, nI_1, e2, e3, x1, x2, x3, y1, y2, y3]
  refine k_L_law_599 (show hv_kd (hv_SH, c, s) 0 = some 6 from rfl) ok1 ?_ hc hs
  rintro _ _ _ ⟨rfl, rfl, rfl⟩
  show P_L_law xs D MC MS Q 602 [some (.retAddr 0), some (.ref 0), some (.ref 67), some (.int (nI i))] [.int v] (hv_SH, c, s) (I1, L1, hv_PP τ1)
  simp only [hv_drop_i, hv_drop_r, hv_drop_n, hv_drop_a, hv_rf_some, r_L_law_602, r_L_law_603, r_L_law_604, r_L_law_605, r_L_law_606, r_L_law_607, r_L_law_607o, hv_drop_i, hv_drop_r, hv_drop_n, hv_drop_a, hv_rf_some, oc0, show (0 : Nat) < 4 by decide, true_and, and_self, nI_1, e2, e3, x1, x2, x3, y1, y2, y3]
  refine k_L_law_608 (show hv_kd (hv_SH, c, s) 67 = some 7 from rfl) ok2 ?_ hc hs
  rintro _ _ _ ⟨rfl, rfl, rfl⟩
  show P_L_law xs D MC MS Q 611 [some (.retAddr 0), some (.ref 0), some (.ref 67), some (.int (nI i))] [.int v, .int v] (hv_SH, c, s) (I2, L2, hv_PP τ1)
  rw [r_L_law_611, if_pos rfl]
  exact nx I2 L2 τ1 hr
theorem lw_c19 (hD : 21 ≤ D) (hc : c ≤ MC) (hs : s ≤ MS) (hi : i + 4 ≤ xs.1) (hn : xs.1 ≤ 2048) (hR : Rel I L τ) (nx : ∀ I L τ, Rel I L τ → P_L_law xs D MC MS Q 755 [some (.retAddr 0), some (.ref 0), some (.ref 67), some (.int (nI i))] [] (hv_SH, c, s) (I, L, hv_PP τ)) : P_L_law xs D MC MS Q 616 [some (.retAddr 0), some (.ref 0), some (.ref 67), some (.int (nI i))] [] (hv_SH, c, s) (I, L, hv_PP τ) := by
  obtain ⟨I1, I2, L1, L2, τ1, v, ok1, ok2, hr⟩ := b_free (xs := xs) (xs.2 (i + 1)) hR
  have e2 : nI i + 2 = nI (i + 2) := nI_add i 2
  have e3 : nI i + 3 = nI (i + 3) := nI_add i 3
  have x1 : hv_ix (nI (i + 1)) xs.1 = true := hv_ix_nI (by omega) (by omega)
  have y1 : (nI (i + 1)).toNatClampNeg = i + 1 := nI_clamp (by omega)
  have x2 : hv_ix (nI (i + 2)) xs.1 = true := hv_ix_nI (by omega) (by omega)
  have y2 : (nI (i + 2)).toNatClampNeg = i + 2 := nI_clamp (by omega)
  have x3 : hv_ix (nI (i + 3)) xs.1 = true := hv_ix_nI (by omega) (by omega)
  have y3 : (nI (i + 3)).toNatClampNeg = i + 3 := nI_clamp (by omega)
  simp only [hv_drop_i, hv_drop_r, hv_drop_n, hv_drop_a, hv_rf_some, r_L_law_616, r_L_law_617, r_L_law_618, r_L_law_619, r_L_law_620, r_L_law_621, r_L_law_621o, hv_drop_i, hv_drop_r, hv_drop_n, hv_drop_a, hv_rf_some, oc0, show (0 : Nat) < 4 by decide, true_and, and_self, nI_1, e2, e3, x1, x2, x3, y1, y2, y3]
  refine k_L_law_622 (show hv_kd (hv_SH, c, s) 0 = some 6 from rfl) ok1 ?_ hc hs
  rintro _ _ _ ⟨rfl, rfl, rfl⟩
  show P_L_law xs D MC MS Q 625 [some (.retAddr 0), some (.ref 0), some (.ref 67), some (.int (nI i))] [.int v] (hv_SH, c, s) (I1, L1, hv_PP τ1)
  simp only [hv_drop_i, hv_drop_r, hv_drop_n, hv_drop_a, hv_rf_some, r_L_law_625, r_L_law_626, r_L_law_627, r_L_law_628, r_L_law_629, r_L_law_630, r_L_law_630o, hv_drop_i, hv_drop_r, hv_drop_n, hv_drop_a, hv_rf_some, oc0, show (0 : Nat) < 4 by decide, true_and, and_self, nI_1, e2, e3, x1, x2, x3, y1, y2, y3]
  refine k_L_law_631 (show hv_kd (hv_SH, c, s) 67 = some 7 from rfl) ok2 ?_ hc hs
  rintro _ _ _ ⟨rfl, rfl, rfl⟩
  show P_L_law xs D MC MS Q 634 [some (.retAddr 0), some (.ref 0), some (.ref 67), some (.int (nI i))] [.int v, .int v] (hv_SH, c, s) (I2, L2, hv_PP τ1)
  rw [r_L_law_634, if_pos rfl]
  exact nx I2 L2 τ1 hr
theorem lw_c20 (hD : 21 ≤ D) (hc : c ≤ MC) (hs : s ≤ MS) (hi : i + 4 ≤ xs.1) (hn : xs.1 ≤ 2048) (hR : Rel I L τ) (nx : ∀ I L τ, Rel I L τ → P_L_law xs D MC MS Q 755 [some (.retAddr 0), some (.ref 0), some (.ref 67), some (.int (nI i))] [] (hv_SH, c, s) (I, L, hv_PP τ)) : P_L_law xs D MC MS Q 639 [some (.retAddr 0), some (.ref 0), some (.ref 67), some (.int (nI i))] [] (hv_SH, c, s) (I, L, hv_PP τ) := by
  obtain ⟨I1, I2, L1, L2, τ1, v, ok1, ok2, hr⟩ := b_mark (xs := xs) (xs.2 (i + 1)) (xs.2 (i + 2)) hR
  have e2 : nI i + 2 = nI (i + 2) := nI_add i 2
  have e3 : nI i + 3 = nI (i + 3) := nI_add i 3
  have x1 : hv_ix (nI (i + 1)) xs.1 = true := hv_ix_nI (by omega) (by omega)
  have y1 : (nI (i + 1)).toNatClampNeg = i + 1 := nI_clamp (by omega)
  have x2 : hv_ix (nI (i + 2)) xs.1 = true := hv_ix_nI (by omega) (by omega)
  have y2 : (nI (i + 2)).toNatClampNeg = i + 2 := nI_clamp (by omega)
  have x3 : hv_ix (nI (i + 3)) xs.1 = true := hv_ix_nI (by omega) (by omega)
  have y3 : (nI (i + 3)).toNatClampNeg = i + 3 := nI_clamp (by omega)
  simp only [hv_drop_i, hv_drop_r, hv_drop_n, hv_drop_a, hv_rf_some, r_L_law_639, r_L_law_640, r_L_law_641, r_L_law_642, r_L_law_643, r_L_law_644, r_L_law_644o, r_L_law_645, r_L_law_646, r_L_law_647, r_L_law_648, r_L_law_649, r_L_law_649o, hv_drop_i, hv_drop_r, hv_drop_n, hv_drop_a, hv_rf_some, oc0, show (0 : Nat) < 4 by decide, true_and, and_self, nI_1, e2, e3, x1, x2, x3, y1, y2, y3]
  refine k_L_law_650 (show hv_kd (hv_SH, c, s) 0 = some 6 from rfl) ok1 ?_ hc hs
  rintro _ _ _ ⟨rfl, rfl, rfl⟩
  show P_L_law xs D MC MS Q 653 [some (.retAddr 0), some (.ref 0), some (.ref 67), some (.int (nI i))] [.int v] (hv_SH, c, s) (I1, L1, hv_PP τ1)
  simp only [hv_drop_i, hv_drop_r, hv_drop_n, hv_drop_a, hv_rf_some, r_L_law_653, r_L_law_654, r_L_law_655, r_L_law_656, r_L_law_657, r_L_law_658, r_L_law_658o, r_L_law_659, r_L_law_660, r_L_law_661, r_L_law_662, r_L_law_663, r_L_law_663o, hv_drop_i, hv_drop_r, hv_drop_n, hv_drop_a, hv_rf_some, oc0, show (0 : Nat) < 4 by decide, true_and, and_self, nI_1, e2, e3, x1, x2, x3, y1, y2, y3]
  refine k_L_law_664 (show hv_kd (hv_SH, c, s) 67 = some 7 from rfl) ok2 ?_ hc hs
  rintro _ _ _ ⟨rfl, rfl, rfl⟩
  show P_L_law xs D MC MS Q 667 [some (.retAddr 0), some (.ref 0), some (.ref 67), some (.int (nI i))] [.int v, .int v] (hv_SH, c, s) (I2, L2, hv_PP τ1)
  rw [r_L_law_667, if_pos rfl]
  exact nx I2 L2 τ1 hr
theorem lw_c21 (hD : 21 ≤ D) (hc : c ≤ MC) (hs : s ≤ MS) (hi : i + 4 ≤ xs.1) (hn : xs.1 ≤ 2048) (hR : Rel I L τ) (nx : ∀ I L τ, Rel I L τ → P_L_law xs D MC MS Q 755 [some (.retAddr 0), some (.ref 0), some (.ref 67), some (.int (nI i))] [] (hv_SH, c, s) (I, L, hv_PP τ)) : P_L_law xs D MC MS Q 672 [some (.retAddr 0), some (.ref 0), some (.ref 67), some (.int (nI i))] [] (hv_SH, c, s) (I, L, hv_PP τ) := by
  obtain ⟨I1, I2, L1, L2, τ1, v, ok1, ok2, hr⟩ := b_keep (xs := xs) (xs.2 (i + 1)) hR
  have e2 : nI i + 2 = nI (i + 2) := nI_add i 2
  have e3 : nI i + 3 = nI (i + 3) := nI_add i 3
  have x1 : hv_ix (nI (i + 1)) xs.1 = true := hv_ix_nI (by omega) (by omega)
  have y1 : (nI (i + 1)).toNatClampNeg = i + 1 := nI_clamp (by omega)
  have x2 : hv_ix (nI (i + 2)) xs.1 = true := hv_ix_nI (by omega) (by omega)
  have y2 : (nI (i + 2)).toNatClampNeg = i + 2 := nI_clamp (by omega)
  have x3 : hv_ix (nI (i + 3)) xs.1 = true := hv_ix_nI (by omega) (by omega)
  have y3 : (nI (i + 3)).toNatClampNeg = i + 3 := nI_clamp (by omega)
  simp only [hv_drop_i, hv_drop_r, hv_drop_n, hv_drop_a, hv_rf_some, r_L_law_672, r_L_law_673, r_L_law_674, r_L_law_675, r_L_law_676, r_L_law_677, r_L_law_677o, hv_drop_i, hv_drop_r, hv_drop_n, hv_drop_a, hv_rf_some, oc0, show (0 : Nat) < 4 by decide, true_and, and_self, nI_1, e2, e3, x1, x2, x3, y1, y2, y3]
  refine k_L_law_678 (show hv_kd (hv_SH, c, s) 0 = some 6 from rfl) ok1 ?_ hc hs
  rintro _ _ _ ⟨rfl, rfl, rfl⟩
  show P_L_law xs D MC MS Q 681 [some (.retAddr 0), some (.ref 0), some (.ref 67), some (.int (nI i))] [.int v] (hv_SH, c, s) (I1, L1, hv_PP τ1)
  simp only [hv_drop_i, hv_drop_r, hv_drop_n, hv_drop_a, hv_rf_some, r_L_law_681, r_L_law_682, r_L_law_683, r_L_law_684, r_L_law_685, r_L_law_686, r_L_law_686o, hv_drop_i, hv_drop_r, hv_drop_n, hv_drop_a, hv_rf_some, oc0, show (0 : Nat) < 4 by decide, true_and, and_self, nI_1, e2, e3, x1, x2, x3, y1, y2, y3]
  refine k_L_law_687 (show hv_kd (hv_SH, c, s) 67 = some 7 from rfl) ok2 ?_ hc hs
  rintro _ _ _ ⟨rfl, rfl, rfl⟩
  show P_L_law xs D MC MS Q 690 [some (.retAddr 0), some (.ref 0), some (.ref 67), some (.int (nI i))] [.int v, .int v] (hv_SH, c, s) (I2, L2, hv_PP τ1)
  rw [r_L_law_690, if_pos rfl]
  exact nx I2 L2 τ1 hr
theorem lw_c22 (hD : 21 ≤ D) (hc : c ≤ MC) (hs : s ≤ MS) (hi : i + 4 ≤ xs.1) (hn : xs.1 ≤ 2048) (hR : Rel I L τ) (nx : ∀ I L τ, Rel I L τ → P_L_law xs D MC MS Q 755 [some (.retAddr 0), some (.ref 0), some (.ref 67), some (.int (nI i))] [] (hv_SH, c, s) (I, L, hv_PP τ)) : P_L_law xs D MC MS Q 695 [some (.retAddr 0), some (.ref 0), some (.ref 67), some (.int (nI i))] [] (hv_SH, c, s) (I, L, hv_PP τ) := by
  obtain ⟨I1, I2, L1, L2, τ1, v, ok1, ok2, hr⟩ := b_back (xs := xs) (xs.2 (i + 1)) hR
  have e2 : nI i + 2 = nI (i + 2) := nI_add i 2
  have e3 : nI i + 3 = nI (i + 3) := nI_add i 3
  have x1 : hv_ix (nI (i + 1)) xs.1 = true := hv_ix_nI (by omega) (by omega)
  have y1 : (nI (i + 1)).toNatClampNeg = i + 1 := nI_clamp (by omega)
  have x2 : hv_ix (nI (i + 2)) xs.1 = true := hv_ix_nI (by omega) (by omega)
  have y2 : (nI (i + 2)).toNatClampNeg = i + 2 := nI_clamp (by omega)
  have x3 : hv_ix (nI (i + 3)) xs.1 = true := hv_ix_nI (by omega) (by omega)
  have y3 : (nI (i + 3)).toNatClampNeg = i + 3 := nI_clamp (by omega)
  simp only [hv_drop_i, hv_drop_r, hv_drop_n, hv_drop_a, hv_rf_some, r_L_law_695, r_L_law_696, r_L_law_697, r_L_law_698, r_L_law_699, r_L_law_700, r_L_law_700o, hv_drop_i, hv_drop_r, hv_drop_n, hv_drop_a, hv_rf_some, oc0, show (0 : Nat) < 4 by decide, true_and, and_self, nI_1, e2, e3, x1, x2, x3, y1, y2, y3]
  refine k_L_law_701 (show hv_kd (hv_SH, c, s) 0 = some 6 from rfl) ok1 ?_ hc hs
  rintro _ _ _ ⟨rfl, rfl, rfl⟩
  show P_L_law xs D MC MS Q 704 [some (.retAddr 0), some (.ref 0), some (.ref 67), some (.int (nI i))] [.int v] (hv_SH, c, s) (I1, L1, hv_PP τ1)
  simp only [hv_drop_i, hv_drop_r, hv_drop_n, hv_drop_a, hv_rf_some, r_L_law_704, r_L_law_705, r_L_law_706, r_L_law_707, r_L_law_708, r_L_law_709, r_L_law_709o, hv_drop_i, hv_drop_r, hv_drop_n, hv_drop_a, hv_rf_some, oc0, show (0 : Nat) < 4 by decide, true_and, and_self, nI_1, e2, e3, x1, x2, x3, y1, y2, y3]
  refine k_L_law_710 (show hv_kd (hv_SH, c, s) 67 = some 7 from rfl) ok2 ?_ hc hs
  rintro _ _ _ ⟨rfl, rfl, rfl⟩
  show P_L_law xs D MC MS Q 713 [some (.retAddr 0), some (.ref 0), some (.ref 67), some (.int (nI i))] [.int v, .int v] (hv_SH, c, s) (I2, L2, hv_PP τ1)
  rw [r_L_law_713, if_pos rfl]
  exact nx I2 L2 τ1 hr
theorem lw_c23 (hD : 21 ≤ D) (hc : c ≤ MC) (hs : s ≤ MS) (hi : i + 4 ≤ xs.1) (hn : xs.1 ≤ 2048) (hR : Rel I L τ) (nx : ∀ I L τ, Rel I L τ → P_L_law xs D MC MS Q 755 [some (.retAddr 0), some (.ref 0), some (.ref 67), some (.int (nI i))] [] (hv_SH, c, s) (I, L, hv_PP τ)) : P_L_law xs D MC MS Q 718 [some (.retAddr 0), some (.ref 0), some (.ref 67), some (.int (nI i))] [] (hv_SH, c, s) (I, L, hv_PP τ) := by
  obtain ⟨I1, I2, L1, L2, τ1, v, ok1, ok2, hr⟩ := b_count (xs := xs) (xs.2 (i + 1)) hR
  have e2 : nI i + 2 = nI (i + 2) := nI_add i 2
  have e3 : nI i + 3 = nI (i + 3) := nI_add i 3
  have x1 : hv_ix (nI (i + 1)) xs.1 = true := hv_ix_nI (by omega) (by omega)
  have y1 : (nI (i + 1)).toNatClampNeg = i + 1 := nI_clamp (by omega)
  have x2 : hv_ix (nI (i + 2)) xs.1 = true := hv_ix_nI (by omega) (by omega)
  have y2 : (nI (i + 2)).toNatClampNeg = i + 2 := nI_clamp (by omega)
  have x3 : hv_ix (nI (i + 3)) xs.1 = true := hv_ix_nI (by omega) (by omega)
  have y3 : (nI (i + 3)).toNatClampNeg = i + 3 := nI_clamp (by omega)
  simp only [hv_drop_i, hv_drop_r, hv_drop_n, hv_drop_a, hv_rf_some, r_L_law_718, r_L_law_719, r_L_law_720, r_L_law_721, r_L_law_722, r_L_law_723, r_L_law_723o, hv_drop_i, hv_drop_r, hv_drop_n, hv_drop_a, hv_rf_some, oc0, show (0 : Nat) < 4 by decide, true_and, and_self, nI_1, e2, e3, x1, x2, x3, y1, y2, y3]
  refine k_L_law_724 (show hv_kd (hv_SH, c, s) 0 = some 6 from rfl) ok1 ?_ hc hs
  rintro _ _ _ ⟨rfl, rfl, rfl⟩
  show P_L_law xs D MC MS Q 727 [some (.retAddr 0), some (.ref 0), some (.ref 67), some (.int (nI i))] [.int v] (hv_SH, c, s) (I1, L1, hv_PP τ1)
  simp only [hv_drop_i, hv_drop_r, hv_drop_n, hv_drop_a, hv_rf_some, r_L_law_727, r_L_law_728, r_L_law_729, r_L_law_730, r_L_law_731, r_L_law_732, r_L_law_732o, hv_drop_i, hv_drop_r, hv_drop_n, hv_drop_a, hv_rf_some, oc0, show (0 : Nat) < 4 by decide, true_and, and_self, nI_1, e2, e3, x1, x2, x3, y1, y2, y3]
  refine k_L_law_733 (show hv_kd (hv_SH, c, s) 67 = some 7 from rfl) ok2 ?_ hc hs
  rintro _ _ _ ⟨rfl, rfl, rfl⟩
  show P_L_law xs D MC MS Q 736 [some (.retAddr 0), some (.ref 0), some (.ref 67), some (.int (nI i))] [.int v, .int v] (hv_SH, c, s) (I2, L2, hv_PP τ1)
  rw [r_L_law_736, if_pos rfl]
  exact nx I2 L2 τ1 hr
theorem lw_c24 (hD : 21 ≤ D) (hc : c ≤ MC) (hs : s ≤ MS) (hi : i + 4 ≤ xs.1) (hn : xs.1 ≤ 2048) (hR : Rel I L τ) (nx : ∀ I L τ, Rel I L τ → P_L_law xs D MC MS Q 755 [some (.retAddr 0), some (.ref 0), some (.ref 67), some (.int (nI i))] [] (hv_SH, c, s) (I, L, hv_PP τ)) : P_L_law xs D MC MS Q 741 [some (.retAddr 0), some (.ref 0), some (.ref 67), some (.int (nI i))] [] (hv_SH, c, s) (I, L, hv_PP τ) := by
  obtain ⟨I1, I2, L1, L2, τ1, v, ok1, ok2, hr⟩ := b_trace (xs := xs)  hR
  simp only [hv_drop_i, hv_drop_r, hv_drop_n, hv_drop_a, hv_rf_some, r_L_law_741, hv_drop_i, hv_drop_r, hv_drop_n, hv_drop_a]
  refine k_L_law_742 (show hv_kd (hv_SH, c, s) 0 = some 6 from rfl) ok1 ?_ hc hs
  rintro _ _ _ ⟨rfl, rfl, rfl⟩
  show P_L_law xs D MC MS Q 745 [some (.retAddr 0), some (.ref 0), some (.ref 67), some (.int (nI i))] [.long v] (hv_SH, c, s) (I1, L1, hv_PP τ1)
  simp only [hv_drop_i, hv_drop_r, hv_drop_n, hv_drop_a, hv_rf_some, r_L_law_745, hv_drop_i, hv_drop_r, hv_drop_n, hv_drop_a]
  refine k_L_law_746 (show hv_kd (hv_SH, c, s) 67 = some 7 from rfl) ok2 ?_ hc hs
  rintro _ _ _ ⟨rfl, rfl, rfl⟩
  show P_L_law xs D MC MS Q 749 [some (.retAddr 0), some (.ref 0), some (.ref 67), some (.int (nI i))] [.long v, .long v] (hv_SH, c, s) (I2, L2, hv_PP τ1)
  rw [r_L_law_749, cmp_self, r_L_law_750, if_pos rfl]
  exact nx I2 L2 τ1 hr
theorem law_loop (hD : 21 ≤ D) (hc : c ≤ MC) (hs : s ≤ MS) (hn : xs.1 ≤ 2048) (hQ : ∀ μ, Q (some (.int 1)) (hv_SH, c, s) μ) : ∀ k i (I : hI) (L : hL) (τ : Bool), xs.1 < i + k → i ≤ 4096 → Rel I L τ → P_L_law xs D MC MS Q 18 [some (.retAddr 0), some (.ref 0), some (.ref 67), some (.int (nI i))] [] (hv_SH, c, s) (I, L, hv_PP τ) := by
  intro k
  have ends : ∀ i (I : hI) (L : hL) (τ : Bool), i ≤ 4096 → ¬ (i + 4 ≤ xs.1) → P_L_law xs D MC MS Q 18 [some (.retAddr 0), some (.ref 0), some (.ref 67), some (.int (nI i))] [] (hv_SH, c, s) (I, L, hv_PP τ) := by
    intro i I L τ hi hni
    have hlt : Int32.ofNat xs.1 - 4 < nI i := by
      rw [i_lt, show Int32.ofNat xs.1 - 4 = nI xs.1 - nI 4 from rfl, pk_sub_toInt (by omega) (by omega), nI_toInt (by omega)]
      omega
    simp only [hv_drop_i, hv_drop_r, hv_drop_n, hv_drop_a, hv_rf_some, r_L_law_18, r_L_law_19, r_L_law_20, r_L_law_21, r_L_law_22, r_L_law_23, hv_drop_i, hv_drop_r, hv_drop_n, hv_drop_a, hv_rf_some, r_L_law_761, r_L_law_762, hv_drop_i, hv_drop_r, hv_drop_n, hv_drop_a, oc0, show (0 : Nat) < 4 by decide, true_and, hlt, if_true, or_true]
    exact hQ _
  induction k with
  | zero =>
    intro i I L τ hk hi hR
    exact ends i I L τ hi (by omega)
  | succ k ih =>
    intro i I L τ hk hi hR
    by_cases w : i + 4 ≤ xs.1
    · have hlt : ¬ Int32.ofNat xs.1 - 4 < nI i := by
        rw [i_lt, show Int32.ofNat xs.1 - 4 = nI xs.1 - nI 4 from rfl, pk_sub_toInt (by omega) (by omega), nI_toInt (by omega)]
        omega
      have nx : ∀ I L τ, Rel I L τ → P_L_law xs D MC MS Q 755 [some (.retAddr 0), some (.ref 0), some (.ref 67), some (.int (nI i))] [] (hv_SH, c, s) (I, L, hv_PP τ) := by
        intro I L τ hR
        have e4 : nI i + 4 = nI (i + 4) := nI_add i 4
        rw [r_L_law_755, e4, r_L_law_758]
        exact ih (i + 4) I L τ (by omega) (by omega) hR
      obtain ⟨j, hj, ej⟩ := pk_andE (xs.2 i) (m := 31) 5 (by decide)
      rw [r_L_law_18]
      simp only [hv_drop_i, hv_drop_r, hv_drop_n, hv_drop_a, hv_rf_some, r_L_law_19, r_L_law_20, r_L_law_21, r_L_law_22, r_L_law_23, r_L_law_26, r_L_law_27, r_L_law_28, r_L_law_28o, r_L_law_29, r_L_law_31, hv_drop_i, hv_drop_r, hv_drop_n, hv_drop_a, oc0, show (0 : Nat) < 4 by decide, true_and, and_self, hlt, if_false, hv_ix_nI (show i < xs.1 by omega) (show xs.1 < 2 ^ 31 by omega), nI_clamp (n := i) (by omega), ej]
      have hj32 : j < 32 := hj
      have alt : j = 0 ∨ j = 1 ∨ j = 2 ∨ j = 3 ∨ j = 4 ∨ j = 5 ∨ j = 6 ∨ j = 7 ∨ j = 8 ∨ j = 9 ∨ j = 10 ∨ j = 11 ∨ j = 12 ∨ j = 13 ∨ j = 14 ∨ j = 15 ∨ j = 16 ∨ j = 17 ∨ j = 18 ∨ j = 19 ∨ j = 20 ∨ j = 21 ∨ j = 22 ∨ j = 23 ∨ j = 24 ∨ 25 ≤ j := by omega
      rcases alt with rfl | rfl | rfl | rfl | rfl | rfl | rfl | rfl | rfl | rfl | rfl | rfl | rfl | rfl | rfl | rfl | rfl | rfl | rfl | rfl | rfl | rfl | rfl | rfl | rfl | hj25
      · rw [show nI 0 = 0 by decide, r_L_law_32_0]
        exact lw_c0 hD hc hs w hn hR nx
      · rw [show nI 1 = 1 by decide, r_L_law_32_1]
        exact lw_c1 hD hc hs w hn hR nx
      · rw [show nI 2 = 2 by decide, r_L_law_32_2]
        exact lw_c2 hD hc hs w hn hR nx
      · rw [show nI 3 = 3 by decide, r_L_law_32_3]
        exact lw_c3 hD hc hs w hn hR nx
      · rw [show nI 4 = 4 by decide, r_L_law_32_4]
        exact lw_c4 hD hc hs w hn hR nx
      · rw [show nI 5 = 5 by decide, r_L_law_32_5]
        exact lw_c5 hD hc hs w hn hR nx
      · rw [show nI 6 = 6 by decide, r_L_law_32_6]
        exact lw_c6 hD hc hs w hn hR nx
      · rw [show nI 7 = 7 by decide, r_L_law_32_7]
        exact lw_c7 hD hc hs w hn hR nx
      · rw [show nI 8 = 8 by decide, r_L_law_32_8]
        exact lw_c8 hD hc hs w hn hR nx
      · rw [show nI 9 = 9 by decide, r_L_law_32_9]
        exact lw_c9 hD hc hs w hn hR nx
      · rw [show nI 10 = 10 by decide, r_L_law_32_10]
        exact lw_c10 hD hc hs w hn hR nx
      · rw [show nI 11 = 11 by decide, r_L_law_32_11]
        exact lw_c11 hD hc hs w hn hR nx
      · rw [show nI 12 = 12 by decide, r_L_law_32_12]
        exact lw_c12 hD hc hs w hn hR nx
      · rw [show nI 13 = 13 by decide, r_L_law_32_13]
        exact lw_c13 hD hc hs w hn hR nx
      · rw [show nI 14 = 14 by decide, r_L_law_32_14]
        exact lw_c14 hD hc hs w hn hR nx
      · rw [show nI 15 = 15 by decide, r_L_law_32_15]
        exact lw_c15 hD hc hs w hn hR nx
      · rw [show nI 16 = 16 by decide, r_L_law_32_16]
        exact lw_c16 hD hc hs w hn hR nx
      · rw [show nI 17 = 17 by decide, r_L_law_32_17]
        exact lw_c17 hD hc hs w hn hR nx
      · rw [show nI 18 = 18 by decide, r_L_law_32_18]
        exact lw_c18 hD hc hs w hn hR nx
      · rw [show nI 19 = 19 by decide, r_L_law_32_19]
        exact lw_c19 hD hc hs w hn hR nx
      · rw [show nI 20 = 20 by decide, r_L_law_32_20]
        exact lw_c20 hD hc hs w hn hR nx
      · rw [show nI 21 = 21 by decide, r_L_law_32_21]
        exact lw_c21 hD hc hs w hn hR nx
      · rw [show nI 22 = 22 by decide, r_L_law_32_22]
        exact lw_c22 hD hc hs w hn hR nx
      · rw [show nI 23 = 23 by decide, r_L_law_32_23]
        exact lw_c23 hD hc hs w hn hR nx
      · rw [show nI 24 = 24 by decide, r_L_law_32_24]
        exact lw_c24 hD hc hs w hn hR nx
      · rw [r_L_law_32_out (by rw [nI_toInt (by omega)]; omega)]
        exact nx I L τ hR
    · exact ends i I L τ hi w
/-- the law, from its entry -/
theorem law_all (hD : 21 ≤ D) (hMC : 300 ≤ MC) (hMS : 5000 ≤ MS) (hn : xs.1 ≤ 2048) (hQ : ∀ μ, Q (some (.int 1)) (hv_SH, 202, 4026) μ) : P_L_law xs D MC MS Q 0 [some (.retAddr 0), none, none, none] [] ([], 0, 0) (mmL [] []) := by
  have h1 : 0 + 1 ≤ MC := by omega
  have h2 : 0 + 11 ≤ MS := by omega
  have h3 : 101 + 1 ≤ MC := by omega
  have h4 : 2011 + 15 ≤ MS := by omega
  simp only [hv_drop_i, hv_drop_r, hv_drop_n, hv_drop_a, hv_rf_some, r_L_law_0, r_L_law_3, r_L_law_3i, List.length_nil, List.nil_append, h1, h2, true_and, and_self, zz_mm (ps := []) (l := []) (n := 0) rfl]
  refine k_L_law_4 (iX6 (d := 2) (Nat.le_refl _)) ?_ (show 1 + 100 ≤ MC by omega) (show 11 + 2000 ≤ MS by omega)
  rintro _ _ _ ⟨rfl, rfl, rfl⟩
  show P_L_law xs D MC MS Q 7 [some (.retAddr 0), none, none, none] [.ref 0] (SH67, 101, 2011) (mmL PS67 LL67)
  simp only [hv_drop_i, hv_drop_r, hv_drop_n, hv_drop_a, hv_rf_some, r_L_law_7, r_L_law_8, r_L_law_11, r_L_law_11i, hv_drop_a, show SH67.length = 67 from rfl, h3, h4, true_and, and_self, zz_mm (ps := PS67) (l := LL67) (n := 67) (by decide +kernel)]
  refine k_L_law_12 (iX7 (d := 7) (Nat.le_refl _)) ?_ (show 102 + 100 ≤ MC by omega) (show 2026 + 2000 ≤ MS by omega)
  rintro _ _ _ ⟨rfl, rfl, I, rfl, hR⟩
  show P_L_law xs D MC MS Q 15 [some (.retAddr 0), some (.ref 0), none, none] [.ref 67] (hv_SH, 202, 4026) (I, zLm, hv_PP false)
  simp only [hv_drop_i, hv_drop_r, hv_drop_n, hv_drop_a, hv_rf_some, r_L_law_15, r_L_law_16, r_L_law_17, hv_drop_a, hv_drop_r, hv_drop_n]
  have := law_loop (xs := xs) (MC := MC) (MS := MS) (c := 202) (s := 4026) hD (by omega) (by omega) hn hQ (xs.1 + 1) 0 I zLm false (by omega) (by omega) hR
  rw [nI_0] at this
  exact this
end LAW
