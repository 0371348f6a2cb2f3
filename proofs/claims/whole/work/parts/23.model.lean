/-! ===== HermitDuesModel: its small methods ===== -/
theorem a_4 (t : Nat) : (4 : Int32) + nI t = nI (4 + t) := by rw [show (4 : Int32) = nI 4 by decide, nI_add]
theorem a_5 (t : Nat) : (5 : Int32) + nI t = nI (5 + t) := by rw [show (5 : Int32) = nI 5 by decide, nI_add]
theorem a_6 (t : Nat) : (6 : Int32) + nI t = nI (6 + t) := by rw [show (6 : Int32) = nI 6 by decide, nI_add]
theorem a_10 (t : Nat) : (10 : Int32) + nI t = nI (10 + t) := by rw [show (10 : Int32) = nI 10 by decide, nI_add]
theorem a_11 (t : Nat) : (11 : Int32) + nI t = nI (11 + t) := by rw [show (11 : Int32) = nI 11 by decide, nI_add]
theorem a_16 (t : Nat) : (16 : Int32) + nI t = nI (16 + t) := by rw [show (16 : Int32) = nI 16 by decide, nI_add]
theorem a_17 (t : Nat) : (17 : Int32) + nI t = nI (17 + t) := by rw [show (17 : Int32) = nI 17 by decide, nI_add]
theorem a_18 (t : Nat) : (18 : Int32) + nI t = nI (18 + t) := by rw [show (18 : Int32) = nI 18 by decide, nI_add]
theorem a_19 (t : Nat) : (19 : Int32) + nI t = nI (19 + t) := by rw [show (19 : Int32) = nI 19 by decide, nI_add]
theorem a_21 (t : Nat) : (21 : Int32) + nI t = nI (21 + t) := by rw [show (21 : Int32) = nI 21 by decide, nI_add]
theorem a_26 (t : Nat) : (26 : Int32) + nI t = nI (26 + t) := by rw [show (26 : Int32) = nI 26 by decide, nI_add]
theorem a_31 (t : Nat) : (31 : Int32) + nI t = nI (31 + t) := by rw [show (31 : Int32) = nI 31 by decide, nI_add]
theorem a_199 (t : Nat) : (199 : Int32) + nI t = nI (199 + t) := by rw [show (199 : Int32) = nI 199 by decide, nI_add]
theorem rW_eq {k f : Nat} (hk : k < 2 ^ 30) (hf : f < 2 ^ 30) : rW k = nI f ↔ k = f + 1 := by
  cases k with
  | zero =>
    rw [rW_0, i_eq, nI_toInt (by omega)]
    show (-9 : Int) = _ ↔ _
    omega
  | succ k => rw [rW_s, nI_eq (by omega) (by omega)]; omega
theorem rW_m9 {k : Nat} (hk : k < 2 ^ 30) : rW k = -9 ↔ k = 0 := by
  cases k with
  | zero => simp [rW_0]
  | succ k =>
    rw [rW_s, i_eq, nI_toInt (by omega)]
    show _ = (-9 : Int) ↔ _
    omega
theorem rW_inj {a b : Nat} (ha : a < 2 ^ 30) (hb : b < 2 ^ 30) : rW a = rW b ↔ a = b := by
  cases b with
  | zero => rw [rW_0, rW_m9 ha]
  | succ b => rw [rW_s, rW_eq ha (by omega)]
section MODEL
variable {xs : hv_X} {I : hI} {L : hL} {τ : Bool} {T : TD}
theorem in_ok {d : Nat} {sh : hv_Sh} {μ : hv_M} (v lo hi : Int32) : hv_Ok xs d yX7_in [.int v, .int lo, .int hi] sh μ (some (.int (b01 (lo ≤ v ∧ v ≤ hi)))) μ := by
  apply o_X7_in
  simp only [hv_drop_i, hv_drop_r, hv_drop_n, hv_drop_a, hv_rf_some, r_X7_in_0, r_X7_in_1, r_X7_in_2, r_X7_in_5, r_X7_in_6, r_X7_in_7, r_X7_in_10, r_X7_in_11, r_X7_in_14, r_X7_in_15, hv_okQ_iff]
  by_cases h1 : v < lo
  · have h3 : ¬ lo ≤ v := Int32.not_le.mpr h1
    simp [h1, h3, b01]
  · have h3 : lo ≤ v := Int32.not_lt.mp h1
    by_cases h2 : hi < v
    · have h4 : ¬ v ≤ hi := Int32.not_le.mpr h2
      simp [h1, h2, h4, b01]
    · have h4 : v ≤ hi := Int32.not_lt.mp h2
      simp [h1, h2, h3, h4, b01]
theorem isTurn_ok {d : Nat} (hd : 1 ≤ d) (v : Int32) : hv_Ok xs d yX7_isTurn [.ref 67, .int v] hv_SH (I, L, hv_PP τ) (some (.int (b01 (0 ≤ v ∧ v ≤ I 69 0 - 1)))) (I, L, hv_PP τ) := by
  apply o_X7_isTurn
  simp only [hv_drop_i, hv_drop_r, hv_drop_n, hv_drop_a, hv_rf_some, r_X7_isTurn_0, r_X7_isTurn_1, r_X7_isTurn_2, r_X7_isTurn_3, r_X7_isTurn_6, r_X7_isTurn_7, r_X7_isTurn_8, r_X7_isTurn_9, r_X7_isTurn_13, kd67, true_and, pp67_3, ln69, show hv_ix 0 36 = true by decide, c_0]
  refine k_X7_isTurn_10 (in_ok (d := 0) _ _ _) ?_
  by_cases h : 0 ≤ v ∧ v ≤ I 69 0 - 1 <;> simp [hv_drop_i, hv_drop_r, hv_drop_n, hv_drop_a, hv_rf_some, r_X7_isTurn_0, r_X7_isTurn_1, r_X7_isTurn_2, r_X7_isTurn_3, r_X7_isTurn_6, r_X7_isTurn_7, r_X7_isTurn_8, r_X7_isTurn_9, r_X7_isTurn_13, hv_okQ_iff, h, b01]
theorem isFamily_ok {d : Nat} (hd : 1 ≤ d) (v : Int32) : hv_Ok xs d yX7_isFamily [.ref 67, .int v] hv_SH (I, L, hv_PP τ) (some (.int (b01 (0 ≤ v ∧ v ≤ I 69 1 - 1)))) (I, L, hv_PP τ) := by
  apply o_X7_isFamily
  simp only [hv_drop_i, hv_drop_r, hv_drop_n, hv_drop_a, hv_rf_some, r_X7_isFamily_0, r_X7_isFamily_1, r_X7_isFamily_2, r_X7_isFamily_3, r_X7_isFamily_6, r_X7_isFamily_7, r_X7_isFamily_8, r_X7_isFamily_9, r_X7_isFamily_13, kd67, true_and, pp67_3, ln69, show hv_ix 1 36 = true by decide, c_1]
  refine k_X7_isFamily_10 (in_ok (d := 0) _ _ _) ?_
  by_cases h : 0 ≤ v ∧ v ≤ I 69 1 - 1 <;> simp [hv_drop_i, hv_drop_r, hv_drop_n, hv_drop_a, hv_rf_some, r_X7_isFamily_0, r_X7_isFamily_1, r_X7_isFamily_2, r_X7_isFamily_3, r_X7_isFamily_6, r_X7_isFamily_7, r_X7_isFamily_8, r_X7_isFamily_9, r_X7_isFamily_13, hv_okQ_iff, h, b01]
theorem mWinter_T {d : Nat} (hT : tOk T) (hM : TM T I) {t : Nat} (ht : t < tN T) : hv_Ok xs d yX7_isWinter [.ref 67, .int (nI t)] hv_SH (I, L, hv_PP τ) (some (.int (b01 (tS T t = 2)))) (I, L, hv_PP τ) := by
  have h6 := hT.1
  have h2 := hT.2.2.1 t ht
  apply o_X7_isWinter
  simp only [hv_drop_i, hv_drop_r, hv_drop_n, hv_drop_a, hv_rf_some, r_X7_isWinter_0, r_X7_isWinter_1, r_X7_isWinter_4, r_X7_isWinter_5, r_X7_isWinter_6, r_X7_isWinter_7, r_X7_isWinter_8, r_X7_isWinter_9, r_X7_isWinter_12, r_X7_isWinter_13, r_X7_isWinter_16, r_X7_isWinter_17, kd67, true_and, pp67_3, ln69, a_5, hv_ix_nI (show 5 + t < 36 by omega) (by decide), nI_clamp (n := 5 + t) (by omega), hM.2.2.2.1 t ht, hv_okQ_iff, n_2, ne_eq, nI_eq (a := tS T t) (b := 2) (by omega) (by omega)]
  by_cases h : tS T t = 2 <;> simp [h, b01]
/-- who is IT by the reference's row 'it' -/
def WM (T : TD) (I : hI) (w : Nat → Nat) : Prop := (∀ t, t < tN T → I 75 t = rW (w t)) ∧ ∀ t, w t ≤ tF T
theorem joyAt_T {d : Nat} (hd : 1 ≤ d) (hT : tOk T) (hM : TM T I) {w : Nat → Nat} (hw : WM T I w) {t : Nat} (ht : t < tN T) : hv_Ok xs d yX7_joyAt [.ref 67, .int (nI t)] hv_SH (I, L, hv_PP τ) (some (.int (nI (jy T w t)))) (I, L, hv_PP τ) := by
  have h6 := hT.1
  have h5 := hT.2.1
  have hwt := hw.2 t
  apply o_X7_joyAt
  simp only [hv_drop_i, hv_drop_r, hv_drop_n, hv_drop_a, hv_rf_some, r_X7_joyAt_0, r_X7_joyAt_1, r_X7_joyAt_4, r_X7_joyAt_5, r_X7_joyAt_6, r_X7_joyAt_7, r_X7_joyAt_8, r_X7_joyAt_10, r_X7_joyAt_13, r_X7_joyAt_14, r_X7_joyAt_18, r_X7_joyAt_21, r_X7_joyAt_22, r_X7_joyAt_23, r_X7_joyAt_24, r_X7_joyAt_27, r_X7_joyAt_28, r_X7_joyAt_29, r_X7_joyAt_30, r_X7_joyAt_31, r_X7_joyAt_34, r_X7_joyAt_35, r_X7_joyAt_38, r_X7_joyAt_40, r_X7_joyAt_41, r_X7_joyAt_42, r_X7_joyAt_43, r_X7_joyAt_46, r_X7_joyAt_47, r_X7_joyAt_50, r_X7_joyAt_52, r_X7_joyAt_53, r_X7_joyAt_54, r_X7_joyAt_55, r_X7_joyAt_56, r_X7_joyAt_57, r_X7_joyAt_60, r_X7_joyAt_61, r_X7_joyAt_64, r_X7_joyAt_65, r_X7_joyAt_66, r_X7_joyAt_67, r_X7_joyAt_68, r_X7_joyAt_69, r_X7_joyAt_72, r_X7_joyAt_73, r_X7_joyAt_74, r_X7_joyAt_75, r_X7_joyAt_78, r_X7_joyAt_79, kd67, true_and, pp67_14, ln75, hv_ix_nI (show t < 6 by omega) (by decide), nI_clamp (n := t) (by omega), hw.1 t ht, rW_m9 (show w t < 2 ^ 30 by omega)]
  by_cases h0 : w t = 0
  · simp only [h0, if_true, hv_okQ_iff]
    refine i_ok ?_
    simp [jy, jy1, h0]
    decide
  · obtain ⟨k, hk⟩ : ∃ k, w t = k + 1 := ⟨w t - 1, by omega⟩
    have hkF : k < tF T := by omega
    simp only [hk, rW_s, show ¬ (k + 1 = 0) by omega, if_false]
    refine k_X7_joyAt_15 kd67 (mWinter_T (d := 0) hT hM ht) ?_
    by_cases hs : tS T t = 2
    · rw [b01_t hs]
      simp only [hv_drop_i, hv_drop_r, hv_drop_n, hv_drop_a, hv_rf_some, r_X7_joyAt_0, r_X7_joyAt_1, r_X7_joyAt_4, r_X7_joyAt_5, r_X7_joyAt_6, r_X7_joyAt_7, r_X7_joyAt_8, r_X7_joyAt_10, r_X7_joyAt_13, r_X7_joyAt_14, r_X7_joyAt_18, r_X7_joyAt_21, r_X7_joyAt_22, r_X7_joyAt_23, r_X7_joyAt_24, r_X7_joyAt_27, r_X7_joyAt_28, r_X7_joyAt_29, r_X7_joyAt_30, r_X7_joyAt_31, r_X7_joyAt_34, r_X7_joyAt_35, r_X7_joyAt_38, r_X7_joyAt_40, r_X7_joyAt_41, r_X7_joyAt_42, r_X7_joyAt_43, r_X7_joyAt_46, r_X7_joyAt_47, r_X7_joyAt_50, r_X7_joyAt_52, r_X7_joyAt_53, r_X7_joyAt_54, r_X7_joyAt_55, r_X7_joyAt_56, r_X7_joyAt_57, r_X7_joyAt_60, r_X7_joyAt_61, r_X7_joyAt_64, r_X7_joyAt_65, r_X7_joyAt_66, r_X7_joyAt_67, r_X7_joyAt_68, r_X7_joyAt_69, r_X7_joyAt_72, r_X7_joyAt_73, r_X7_joyAt_74, r_X7_joyAt_75, r_X7_joyAt_78, r_X7_joyAt_79, i10, if_false, hv_okQ_iff]
      refine i_ok ?_
      simp [jy, jy1, hs]
      decide
    · rw [b01_f hs]
      have hq := hT.2.2.2.1 k hkF
      have hQ0 : I 69 (11 + k) = nI (tQ T k 0) := hM.2.2.2.2 k 0 hkF (by omega)
      have hQ1 : I 69 (16 + k) = nI (tQ T k 1) := hM.2.2.2.2 k 1 hkF (by omega)
      have h2 := hT.2.2.1 t ht
      have e1 : nI (tS T t) = 0 ↔ tS T t = 0 := by rw [n_0, nI_eq (by omega) (by omega)]
      have e3 : ∀ q, q ≤ 20 → nI q / 2 = nI (q / 2) := fun q h => by rw [n_2, pk_div (by omega) (by omega) (by omega)]
      simp only [hv_drop_i, hv_drop_r, hv_drop_n, hv_drop_a, hv_rf_some, r_X7_joyAt_0, r_X7_joyAt_1, r_X7_joyAt_4, r_X7_joyAt_5, r_X7_joyAt_6, r_X7_joyAt_7, r_X7_joyAt_8, r_X7_joyAt_10, r_X7_joyAt_13, r_X7_joyAt_14, r_X7_joyAt_18, r_X7_joyAt_21, r_X7_joyAt_22, r_X7_joyAt_23, r_X7_joyAt_24, r_X7_joyAt_27, r_X7_joyAt_28, r_X7_joyAt_29, r_X7_joyAt_30, r_X7_joyAt_31, r_X7_joyAt_34, r_X7_joyAt_35, r_X7_joyAt_38, r_X7_joyAt_40, r_X7_joyAt_41, r_X7_joyAt_42, r_X7_joyAt_43, r_X7_joyAt_46, r_X7_joyAt_47, r_X7_joyAt_50, r_X7_joyAt_52, r_X7_joyAt_53, r_X7_joyAt_54, r_X7_joyAt_55, r_X7_joyAt_56, r_X7_joyAt_57, r_X7_joyAt_60, r_X7_joyAt_61, r_X7_joyAt_64, r_X7_joyAt_65, r_X7_joyAt_66, r_X7_joyAt_67, r_X7_joyAt_68, r_X7_joyAt_69, r_X7_joyAt_72, r_X7_joyAt_73, r_X7_joyAt_74, r_X7_joyAt_75, r_X7_joyAt_78, r_X7_joyAt_79, if_true, kd67, true_and, pp67_3, pp67_14, ln69, ln75, a_5, a_11, a_16, hv_ix_nI (show 5 + t < 36 by omega) (by decide), hv_ix_nI (show 11 + k < 36 by omega) (by decide), hv_ix_nI (show 16 + k < 36 by omega) (by decide), nI_clamp (n := 5 + t) (by omega), nI_clamp (n := 11 + k) (by omega), nI_clamp (n := 16 + k) (by omega), hM.2.2.2.1 t ht, hQ0, hQ1, ne_eq, e1]
      cases t with
      | zero =>
        simp only [show nI 0 ≤ 0 by decide, if_true, hv_okQ_iff]
        by_cases h1 : tS T 0 = 0
        · simp [h1, jy, jy1, jyB, hk]
        · simp [h1, jy, jy1, jyB, hk, hs]
      | succ u =>
        have hwu := hw.2 u
        have e2 : rW (w u) = nI k ↔ w u = k + 1 := rW_eq (by omega) (by omega)
        simp only [nI_nle (n := u + 1) (by omega) (by omega), if_false, nI_pred, hv_ix_nI (show u < 6 by omega) (by decide), nI_clamp (n := u) (by omega), hw.1 u (by omega), e2, true_and, show ¬ (2 : Int32) = 0 by decide, not_false_eq_true, hv_okQ_iff, e3 _ hq.1, e3 _ hq.2.1]
        by_cases h1 : tS T (u + 1) = 0 <;> by_cases h2 : w u = k + 1
        · simp [h1, h2, jy, jy1, jyB, hk]
        · simp [h1, h2, jy, jy1, jyB, hk, Ne.symm h2]
        · simp [h1, h2, jy, jy1, jyB, hk, hs]
        · simp [h1, h2, jy, jy1, jyB, hk, hs, Ne.symm h2]
theorem joyOf_T {d : Nat} (hd : 2 ≤ d) (hT : tOk T) (hM : TM T I) {w : Nat → Nat} (hw : WM T I w) {f : Nat} (hf : f < 2 ^ 30) : hv_Ok xs d yX7_joyOf [.ref 67, .int (nI f)] hv_SH (I, L, hv_PP τ) (some (.int (nI (jyF T w f)))) (I, L, hv_PP τ) := by
  have h6 := hT.1
  have h5 := hT.2.1
  apply o_X7_joyOf
  simp only [hv_drop_i, hv_drop_r, hv_drop_n, hv_drop_a, hv_rf_some, r_X7_joyOf_0, r_X7_joyOf_1, r_X7_joyOf_2, r_X7_joyOf_3, r_X7_joyOf_5, r_X7_joyOf_6, r_X7_joyOf_9, r_X7_joyOf_10, r_X7_joyOf_11, r_X7_joyOf_14, r_X7_joyOf_15, r_X7_joyOf_16, r_X7_joyOf_19, r_X7_joyOf_20, r_X7_joyOf_21, r_X7_joyOf_22, r_X7_joyOf_25, r_X7_joyOf_26, r_X7_joyOf_30, r_X7_joyOf_33, r_X7_joyOf_34, r_X7_joyOf_35, r_X7_joyOf_36, r_X7_joyOf_39, r_X7_joyOf_42, r_X7_joyOf_43]
  have key : ∀ k t, t + k = tN T → P_X7_joyOf xs d (hv_okQ (some (.int (nI (jyF T w f)))) hv_SH (I, L, hv_PP τ)) 4 [some (.ref 67), some (.int (nI f)), some (.int (nI (sumN (fun t => if w t = f + 1 then jy T w t else 0) t))), some (.int (nI t))] [] (hv_SH, 0, 0) (I, L, hv_PP τ) := by
    intro k
    induction k with
    | zero =>
      intro t ht
      have : t = tN T := by omega
      subst this
      rw [r_X7_joyOf_4]
      simp only [hv_drop_i, hv_drop_r, hv_drop_n, hv_drop_a, hv_rf_some, r_X7_joyOf_0, r_X7_joyOf_1, r_X7_joyOf_2, r_X7_joyOf_3, r_X7_joyOf_5, r_X7_joyOf_6, r_X7_joyOf_9, r_X7_joyOf_10, r_X7_joyOf_11, r_X7_joyOf_14, r_X7_joyOf_15, r_X7_joyOf_16, r_X7_joyOf_19, r_X7_joyOf_20, r_X7_joyOf_21, r_X7_joyOf_22, r_X7_joyOf_25, r_X7_joyOf_26, r_X7_joyOf_30, r_X7_joyOf_33, r_X7_joyOf_34, r_X7_joyOf_35, r_X7_joyOf_36, r_X7_joyOf_39, r_X7_joyOf_42, r_X7_joyOf_43, kd67, true_and, pp67_3, ln69, show hv_ix 0 36 = true by decide, c_0, hM.1, Int32.le_refl, if_true, hv_okQ_iff]
      exact i_ok rfl
    | succ k ih =>
      intro t ht
      have hwt := hw.2 t
      rw [r_X7_joyOf_4]
      have e : rW (w t) = nI f ↔ w t = f + 1 := rW_eq (by omega) (by omega)
      simp only [hv_drop_i, hv_drop_r, hv_drop_n, hv_drop_a, hv_rf_some, r_X7_joyOf_0, r_X7_joyOf_1, r_X7_joyOf_2, r_X7_joyOf_3, r_X7_joyOf_5, r_X7_joyOf_6, r_X7_joyOf_9, r_X7_joyOf_10, r_X7_joyOf_11, r_X7_joyOf_14, r_X7_joyOf_15, r_X7_joyOf_16, r_X7_joyOf_19, r_X7_joyOf_20, r_X7_joyOf_21, r_X7_joyOf_22, r_X7_joyOf_25, r_X7_joyOf_26, r_X7_joyOf_30, r_X7_joyOf_33, r_X7_joyOf_34, r_X7_joyOf_35, r_X7_joyOf_36, r_X7_joyOf_39, r_X7_joyOf_42, r_X7_joyOf_43, kd67, true_and, pp67_3, pp67_14, ln69, ln75, show hv_ix 0 36 = true by decide, c_0, hM.1, nI_ge (show t < tN T by omega) (by omega), if_false, hv_ix_nI (show t < 6 by omega) (by decide), nI_clamp (n := t) (by omega), hw.1 t (by omega), ne_eq, e]
      by_cases h : w t = f + 1
      · simp only [h, not_true_eq_false, if_false]
        refine k_X7_joyOf_27 kd67 (joyAt_T (d := 1) (by omega) hT hM hw (by omega)) ?_
        simp only [hv_drop_i, hv_drop_r, hv_drop_n, hv_drop_a, hv_rf_some, r_X7_joyOf_0, r_X7_joyOf_1, r_X7_joyOf_2, r_X7_joyOf_3, r_X7_joyOf_5, r_X7_joyOf_6, r_X7_joyOf_9, r_X7_joyOf_10, r_X7_joyOf_11, r_X7_joyOf_14, r_X7_joyOf_15, r_X7_joyOf_16, r_X7_joyOf_19, r_X7_joyOf_20, r_X7_joyOf_21, r_X7_joyOf_22, r_X7_joyOf_25, r_X7_joyOf_26, r_X7_joyOf_30, r_X7_joyOf_33, r_X7_joyOf_34, r_X7_joyOf_35, r_X7_joyOf_36, r_X7_joyOf_39, r_X7_joyOf_42, r_X7_joyOf_43, nI_add, nI_1]
        have := ih (t + 1) (by omega)
        simp only [sumN, h, if_true] at this
        exact this
      · simp only [h, not_false_eq_true, if_true, nI_1, n_0, nI_add]
        have := ih (t + 1) (by omega)
        simp only [sumN, h, if_false] at this
        exact this
  exact key (tN T) 0 (by omega)
theorem allJoy_T {d : Nat} (hd : 2 ≤ d) (hT : tOk T) (hM : TM T I) {w : Nat → Nat} (hw : WM T I w) : hv_Ok xs d yX7_allJoy [.ref 67] hv_SH (I, L, hv_PP τ) (some (.int (nI (jyA T w)))) (I, L, hv_PP τ) := by
  have h6 := hT.1
  apply o_X7_allJoy
  simp only [hv_drop_i, hv_drop_r, hv_drop_n, hv_drop_a, hv_rf_some, r_X7_allJoy_0, r_X7_allJoy_1, r_X7_allJoy_2, r_X7_allJoy_3, r_X7_allJoy_5, r_X7_allJoy_6, r_X7_allJoy_9, r_X7_allJoy_10, r_X7_allJoy_11, r_X7_allJoy_14, r_X7_allJoy_15, r_X7_allJoy_16, r_X7_allJoy_20, r_X7_allJoy_21, r_X7_allJoy_22, r_X7_allJoy_25, r_X7_allJoy_28, r_X7_allJoy_29]
  have key : ∀ k t, t + k = tN T → P_X7_allJoy xs d (hv_okQ (some (.int (nI (jyA T w)))) hv_SH (I, L, hv_PP τ)) 4 [some (.ref 67), some (.int (nI (sumN (jy T w) t))), some (.int (nI t))] [] (hv_SH, 0, 0) (I, L, hv_PP τ) := by
    intro k
    induction k with
    | zero =>
      intro t ht
      have : t = tN T := by omega
      subst this
      rw [r_X7_allJoy_4]
      simp only [hv_drop_i, hv_drop_r, hv_drop_n, hv_drop_a, hv_rf_some, r_X7_allJoy_0, r_X7_allJoy_1, r_X7_allJoy_2, r_X7_allJoy_3, r_X7_allJoy_5, r_X7_allJoy_6, r_X7_allJoy_9, r_X7_allJoy_10, r_X7_allJoy_11, r_X7_allJoy_14, r_X7_allJoy_15, r_X7_allJoy_16, r_X7_allJoy_20, r_X7_allJoy_21, r_X7_allJoy_22, r_X7_allJoy_25, r_X7_allJoy_28, r_X7_allJoy_29, kd67, true_and, pp67_3, ln69, show hv_ix 0 36 = true by decide, c_0, hM.1, Int32.le_refl, if_true, hv_okQ_iff]
      exact i_ok rfl
    | succ k ih =>
      intro t ht
      rw [r_X7_allJoy_4]
      simp only [hv_drop_i, hv_drop_r, hv_drop_n, hv_drop_a, hv_rf_some, r_X7_allJoy_0, r_X7_allJoy_1, r_X7_allJoy_2, r_X7_allJoy_3, r_X7_allJoy_5, r_X7_allJoy_6, r_X7_allJoy_9, r_X7_allJoy_10, r_X7_allJoy_11, r_X7_allJoy_14, r_X7_allJoy_15, r_X7_allJoy_16, r_X7_allJoy_20, r_X7_allJoy_21, r_X7_allJoy_22, r_X7_allJoy_25, r_X7_allJoy_28, r_X7_allJoy_29, kd67, true_and, pp67_3, ln69, show hv_ix 0 36 = true by decide, c_0, hM.1, nI_ge (show t < tN T by omega) (by omega), if_false]
      refine k_X7_allJoy_17 kd67 (joyAt_T (d := 1) (by omega) hT hM hw (by omega)) ?_
      simp only [hv_drop_i, hv_drop_r, hv_drop_n, hv_drop_a, hv_rf_some, r_X7_allJoy_0, r_X7_allJoy_1, r_X7_allJoy_2, r_X7_allJoy_3, r_X7_allJoy_5, r_X7_allJoy_6, r_X7_allJoy_9, r_X7_allJoy_10, r_X7_allJoy_11, r_X7_allJoy_14, r_X7_allJoy_15, r_X7_allJoy_16, r_X7_allJoy_20, r_X7_allJoy_21, r_X7_allJoy_22, r_X7_allJoy_25, r_X7_allJoy_28, r_X7_allJoy_29, nI_add, nI_1]
      exact ih (t + 1) (by omega)
  exact key (tN T) 0 (by omega)
theorem mLeast_T {d : Nat} (hd : 3 ≤ d) (hT : tOk T) (hM : TM T I) {w : Nat → Nat} (hw : WM T I w) : hv_Ok xs d yX7_leastLeft [.ref 67] hv_SH (I, L, hv_PP τ) (some (.int (mnL T w (tF T)))) (I, L, hv_PP τ) := by
  have h5 := hT.2.1
  apply o_X7_leastLeft
  simp only [hv_drop_i, hv_drop_r, hv_drop_n, hv_drop_a, hv_rf_some, r_X7_leastLeft_0, r_X7_leastLeft_2, r_X7_leastLeft_3, r_X7_leastLeft_4, r_X7_leastLeft_6, r_X7_leastLeft_7, r_X7_leastLeft_10, r_X7_leastLeft_11, r_X7_leastLeft_12, r_X7_leastLeft_15, r_X7_leastLeft_16, r_X7_leastLeft_20, r_X7_leastLeft_21, r_X7_leastLeft_24, r_X7_leastLeft_26, r_X7_leastLeft_27, r_X7_leastLeft_28, r_X7_leastLeft_29, r_X7_leastLeft_30, r_X7_leastLeft_31, r_X7_leastLeft_32, r_X7_leastLeft_33, r_X7_leastLeft_36, r_X7_leastLeft_37, r_X7_leastLeft_40, r_X7_leastLeft_41, r_X7_leastLeft_42, r_X7_leastLeft_45, r_X7_leastLeft_48, r_X7_leastLeft_49]
  have key : ∀ k f x, f + k = tF T → P_X7_leastLeft xs d (hv_okQ (some (.int (mnL T w (tF T)))) hv_SH (I, L, hv_PP τ)) 5 [some (.ref 67), some (.int (mnL T w f)), some (.int (nI f)), x] [] (hv_SH, 0, 0) (I, L, hv_PP τ) := by
    intro k
    induction k with
    | zero =>
      intro f x hf
      have : f = tF T := by omega
      subst this
      rw [r_X7_leastLeft_5]
      simp only [hv_drop_i, hv_drop_r, hv_drop_n, hv_drop_a, hv_rf_some, r_X7_leastLeft_0, r_X7_leastLeft_2, r_X7_leastLeft_3, r_X7_leastLeft_4, r_X7_leastLeft_6, r_X7_leastLeft_7, r_X7_leastLeft_10, r_X7_leastLeft_11, r_X7_leastLeft_12, r_X7_leastLeft_15, r_X7_leastLeft_16, r_X7_leastLeft_20, r_X7_leastLeft_21, r_X7_leastLeft_24, r_X7_leastLeft_26, r_X7_leastLeft_27, r_X7_leastLeft_28, r_X7_leastLeft_29, r_X7_leastLeft_30, r_X7_leastLeft_31, r_X7_leastLeft_32, r_X7_leastLeft_33, r_X7_leastLeft_36, r_X7_leastLeft_37, r_X7_leastLeft_40, r_X7_leastLeft_41, r_X7_leastLeft_42, r_X7_leastLeft_45, r_X7_leastLeft_48, r_X7_leastLeft_49, kd67, true_and, pp67_3, ln69, show hv_ix 1 36 = true by decide, c_1, hM.2.1, Int32.le_refl, if_true, hv_okQ_iff]
    | succ k ih =>
      intro f x hf
      rw [r_X7_leastLeft_5]
      have hQ2 : I 69 (21 + f) = nI (tQ T f 2) := hM.2.2.2.2 f 2 (by omega) (by omega)
      simp only [hv_drop_i, hv_drop_r, hv_drop_n, hv_drop_a, hv_rf_some, r_X7_leastLeft_0, r_X7_leastLeft_2, r_X7_leastLeft_3, r_X7_leastLeft_4, r_X7_leastLeft_6, r_X7_leastLeft_7, r_X7_leastLeft_10, r_X7_leastLeft_11, r_X7_leastLeft_12, r_X7_leastLeft_15, r_X7_leastLeft_16, r_X7_leastLeft_20, r_X7_leastLeft_21, r_X7_leastLeft_24, r_X7_leastLeft_26, r_X7_leastLeft_27, r_X7_leastLeft_28, r_X7_leastLeft_29, r_X7_leastLeft_30, r_X7_leastLeft_31, r_X7_leastLeft_32, r_X7_leastLeft_33, r_X7_leastLeft_36, r_X7_leastLeft_37, r_X7_leastLeft_40, r_X7_leastLeft_41, r_X7_leastLeft_42, r_X7_leastLeft_45, r_X7_leastLeft_48, r_X7_leastLeft_49, kd67, true_and, pp67_3, ln69, show hv_ix 1 36 = true by decide, c_1, hM.2.1, nI_ge (show f < tF T by omega) (by omega), if_false]
      refine k_X7_leastLeft_17 kd67 (joyOf_T (d := 2) (by omega) hT hM hw (by omega)) ?_
      simp only [hv_drop_i, hv_drop_r, hv_drop_n, hv_drop_a, hv_rf_some, r_X7_leastLeft_0, r_X7_leastLeft_2, r_X7_leastLeft_3, r_X7_leastLeft_4, r_X7_leastLeft_6, r_X7_leastLeft_7, r_X7_leastLeft_10, r_X7_leastLeft_11, r_X7_leastLeft_12, r_X7_leastLeft_15, r_X7_leastLeft_16, r_X7_leastLeft_20, r_X7_leastLeft_21, r_X7_leastLeft_24, r_X7_leastLeft_26, r_X7_leastLeft_27, r_X7_leastLeft_28, r_X7_leastLeft_29, r_X7_leastLeft_30, r_X7_leastLeft_31, r_X7_leastLeft_32, r_X7_leastLeft_33, r_X7_leastLeft_36, r_X7_leastLeft_37, r_X7_leastLeft_40, r_X7_leastLeft_41, r_X7_leastLeft_42, r_X7_leastLeft_45, r_X7_leastLeft_48, r_X7_leastLeft_49, kd67, true_and, pp67_3, ln69, a_21, hv_ix_nI (show 21 + f < 36 by omega) (by decide), nI_clamp (n := 21 + f) (by omega), hQ2, nI_1]
      have hi := ih (f + 1) (some (.int (lf T w f))) (by omega)
      by_cases h : lf T w f < mnL T w f
      · have h' : ¬ mnL T w f ≤ nI (jyF T w f) - nI (tQ T f 2) := Int32.not_le.mpr h
        simp only [h', if_false]
        simp only [mnL, h, if_true] at hi
        exact hi
      · have h' : mnL T w f ≤ nI (jyF T w f) - nI (tQ T f 2) := Int32.not_lt.mp h
        simp only [h', if_true]
        simp only [mnL, h, if_false] at hi
        exact hi
  exact key (tF T) 0 none (by omega)
end MODEL
