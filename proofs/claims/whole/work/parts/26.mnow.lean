/-! ===== begin; bits counted; the reference's rows: isNow, turnsOf, ones, keeps ===== -/
def bcI (v : Int32) : Int32 :=
  let i1 := v - ((v.toUInt32 >>> ((1 : Int32).toUInt32 &&& Int32.toUInt32 31)).toInt32 &&& 1431655765)
  let i2 := (i1 &&& 858993459) + ((i1.toUInt32 >>> ((2 : Int32).toUInt32 &&& Int32.toUInt32 31)).toInt32 &&& 858993459)
  let i3 := (i2 + (i2.toUInt32 >>> ((4 : Int32).toUInt32 &&& Int32.toUInt32 31)).toInt32) &&& 252645135
  let i4 := i3 + (i3.toUInt32 >>> ((8 : Int32).toUInt32 &&& Int32.toUInt32 31)).toInt32
  let i5 := i4 + (i4.toUInt32 >>> ((16 : Int32).toUInt32 &&& Int32.toUInt32 31)).toInt32
  i5 &&& 63
def onI (v : Int32) : Int32 := sumI (fun k => (v >>> (nI k &&& 31)) &&& 1) 6
theorem bs_ones (w : Nat → Nat) (x : Nat) : bcI (bsT w x 6) = onI (bsT w x 6) := by
  unfold bsT bsT bsT bsT bsT bsT bsT
  by_cases h0 : w 0 = x <;> by_cases h1 : w 1 = x <;> by_cases h2 : w 2 = x <;> by_cases h3 : w 3 = x <;> by_cases h4 : w 4 = x <;> by_cases h5 : w 5 = x <;> simp only [h0, h1, h2, h3, h4, h5, if_true, if_false] <;> decide +kernel
section MNOW
variable {xs : hv_X} {I : hI} {L : hL} {τ : Bool} {T : TD}
theorem bitCount_ok {d : Nat} {sh : hv_Sh} {μ : hv_M} (v : Int32) : hv_Ok xs d yJ6_bitCount_0f7a4 [.int v] sh μ (some (.int (bcI v))) μ := by
  apply o_J6_bitCount_0f7a4
  simp only [hv_drop_i, hv_drop_r, hv_drop_n, hv_drop_a, hv_rf_some, r_J6_bitCount_0f7a4_0, r_J6_bitCount_0f7a4_1, r_J6_bitCount_0f7a4_2, r_J6_bitCount_0f7a4_3, r_J6_bitCount_0f7a4_4, r_J6_bitCount_0f7a4_7, r_J6_bitCount_0f7a4_8, r_J6_bitCount_0f7a4_9, r_J6_bitCount_0f7a4_10, r_J6_bitCount_0f7a4_11, r_J6_bitCount_0f7a4_14, r_J6_bitCount_0f7a4_15, r_J6_bitCount_0f7a4_16, r_J6_bitCount_0f7a4_17, r_J6_bitCount_0f7a4_18, r_J6_bitCount_0f7a4_21, r_J6_bitCount_0f7a4_22, r_J6_bitCount_0f7a4_23, r_J6_bitCount_0f7a4_24, r_J6_bitCount_0f7a4_25, r_J6_bitCount_0f7a4_26, r_J6_bitCount_0f7a4_27, r_J6_bitCount_0f7a4_28, r_J6_bitCount_0f7a4_29, r_J6_bitCount_0f7a4_32, r_J6_bitCount_0f7a4_33, r_J6_bitCount_0f7a4_34, r_J6_bitCount_0f7a4_35, r_J6_bitCount_0f7a4_36, r_J6_bitCount_0f7a4_38, r_J6_bitCount_0f7a4_39, r_J6_bitCount_0f7a4_40, r_J6_bitCount_0f7a4_41, r_J6_bitCount_0f7a4_42, r_J6_bitCount_0f7a4_43, r_J6_bitCount_0f7a4_45, r_J6_bitCount_0f7a4_46, r_J6_bitCount_0f7a4_47, r_J6_bitCount_0f7a4_48, r_J6_bitCount_0f7a4_49, r_J6_bitCount_0f7a4_51, r_J6_bitCount_0f7a4_52, hv_okQ_iff]
  exact ⟨rfl, trivial⟩
def BegC (I I' : hI) : Prop := (∀ k, k < 18 → rowC I' 19 k = if k < 6 then -1 else 0) ∧ I' 19 6 = 0 ∧ ∀ k j, (k < 19 ∨ 22 < k) → I' k j = I k j
theorem begin_ok {d : Nat} (hd : 1 ≤ d) : ∃ I', hv_Ok xs d yX0_begin [.ref 19] hv_SH (I, L, hv_PP τ) none (I', L, hv_PP τ) ∧ BegC I I' := by
  refine ⟨?w, o_X0_begin ?a, ?b⟩
  case a =>
    simp only [hv_drop_i, hv_drop_r, hv_drop_n, hv_drop_a, hv_rf_some, r_X0_begin_0, r_X0_begin_1, r_X0_begin_4, r_X0_begin_8, r_X0_begin_9, r_X0_begin_12, r_X0_begin_16, r_X0_begin_17, r_X0_begin_20, r_X0_begin_24, r_X0_begin_25, r_X0_begin_26, r_X0_begin_29, r_X0_begin_30, r_X0_begin_31, r_X0_begin_34, r_X0_begin_35, r_X0_begin_36, r_X0_begin_39, kd19, true_and, pp19_0]
    refine k_X0_begin_5 (fill_ok (d := 0) kd20 ln20 (by decide) _) ?_
    simp only [hv_drop_i, hv_drop_r, hv_drop_n, hv_drop_a, hv_rf_some, r_X0_begin_0, r_X0_begin_1, r_X0_begin_4, r_X0_begin_8, r_X0_begin_9, r_X0_begin_12, r_X0_begin_16, r_X0_begin_17, r_X0_begin_20, r_X0_begin_24, r_X0_begin_25, r_X0_begin_26, r_X0_begin_29, r_X0_begin_30, r_X0_begin_31, r_X0_begin_34, r_X0_begin_35, r_X0_begin_36, r_X0_begin_39, kd19, true_and, pp19_1]
    refine k_X0_begin_13 (fill_ok (d := 0) kd21 ln21 (by decide) _) ?_
    simp only [hv_drop_i, hv_drop_r, hv_drop_n, hv_drop_a, hv_rf_some, r_X0_begin_0, r_X0_begin_1, r_X0_begin_4, r_X0_begin_8, r_X0_begin_9, r_X0_begin_12, r_X0_begin_16, r_X0_begin_17, r_X0_begin_20, r_X0_begin_24, r_X0_begin_25, r_X0_begin_26, r_X0_begin_29, r_X0_begin_30, r_X0_begin_31, r_X0_begin_34, r_X0_begin_35, r_X0_begin_36, r_X0_begin_39, kd19, true_and, pp19_2]
    refine k_X0_begin_21 (fill_ok (d := 0) kd22 ln22 (by decide) _) ?_
    simp only [hv_drop_i, hv_drop_r, hv_drop_n, hv_drop_a, hv_rf_some, r_X0_begin_0, r_X0_begin_1, r_X0_begin_4, r_X0_begin_8, r_X0_begin_9, r_X0_begin_12, r_X0_begin_16, r_X0_begin_17, r_X0_begin_20, r_X0_begin_24, r_X0_begin_25, r_X0_begin_26, r_X0_begin_29, r_X0_begin_30, r_X0_begin_31, r_X0_begin_34, r_X0_begin_35, r_X0_begin_36, r_X0_begin_39, kd19, true_and, t_uI, hv_okQ_iff]
    exact rfl
  case b =>
    refine ⟨fun k hk => ?_, ?_, fun k j hk => ?_⟩
    · simp only [iU, iR, rowC, Nat.reduceAdd, Nat.reduceEqDiff, false_and, true_and, and_true, and_false, if_false, if_true]
      (repeat' split) <;> first | (exfalso; omega) | rfl
    · simp [iU, iR]
    · simp only [iU, iR, show ¬ k = 19 by omega, show ¬ k = 20 by omega, show ¬ k = 21 by omega, show ¬ k = 22 by omega, false_and, if_false]
/-- the reference's row 'it' is that of NOW -/
def nowM (I : hI) (n : Nat) : hI := fun k j => if k = 75 ∧ j < n then I 71 j else I k j
theorem isNow_ok {d : Nat} : hv_Ok xs d yX7_isNow [.ref 67] hv_SH (I, L, hv_PP τ) none (nowM I 6, L, hv_PP τ) := by
  apply o_X7_isNow
  simp only [hv_drop_i, hv_drop_r, hv_drop_n, hv_drop_a, hv_rf_some, r_X7_isNow_0, r_X7_isNow_1, r_X7_isNow_3, r_X7_isNow_5, r_X7_isNow_8, r_X7_isNow_9, r_X7_isNow_12, r_X7_isNow_13, r_X7_isNow_14, r_X7_isNow_17, r_X7_isNow_18, r_X7_isNow_19, r_X7_isNow_20, r_X7_isNow_23, r_X7_isNow_26]
  have key : ∀ k t I', t + k = 6 → I' = nowM I t → P_X7_isNow xs d (hv_okQ none hv_SH (nowM I 6, L, hv_PP τ)) 2 [some (.ref 67), some (.int (nI t))] [] (hv_SH, 0, 0) (I', L, hv_PP τ) := by
    intro k
    induction k with
    | zero =>
      intro t I' ht hI
      have : t = 6 := by omega
      subst this
      subst hI
      rw [r_X7_isNow_2]
      simp only [hv_drop_i, hv_drop_r, hv_drop_n, hv_drop_a, hv_rf_some, r_X7_isNow_0, r_X7_isNow_1, r_X7_isNow_3, r_X7_isNow_5, r_X7_isNow_8, r_X7_isNow_9, r_X7_isNow_12, r_X7_isNow_13, r_X7_isNow_14, r_X7_isNow_17, r_X7_isNow_18, r_X7_isNow_19, r_X7_isNow_20, r_X7_isNow_23, r_X7_isNow_26, show (6 : Int32) ≤ nI 6 by decide, if_true, hv_okQ_iff, and_self]
    | succ k ih =>
      intro t I' ht hI
      have e6 : ¬ (6 : Int32) ≤ nI t := by rw [show (6 : Int32) = nI 6 by decide]; exact nI_ge (by omega) (by omega)
      rw [r_X7_isNow_2]
      simp only [hv_drop_i, hv_drop_r, hv_drop_n, hv_drop_a, hv_rf_some, r_X7_isNow_0, r_X7_isNow_1, r_X7_isNow_3, r_X7_isNow_5, r_X7_isNow_8, r_X7_isNow_9, r_X7_isNow_12, r_X7_isNow_13, r_X7_isNow_14, r_X7_isNow_17, r_X7_isNow_18, r_X7_isNow_19, r_X7_isNow_20, r_X7_isNow_23, r_X7_isNow_26, kd67, true_and, pp67_14, pp67_5, ln71, ln75, e6, if_false, hv_ix_nI (show t < 199 by omega) (by decide), hv_ix_nI (show t < 6 by omega) (by decide), nI_clamp (n := t) (by omega), nI_1, t_uI]
      refine ih (t + 1) _ (by omega) ?_
      subst hI
      funext k' j'
      simp only [iU, nowM]
      by_cases h1 : k' = 75
      · subst h1
        by_cases h2 : j' = t
        · subst h2; simp
        · simp only [h2, and_false, if_false, true_and]
          by_cases h3 : j' < t
          · rw [if_pos h3, if_pos (by omega)]
          · rw [if_neg h3, if_neg (by omega)]
      · simp [h1]
  exact key 6 0 I (by omega) (by funext k j; simp [nowM])
/-- who is IT by the reference's row s -/
def WS (T : TD) (S : Nat → Int32) (w : Nat → Nat) : Prop := (∀ t, t < 6 → S t = rW (w t)) ∧ ∀ t, w t ≤ tF T
theorem nowM_W {w : Nat → Nat} (hT : tOk T) (hw : WS T (I 71) w) : WM T (nowM I 6) w := by
  have h6 := hT.1
  refine ⟨fun t ht => ?_, hw.2⟩
  have : nowM I 6 75 t = I 71 t := by simp [nowM]; omega
  rw [this]
  exact hw.1 t (by omega)
theorem mTurnsOf_T {d : Nat} (hT : tOk T) (hM : TM T I) {w : Nat → Nat} (hw : WS T (I 71) w) {v : Int32} {x : Nat} (hv : ∀ t, t < 6 → (rW (w t) = v ↔ w t = x)) : hv_Ok xs d yX7_turnsOf [.ref 67, .int v] hv_SH (I, L, hv_PP τ) (some (.int (bsT w x (tN T)))) (I, L, hv_PP τ) := by
  have h6 := hT.1
  apply o_X7_turnsOf
  simp only [hv_drop_i, hv_drop_r, hv_drop_n, hv_drop_a, hv_rf_some, r_X7_turnsOf_0, r_X7_turnsOf_1, r_X7_turnsOf_2, r_X7_turnsOf_3, r_X7_turnsOf_5, r_X7_turnsOf_6, r_X7_turnsOf_9, r_X7_turnsOf_10, r_X7_turnsOf_11, r_X7_turnsOf_14, r_X7_turnsOf_15, r_X7_turnsOf_16, r_X7_turnsOf_19, r_X7_turnsOf_20, r_X7_turnsOf_21, r_X7_turnsOf_22, r_X7_turnsOf_25, r_X7_turnsOf_26, r_X7_turnsOf_27, r_X7_turnsOf_28, r_X7_turnsOf_31, r_X7_turnsOf_32, r_X7_turnsOf_33, r_X7_turnsOf_34, r_X7_turnsOf_37, r_X7_turnsOf_40, r_X7_turnsOf_41]
  have key : ∀ k t, t + k = tN T → P_X7_turnsOf xs d (hv_okQ (some (.int (bsT w x (tN T)))) hv_SH (I, L, hv_PP τ)) 4 [some (.ref 67), some (.int v), some (.int (bsT w x t)), some (.int (nI t))] [] (hv_SH, 0, 0) (I, L, hv_PP τ) := by
    intro k
    induction k with
    | zero =>
      intro t ht
      have : t = tN T := by omega
      subst this
      rw [r_X7_turnsOf_4]
      simp only [hv_drop_i, hv_drop_r, hv_drop_n, hv_drop_a, hv_rf_some, r_X7_turnsOf_0, r_X7_turnsOf_1, r_X7_turnsOf_2, r_X7_turnsOf_3, r_X7_turnsOf_5, r_X7_turnsOf_6, r_X7_turnsOf_9, r_X7_turnsOf_10, r_X7_turnsOf_11, r_X7_turnsOf_14, r_X7_turnsOf_15, r_X7_turnsOf_16, r_X7_turnsOf_19, r_X7_turnsOf_20, r_X7_turnsOf_21, r_X7_turnsOf_22, r_X7_turnsOf_25, r_X7_turnsOf_26, r_X7_turnsOf_27, r_X7_turnsOf_28, r_X7_turnsOf_31, r_X7_turnsOf_32, r_X7_turnsOf_33, r_X7_turnsOf_34, r_X7_turnsOf_37, r_X7_turnsOf_40, r_X7_turnsOf_41, kd67, true_and, pp67_3, ln69, show hv_ix 0 36 = true by decide, c_0, hM.1, Int32.le_refl, if_true, hv_okQ_iff, and_self]
    | succ k ih =>
      intro t ht
      rw [r_X7_turnsOf_4]
      simp only [hv_drop_i, hv_drop_r, hv_drop_n, hv_drop_a, hv_rf_some, r_X7_turnsOf_0, r_X7_turnsOf_1, r_X7_turnsOf_2, r_X7_turnsOf_3, r_X7_turnsOf_5, r_X7_turnsOf_6, r_X7_turnsOf_9, r_X7_turnsOf_10, r_X7_turnsOf_11, r_X7_turnsOf_14, r_X7_turnsOf_15, r_X7_turnsOf_16, r_X7_turnsOf_19, r_X7_turnsOf_20, r_X7_turnsOf_21, r_X7_turnsOf_22, r_X7_turnsOf_25, r_X7_turnsOf_26, r_X7_turnsOf_27, r_X7_turnsOf_28, r_X7_turnsOf_31, r_X7_turnsOf_32, r_X7_turnsOf_33, r_X7_turnsOf_34, r_X7_turnsOf_37, r_X7_turnsOf_40, r_X7_turnsOf_41, kd67, true_and, pp67_3, pp67_5, ln69, ln71, show hv_ix 0 36 = true by decide, c_0, hM.1, nI_ge (show t < tN T by omega) (by omega), if_false, hv_ix_nI (show t < 199 by omega) (by decide), nI_clamp (n := t) (by omega), hw.1 t (by omega), ne_eq, hv t (by omega), nI_1, or_0]
      have hi := ih (t + 1) (by omega)
      by_cases h : w t = x
      · simp only [h, not_true_eq_false, if_false]
        simp only [bsT, h, if_true] at hi
        exact hi
      · simp only [h, not_false_eq_true, if_true]
        simp only [bsT, h, if_false] at hi
        exact hi
  exact key (tN T) 0 (by omega)
theorem ones_ok {d : Nat} {sh : hv_Sh} {μ : hv_M} (v : Int32) : hv_Ok xs d yX7_ones [.int v] sh μ (some (.int (onI v))) μ := by
  apply o_X7_ones
  simp only [hv_drop_i, hv_drop_r, hv_drop_n, hv_drop_a, hv_rf_some, r_X7_ones_0, r_X7_ones_1, r_X7_ones_2, r_X7_ones_3, r_X7_ones_5, r_X7_ones_7, r_X7_ones_10, r_X7_ones_11, r_X7_ones_12, r_X7_ones_13, r_X7_ones_14, r_X7_ones_15, r_X7_ones_16, r_X7_ones_17, r_X7_ones_18, r_X7_ones_21, r_X7_ones_24, r_X7_ones_25]
  have key : ∀ k t, t + k = 6 → P_X7_ones xs d (hv_okQ (some (.int (onI v))) sh μ) 4 [some (.int v), some (.int (sumI (fun k => (v >>> (nI k &&& 31)) &&& 1) t)), some (.int (nI t))] [] (sh, 0, 0) μ := by
    intro k
    induction k with
    | zero =>
      intro t ht
      have : t = 6 := by omega
      subst this
      rw [r_X7_ones_4]
      simp only [hv_drop_i, hv_drop_r, hv_drop_n, hv_drop_a, hv_rf_some, r_X7_ones_0, r_X7_ones_1, r_X7_ones_2, r_X7_ones_3, r_X7_ones_5, r_X7_ones_7, r_X7_ones_10, r_X7_ones_11, r_X7_ones_12, r_X7_ones_13, r_X7_ones_14, r_X7_ones_15, r_X7_ones_16, r_X7_ones_17, r_X7_ones_18, r_X7_ones_21, r_X7_ones_24, r_X7_ones_25, show (6 : Int32) ≤ nI 6 by decide, if_true, hv_okQ_iff]
      exact ⟨rfl, trivial⟩
    | succ k ih =>
      intro t ht
      have e6 : ¬ (6 : Int32) ≤ nI t := by rw [show (6 : Int32) = nI 6 by decide]; exact nI_ge (by omega) (by omega)
      rw [r_X7_ones_4]
      simp only [hv_drop_i, hv_drop_r, hv_drop_n, hv_drop_a, hv_rf_some, r_X7_ones_0, r_X7_ones_1, r_X7_ones_2, r_X7_ones_3, r_X7_ones_5, r_X7_ones_7, r_X7_ones_10, r_X7_ones_11, r_X7_ones_12, r_X7_ones_13, r_X7_ones_14, r_X7_ones_15, r_X7_ones_16, r_X7_ones_17, r_X7_ones_18, r_X7_ones_21, r_X7_ones_24, r_X7_ones_25, e6, if_false, nI_1]
      exact ih (t + 1) (by omega)
  exact key 6 0 (by omega)
/-- rows of the reference: moved down by eighteen; the first eighteen put to place b; eighteen fetched from place b -/
def shM (I : hI) (n : Nat) : hI := fun k j => if k = 71 ∧ 19 ≤ j ∧ j < n then I 71 (j + 18) else I k j
def cpM (I : hI) (b n : Nat) : hI := fun k j => if k = 71 ∧ b ≤ j ∧ j < b + n then I 71 (j - b) else I k j
def rsM (I : hI) (b n : Nat) : hI := fun k j => if k = 71 ∧ j < n then I 71 (b + j) else I k j
def RemM (I I' : hI) (u v : Nat) : Prop := I' 71 18 = nI (v + 1) ∧ (∀ j, j < v → ∀ k, k < 18 → I' 71 (19 + 18 * j + k) = I 71 (19 + 18 * (j + (u - v)) + k)) ∧ (∀ k, k < 18 → I' 71 (19 + 18 * v + k) = I 71 k) ∧ (∀ k, k < 18 → I' 71 k = I 71 k) ∧ ∀ k j, k ≠ 71 → I' k j = I k j
theorem m18_ (u : Nat) : 18 * nI u = nI (18 * u) := by rw [show (18 : Int32) = nI 18 by decide, pk_mul]
theorem keeps_tail {d : Nat} {I0 : hI} {Q : hv_Q} {v : Nat} (hv : v < 10) (h18 : I0 71 18 = nI v) (x1 x2 : Option Value) (hq : Q none (hv_SH, 0, 0) (iU (cpM I0 (19 + 18 * v) 18) 71 18 (nI (v + 1)), L, hv_PP τ)) : P_X7_keeps xs d Q 54 [some (.ref 67), x1, x2] [] (hv_SH, 0, 0) (I0, L, hv_PP τ) := by
  simp only [hv_drop_i, hv_drop_r, hv_drop_n, hv_drop_a, hv_rf_some, r_X7_keeps_0, r_X7_keeps_1, r_X7_keeps_4, r_X7_keeps_6, r_X7_keeps_7, r_X7_keeps_9, r_X7_keeps_12, r_X7_keeps_14, r_X7_keeps_16, r_X7_keeps_19, r_X7_keeps_22, r_X7_keeps_23, r_X7_keeps_26, r_X7_keeps_27, r_X7_keeps_28, r_X7_keeps_31, r_X7_keeps_32, r_X7_keeps_34, r_X7_keeps_35, r_X7_keeps_36, r_X7_keeps_37, r_X7_keeps_40, r_X7_keeps_43, r_X7_keeps_44, r_X7_keeps_47, r_X7_keeps_49, r_X7_keeps_50, r_X7_keeps_51, r_X7_keeps_52, r_X7_keeps_53, r_X7_keeps_54, r_X7_keeps_56, r_X7_keeps_58, r_X7_keeps_59, r_X7_keeps_62, r_X7_keeps_64, r_X7_keeps_65, r_X7_keeps_66, r_X7_keeps_67, r_X7_keeps_68, r_X7_keeps_69, r_X7_keeps_71, r_X7_keeps_73, r_X7_keeps_76, r_X7_keeps_77, r_X7_keeps_80, r_X7_keeps_81, r_X7_keeps_82, r_X7_keeps_83, r_X7_keeps_84, r_X7_keeps_87, r_X7_keeps_88, r_X7_keeps_89, r_X7_keeps_90, r_X7_keeps_93, r_X7_keeps_96, r_X7_keeps_97, r_X7_keeps_100, r_X7_keeps_102, r_X7_keeps_103, r_X7_keeps_104, r_X7_keeps_105, r_X7_keeps_106, r_X7_keeps_107, kd67, true_and, pp67_5, ln71, show hv_ix 18 199 = true by decide, c_18, h18, m18_, a_19]
  have key : ∀ k t I', t + k = 18 → I' = cpM I0 (19 + 18 * v) t → P_X7_keeps xs d Q 70 [some (.ref 67), some (.int (nI (19 + 18 * v))), some (.int (nI t))] [] (hv_SH, 0, 0) (I', L, hv_PP τ) := by
    intro k
    induction k with
    | zero =>
      intro t I' ht hI
      have : t = 18 := by omega
      subst this
      subst hI
      have e : cpM I0 (19 + 18 * v) 18 71 18 = nI v := by rw [← h18]; simp [cpM]; omega
      rw [r_X7_keeps_70]
      simp only [hv_drop_i, hv_drop_r, hv_drop_n, hv_drop_a, hv_rf_some, r_X7_keeps_0, r_X7_keeps_1, r_X7_keeps_4, r_X7_keeps_6, r_X7_keeps_7, r_X7_keeps_9, r_X7_keeps_12, r_X7_keeps_14, r_X7_keeps_16, r_X7_keeps_19, r_X7_keeps_22, r_X7_keeps_23, r_X7_keeps_26, r_X7_keeps_27, r_X7_keeps_28, r_X7_keeps_31, r_X7_keeps_32, r_X7_keeps_34, r_X7_keeps_35, r_X7_keeps_36, r_X7_keeps_37, r_X7_keeps_40, r_X7_keeps_43, r_X7_keeps_44, r_X7_keeps_47, r_X7_keeps_49, r_X7_keeps_50, r_X7_keeps_51, r_X7_keeps_52, r_X7_keeps_53, r_X7_keeps_54, r_X7_keeps_56, r_X7_keeps_58, r_X7_keeps_59, r_X7_keeps_62, r_X7_keeps_64, r_X7_keeps_65, r_X7_keeps_66, r_X7_keeps_67, r_X7_keeps_68, r_X7_keeps_69, r_X7_keeps_71, r_X7_keeps_73, r_X7_keeps_76, r_X7_keeps_77, r_X7_keeps_80, r_X7_keeps_81, r_X7_keeps_82, r_X7_keeps_83, r_X7_keeps_84, r_X7_keeps_87, r_X7_keeps_88, r_X7_keeps_89, r_X7_keeps_90, r_X7_keeps_93, r_X7_keeps_96, r_X7_keeps_97, r_X7_keeps_100, r_X7_keeps_102, r_X7_keeps_103, r_X7_keeps_104, r_X7_keeps_105, r_X7_keeps_106, r_X7_keeps_107, show (18 : Int32) ≤ nI 18 by decide, if_true, kd67, true_and, pp67_5, ln71, show hv_ix 18 199 = true by decide, c_18, e, nI_1, t_uI]
      exact hq
    | succ k ih =>
      intro t I' ht hI
      have e6 : ¬ (18 : Int32) ≤ nI t := by rw [show (18 : Int32) = nI 18 by decide]; exact nI_ge (by omega) (by omega)
      have e : I' 71 t = I0 71 t := by subst hI; simp [cpM]; omega
      rw [r_X7_keeps_70]
      simp only [hv_drop_i, hv_drop_r, hv_drop_n, hv_drop_a, hv_rf_some, r_X7_keeps_0, r_X7_keeps_1, r_X7_keeps_4, r_X7_keeps_6, r_X7_keeps_7, r_X7_keeps_9, r_X7_keeps_12, r_X7_keeps_14, r_X7_keeps_16, r_X7_keeps_19, r_X7_keeps_22, r_X7_keeps_23, r_X7_keeps_26, r_X7_keeps_27, r_X7_keeps_28, r_X7_keeps_31, r_X7_keeps_32, r_X7_keeps_34, r_X7_keeps_35, r_X7_keeps_36, r_X7_keeps_37, r_X7_keeps_40, r_X7_keeps_43, r_X7_keeps_44, r_X7_keeps_47, r_X7_keeps_49, r_X7_keeps_50, r_X7_keeps_51, r_X7_keeps_52, r_X7_keeps_53, r_X7_keeps_54, r_X7_keeps_56, r_X7_keeps_58, r_X7_keeps_59, r_X7_keeps_62, r_X7_keeps_64, r_X7_keeps_65, r_X7_keeps_66, r_X7_keeps_67, r_X7_keeps_68, r_X7_keeps_69, r_X7_keeps_71, r_X7_keeps_73, r_X7_keeps_76, r_X7_keeps_77, r_X7_keeps_80, r_X7_keeps_81, r_X7_keeps_82, r_X7_keeps_83, r_X7_keeps_84, r_X7_keeps_87, r_X7_keeps_88, r_X7_keeps_89, r_X7_keeps_90, r_X7_keeps_93, r_X7_keeps_96, r_X7_keeps_97, r_X7_keeps_100, r_X7_keeps_102, r_X7_keeps_103, r_X7_keeps_104, r_X7_keeps_105, r_X7_keeps_106, r_X7_keeps_107, e6, if_false, kd67, true_and, pp67_5, ln71, nI_add, hv_ix_nI (show 19 + 18 * v + t < 199 by omega) (by decide), hv_ix_nI (show t < 199 by omega) (by decide), nI_clamp (n := t) (by omega), nI_clamp (n := 19 + 18 * v + t) (by omega), nI_1, t_uI, e]
      refine ih (t + 1) _ (by omega) ?_
      subst hI
      funext k' j'
      simp only [iU, cpM]
      by_cases h1 : k' = 71
      · subst h1
        by_cases h2 : j' = 19 + 18 * v + t
        · subst h2
          rw [if_pos ⟨rfl, rfl⟩, if_pos ⟨rfl, by omega, by omega⟩]
          exact congrArg (I0 71) (by omega)
        · rw [if_neg (fun q => h2 q.2)]
          by_cases h3 : 19 + 18 * v ≤ j' ∧ j' < 19 + 18 * v + t
          · rw [if_pos ⟨rfl, h3⟩, if_pos ⟨rfl, by omega, by omega⟩]
          · rw [if_neg (fun q => h3 q.2), if_neg (fun q => h3 (by omega))]
      · simp [h1]
  exact key 18 0 I0 (by omega) (by funext k j; simp [cpM]; omega)
end MNOW
