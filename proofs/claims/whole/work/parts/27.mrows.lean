/-! ===== the reference's keeps, undo, keep, back, year, tells ===== -/
section MROWS
variable {xs : hv_X} {I : hI} {L : hL} {τ : Bool} {T : TD}
theorem keeps_lt {d : Nat} {u : Nat} (hu : u < 10) (h18 : I 71 18 = nI u) : ∃ I', hv_Ok xs d yX7_keeps [.ref 67] hv_SH (I, L, hv_PP τ) none (I', L, hv_PP τ) ∧ RemM I I' u u := by
  refine ⟨iU (cpM I (19 + 18 * u) 18) 71 18 (nI (u + 1)), ?_, ?_⟩
  · apply o_X7_keeps
    have e : ¬ nI u = 10 := by rw [show (10 : Int32) = nI 10 by decide, nI_eq (by omega) (by omega)]; omega
    simp only [hv_drop_i, hv_drop_r, hv_drop_n, hv_drop_a, hv_rf_some, r_X7_keeps_0, r_X7_keeps_1, r_X7_keeps_4, r_X7_keeps_6, r_X7_keeps_7, r_X7_keeps_9, kd67, true_and, pp67_5, ln71, show hv_ix 18 199 = true by decide, c_18, h18, ne_eq, e, not_false_eq_true, if_true]
    exact keeps_tail hu h18 _ _ (hv_okQ_iff.mpr ⟨rfl, rfl⟩)
  · refine ⟨by simp [iU], fun j hj k hk => ?_, fun k hk => ?_, fun k hk => ?_, fun k j hk => ?_⟩
    · rw [u_n (by omega), Nat.sub_self, Nat.add_zero]
      exact if_neg (by omega)
    · rw [u_n (by omega)]
      refine (if_pos (by omega)).trans ?_
      exact congrArg (I 71) (by omega)
    · rw [u_n (by omega)]
      exact if_neg (by omega)
    · rw [u_n (by omega)]
      exact if_neg (by omega)
theorem keeps_10 {d : Nat} (h18 : I 71 18 = nI 10) : ∃ I', hv_Ok xs d yX7_keeps [.ref 67] hv_SH (I, L, hv_PP τ) none (I', L, hv_PP τ) ∧ RemM I I' 10 9 := by
  refine ⟨iU (cpM (iU (shM I 181) 71 18 (nI 9)) (19 + 18 * 9) 18) 71 18 (nI (9 + 1)), ?_, ?_⟩
  · apply o_X7_keeps
    simp only [hv_drop_i, hv_drop_r, hv_drop_n, hv_drop_a, hv_rf_some, r_X7_keeps_0, r_X7_keeps_1, r_X7_keeps_4, r_X7_keeps_6, r_X7_keeps_7, r_X7_keeps_9, r_X7_keeps_12, r_X7_keeps_14, kd67, true_and, pp67_5, ln71, show hv_ix 18 199 = true by decide, c_18, h18, show ¬ (nI 10 ≠ 10) by decide, if_false]
    have key : ∀ k t I' x, t + k = 162 → I' = shM I (19 + t) → P_X7_keeps xs d (hv_okQ none hv_SH (iU (cpM (iU (shM I 181) 71 18 (nI 9)) (19 + 18 * 9) 18) 71 18 (nI (9 + 1)), L, hv_PP τ)) 15 [some (.ref 67), some (.int (nI (19 + t))), x] [] (hv_SH, 0, 0) (I', L, hv_PP τ) := by
      intro k
      induction k with
      | zero =>
        intro t I' x ht hI
        have : t = 162 := by omega
        subst this
        have e : I' 71 18 = nI 10 := by rw [← h18, hI]; simp [shM]
        rw [r_X7_keeps_15]
        simp only [hv_drop_i, hv_drop_r, hv_drop_n, hv_drop_a, hv_rf_some, r_X7_keeps_16, r_X7_keeps_19, r_X7_keeps_22, r_X7_keeps_23, r_X7_keeps_26, r_X7_keeps_27, r_X7_keeps_28, r_X7_keeps_31, r_X7_keeps_32, r_X7_keeps_34, r_X7_keeps_35, r_X7_keeps_36, r_X7_keeps_37, r_X7_keeps_40, r_X7_keeps_43, r_X7_keeps_44, r_X7_keeps_47, r_X7_keeps_49, r_X7_keeps_50, r_X7_keeps_51, r_X7_keeps_52, r_X7_keeps_53, show (181 : Int32) ≤ nI (19 + 162) by decide, if_true, kd67, true_and, pp67_5, ln71, show hv_ix 18 199 = true by decide, c_18, e, show nI 10 - 1 = nI 9 by decide, t_uI]
        subst hI
        exact keeps_tail (by omega) u_s _ _ (hv_okQ_iff.mpr ⟨rfl, rfl⟩)
      | succ k ih =>
        intro t I' x ht hI
        have e6 : ¬ (181 : Int32) ≤ nI (19 + t) := by rw [show (181 : Int32) = nI 181 by decide]; exact nI_ge (by omega) (by omega)
        have e : I' 71 (19 + t + 18) = I 71 (19 + t + 18) := by subst hI; exact if_neg (by omega)
        have e18 : nI (19 + t) + 18 = nI (19 + t + 18) := by rw [show (18 : Int32) = nI 18 by decide, nI_add]
        rw [r_X7_keeps_15]
        simp only [hv_drop_i, hv_drop_r, hv_drop_n, hv_drop_a, hv_rf_some, r_X7_keeps_16, r_X7_keeps_19, r_X7_keeps_22, r_X7_keeps_23, r_X7_keeps_26, r_X7_keeps_27, r_X7_keeps_28, r_X7_keeps_31, r_X7_keeps_32, r_X7_keeps_34, r_X7_keeps_35, r_X7_keeps_36, r_X7_keeps_37, r_X7_keeps_40, r_X7_keeps_43, r_X7_keeps_44, r_X7_keeps_47, r_X7_keeps_49, r_X7_keeps_50, r_X7_keeps_51, r_X7_keeps_52, r_X7_keeps_53, e6, if_false, kd67, true_and, pp67_5, ln71, e18, hv_ix_nI (show 19 + t < 199 by omega) (by decide), hv_ix_nI (show 19 + t + 18 < 199 by omega) (by decide), nI_clamp (n := 19 + t) (by omega), nI_clamp (n := 19 + t + 18) (by omega), nI_1, t_uI, e]
        refine ih (t + 1) _ _ (by omega) ?_
        subst hI
        funext k' j'
        simp only [iU, shM]
        by_cases h1 : k' = 71
        · subst h1
          by_cases h2 : j' = 19 + t
          · subst h2
            rw [if_pos ⟨rfl, rfl⟩, if_pos ⟨rfl, by omega, by omega⟩]
          · rw [if_neg (fun q => h2 q.2)]
            by_cases h3 : 19 ≤ j' ∧ j' < 19 + t
            · rw [if_pos ⟨rfl, h3⟩, if_pos ⟨rfl, by omega, by omega⟩]
            · rw [if_neg (fun q => h3 q.2), if_neg (fun q => h3 (by omega))]
        · simp [h1]
    exact key 162 0 I none (by omega) (by funext k j; simp [shM]; omega)
  · refine ⟨by simp [iU], fun j hj k hk => ?_, fun k hk => ?_, fun k hk => ?_, fun k j hk => ?_⟩
    · rw [u_n (by omega)]
      refine (if_neg (by omega)).trans ?_
      rw [u_n (by omega)]
      refine (if_pos (by omega)).trans ?_
      exact congrArg (I 71) (by omega)
    · rw [u_n (by omega)]
      refine (if_pos (by omega)).trans ?_
      rw [u_n (by omega)]
      refine (if_neg (by omega)).trans ?_
      exact congrArg (I 71) (by omega)
    · rw [u_n (by omega)]
      refine (if_neg (by omega)).trans ?_
      rw [u_n (by omega)]
      exact if_neg (by omega)
    · rw [u_n (by omega)]
      refine (if_neg (by omega)).trans ?_
      rw [u_n (by omega)]
      exact if_neg (by omega)
def RecM (I I' : hI) (v : Nat) : Prop := I' 71 18 = nI v ∧ (∀ k, k < 18 → I' 71 k = I 71 (19 + 18 * v + k)) ∧ (∀ k, 19 ≤ k → I' 71 k = I 71 k) ∧ ∀ k j, k ≠ 71 → I' k j = I k j
theorem mUndo_0 {d : Nat} (h18 : I 71 18 = nI 0) : hv_Ok xs d yX7_undo [.ref 67] hv_SH (I, L, hv_PP τ) (some (.int (-2))) (I, L, hv_PP τ) := by
  apply o_X7_undo
  simp only [hv_drop_i, hv_drop_r, hv_drop_n, hv_drop_a, hv_rf_some, r_X7_undo_0, r_X7_undo_1, r_X7_undo_4, r_X7_undo_6, r_X7_undo_7, r_X7_undo_10, r_X7_undo_12, r_X7_undo_13, r_X7_undo_14, r_X7_undo_17, r_X7_undo_19, r_X7_undo_20, r_X7_undo_21, r_X7_undo_22, r_X7_undo_23, r_X7_undo_24, r_X7_undo_26, r_X7_undo_28, r_X7_undo_29, r_X7_undo_32, r_X7_undo_34, r_X7_undo_35, r_X7_undo_36, r_X7_undo_37, r_X7_undo_38, r_X7_undo_39, r_X7_undo_41, r_X7_undo_43, r_X7_undo_46, r_X7_undo_47, r_X7_undo_50, r_X7_undo_51, r_X7_undo_52, r_X7_undo_55, r_X7_undo_56, r_X7_undo_57, r_X7_undo_58, r_X7_undo_59, r_X7_undo_60, r_X7_undo_63, r_X7_undo_66, r_X7_undo_67, r_X7_undo_70, r_X7_undo_72, r_X7_undo_73, kd67, true_and, pp67_5, ln71, show hv_ix 18 199 = true by decide, c_18, h18, show ¬ (nI 0 ≠ 0) by decide, if_false, hv_okQ_iff, and_self]
theorem mUndo_s {d : Nat} {u : Nat} (hu : u < 10) (h18 : I 71 18 = nI (u + 1)) : ∃ I', hv_Ok xs d yX7_undo [.ref 67] hv_SH (I, L, hv_PP τ) (some (.int (nI u))) (I', L, hv_PP τ) ∧ RecM I I' u := by
  refine ⟨rsM (iU I 71 18 (nI u)) (19 + 18 * u) 18, ?_, ?_⟩
  · apply o_X7_undo
    simp only [hv_drop_i, hv_drop_r, hv_drop_n, hv_drop_a, hv_rf_some, r_X7_undo_0, r_X7_undo_1, r_X7_undo_4, r_X7_undo_6, r_X7_undo_7, r_X7_undo_10, r_X7_undo_12, r_X7_undo_13, r_X7_undo_14, r_X7_undo_17, r_X7_undo_19, r_X7_undo_20, r_X7_undo_21, r_X7_undo_22, r_X7_undo_23, r_X7_undo_24, r_X7_undo_26, r_X7_undo_28, r_X7_undo_29, r_X7_undo_32, r_X7_undo_34, r_X7_undo_35, r_X7_undo_36, r_X7_undo_37, r_X7_undo_38, r_X7_undo_39, r_X7_undo_41, r_X7_undo_43, r_X7_undo_46, r_X7_undo_47, r_X7_undo_50, r_X7_undo_51, r_X7_undo_52, r_X7_undo_55, r_X7_undo_56, r_X7_undo_57, r_X7_undo_58, r_X7_undo_59, r_X7_undo_60, r_X7_undo_63, r_X7_undo_66, r_X7_undo_67, r_X7_undo_70, r_X7_undo_72, r_X7_undo_73, kd67, true_and, pp67_5, ln71, show hv_ix 18 199 = true by decide, c_18, h18, ne_eq, nI_ne0 (n := u + 1) (by omega) (by omega), not_false_eq_true, if_true, nI_pred, t_uI, u_s, m18_, a_19]
    have key : ∀ k t I', t + k = 18 → I' = rsM (iU I 71 18 (nI u)) (19 + 18 * u) t → P_X7_undo xs d (hv_okQ (some (.int (nI u))) hv_SH (rsM (iU I 71 18 (nI u)) (19 + 18 * u) 18, L, hv_PP τ)) 40 [some (.ref 67), some (.int (nI (19 + 18 * u))), some (.int (nI t))] [] (hv_SH, 0, 0) (I', L, hv_PP τ) := by
      intro k
      induction k with
      | zero =>
        intro t I' ht hI
        have : t = 18 := by omega
        subst this
        have e : I' 71 18 = nI u := by subst hI; simp [rsM, iU]
        rw [r_X7_undo_40]
        simp only [hv_drop_i, hv_drop_r, hv_drop_n, hv_drop_a, hv_rf_some, r_X7_undo_0, r_X7_undo_1, r_X7_undo_4, r_X7_undo_6, r_X7_undo_7, r_X7_undo_10, r_X7_undo_12, r_X7_undo_13, r_X7_undo_14, r_X7_undo_17, r_X7_undo_19, r_X7_undo_20, r_X7_undo_21, r_X7_undo_22, r_X7_undo_23, r_X7_undo_24, r_X7_undo_26, r_X7_undo_28, r_X7_undo_29, r_X7_undo_32, r_X7_undo_34, r_X7_undo_35, r_X7_undo_36, r_X7_undo_37, r_X7_undo_38, r_X7_undo_39, r_X7_undo_41, r_X7_undo_43, r_X7_undo_46, r_X7_undo_47, r_X7_undo_50, r_X7_undo_51, r_X7_undo_52, r_X7_undo_55, r_X7_undo_56, r_X7_undo_57, r_X7_undo_58, r_X7_undo_59, r_X7_undo_60, r_X7_undo_63, r_X7_undo_66, r_X7_undo_67, r_X7_undo_70, r_X7_undo_72, r_X7_undo_73, show (18 : Int32) ≤ nI 18 by decide, if_true, kd67, true_and, pp67_5, ln71, show hv_ix 18 199 = true by decide, c_18, e, hv_okQ_iff, hI, and_self]
        exact i_ok (by rw [← hI]; exact e)
      | succ k ih =>
        intro t I' ht hI
        have e6 : ¬ (18 : Int32) ≤ nI t := by rw [show (18 : Int32) = nI 18 by decide]; exact nI_ge (by omega) (by omega)
        have e : I' 71 (19 + 18 * u + t) = (iU I 71 18 (nI u)) 71 (19 + 18 * u + t) := by subst hI; exact if_neg (by omega)
        rw [r_X7_undo_40]
        simp only [hv_drop_i, hv_drop_r, hv_drop_n, hv_drop_a, hv_rf_some, r_X7_undo_0, r_X7_undo_1, r_X7_undo_4, r_X7_undo_6, r_X7_undo_7, r_X7_undo_10, r_X7_undo_12, r_X7_undo_13, r_X7_undo_14, r_X7_undo_17, r_X7_undo_19, r_X7_undo_20, r_X7_undo_21, r_X7_undo_22, r_X7_undo_23, r_X7_undo_24, r_X7_undo_26, r_X7_undo_28, r_X7_undo_29, r_X7_undo_32, r_X7_undo_34, r_X7_undo_35, r_X7_undo_36, r_X7_undo_37, r_X7_undo_38, r_X7_undo_39, r_X7_undo_41, r_X7_undo_43, r_X7_undo_46, r_X7_undo_47, r_X7_undo_50, r_X7_undo_51, r_X7_undo_52, r_X7_undo_55, r_X7_undo_56, r_X7_undo_57, r_X7_undo_58, r_X7_undo_59, r_X7_undo_60, r_X7_undo_63, r_X7_undo_66, r_X7_undo_67, r_X7_undo_70, r_X7_undo_72, r_X7_undo_73, e6, if_false, kd67, true_and, pp67_5, ln71, nI_add, hv_ix_nI (show 19 + 18 * u + t < 199 by omega) (by decide), hv_ix_nI (show t < 199 by omega) (by decide), nI_clamp (n := t) (by omega), nI_clamp (n := 19 + 18 * u + t) (by omega), nI_1, t_uI, e]
        refine ih (t + 1) _ (by omega) ?_
        subst hI
        generalize iU I 71 18 (nI u) = I1
        funext k' j'
        simp only [iU, rsM]
        by_cases h1 : k' = 71
        · subst h1
          by_cases h2 : j' = t
          · subst h2
            rw [if_pos ⟨rfl, rfl⟩, if_pos ⟨rfl, by omega⟩]
          · rw [if_neg (fun q => h2 q.2)]
            by_cases h3 : j' < t
            · rw [if_pos ⟨rfl, h3⟩, if_pos ⟨rfl, by omega⟩]
            · rw [if_neg (fun q => h3 q.2), if_neg (fun q => h3 (by omega))]
        · simp [h1]
    exact key 18 0 _ (by omega) (by funext k j; simp [rsM])
  · refine ⟨by simp [rsM, iU], fun k hk => ?_, fun k hk => ?_, fun k j hk => ?_⟩
    · exact (if_pos ⟨rfl, hk⟩).trans (u_n (by omega))
    · exact (if_neg (by omega)).trans (u_n (by omega))
    · exact (if_neg (by omega)).trans (u_n (by omega))
/-- an image of the reference: kept, brought back -/
def kpM (I : hI) (b n : Nat) : hI := fun k j => if k = 72 ∧ b ≤ j ∧ j < b + n then I 71 (j - b) else I k j
def bkM (I : hI) (b n : Nat) : hI := fun k j => if k = 71 ∧ j < n then I 72 (b + j) else I k j
theorem mKeep_bad {d : Nat} (hd : 1 ≤ d) {v : Int32} (hv : ¬ (0 ≤ v ∧ v ≤ 1)) : hv_Ok xs d yX7_keep [.ref 67, .int v] hv_SH (I, L, hv_PP τ) (some (.int (-1))) (I, L, hv_PP τ) := by
  apply o_X7_keep
  simp only [hv_drop_i, hv_drop_r, hv_drop_n, hv_drop_a, hv_rf_some, r_X7_keep_0, r_X7_keep_1, r_X7_keep_2, r_X7_keep_6, r_X7_keep_9, r_X7_keep_10, r_X7_keep_11, r_X7_keep_12, r_X7_keep_14, r_X7_keep_17, r_X7_keep_20, r_X7_keep_21, r_X7_keep_24, r_X7_keep_27, r_X7_keep_28, r_X7_keep_29, r_X7_keep_30, r_X7_keep_31, r_X7_keep_32, r_X7_keep_35, r_X7_keep_36, r_X7_keep_37, r_X7_keep_38, r_X7_keep_41, r_X7_keep_44, r_X7_keep_45, r_X7_keep_48, r_X7_keep_49, r_X7_keep_50, r_X7_keep_51, r_X7_keep_52, r_X7_keep_55, r_X7_keep_57, r_X7_keep_58]
  refine k_X7_keep_3 (in_ok (d := 0) _ _ _) ?_
  rw [b01_f hv]
  simp only [hv_drop_i, hv_drop_r, hv_drop_n, hv_drop_a, hv_rf_some, r_X7_keep_0, r_X7_keep_1, r_X7_keep_2, r_X7_keep_6, r_X7_keep_9, r_X7_keep_10, r_X7_keep_11, r_X7_keep_12, r_X7_keep_14, r_X7_keep_17, r_X7_keep_20, r_X7_keep_21, r_X7_keep_24, r_X7_keep_27, r_X7_keep_28, r_X7_keep_29, r_X7_keep_30, r_X7_keep_31, r_X7_keep_32, r_X7_keep_35, r_X7_keep_36, r_X7_keep_37, r_X7_keep_38, r_X7_keep_41, r_X7_keep_44, r_X7_keep_45, r_X7_keep_48, r_X7_keep_49, r_X7_keep_50, r_X7_keep_51, r_X7_keep_52, r_X7_keep_55, r_X7_keep_57, r_X7_keep_58, show ¬ ((0 : Int32) ≠ 0) by decide, if_false, hv_okQ_iff, and_self]
theorem mKeep_ok {d : Nat} (hd : 1 ≤ d) {i : Nat} (hi : i < 2) : hv_Ok xs d yX7_keep [.ref 67, .int (nI i)] hv_SH (I, L, hv_PP τ) (some (.int (I 71 17))) (iU (kpM I (199 * i) 199) 73 i 1, L, hv_PP τ) := by
  have m199 : (199 : Int32) * nI i = nI (199 * i) := by rw [show (199 : Int32) = nI 199 by decide, pk_mul]
  apply o_X7_keep
  simp only [hv_drop_i, hv_drop_r, hv_drop_n, hv_drop_a, hv_rf_some, r_X7_keep_0, r_X7_keep_1, r_X7_keep_2, r_X7_keep_6, r_X7_keep_9, r_X7_keep_10, r_X7_keep_11, r_X7_keep_12, r_X7_keep_14, r_X7_keep_17, r_X7_keep_20, r_X7_keep_21, r_X7_keep_24, r_X7_keep_27, r_X7_keep_28, r_X7_keep_29, r_X7_keep_30, r_X7_keep_31, r_X7_keep_32, r_X7_keep_35, r_X7_keep_36, r_X7_keep_37, r_X7_keep_38, r_X7_keep_41, r_X7_keep_44, r_X7_keep_45, r_X7_keep_48, r_X7_keep_49, r_X7_keep_50, r_X7_keep_51, r_X7_keep_52, r_X7_keep_55, r_X7_keep_57, r_X7_keep_58]
  refine k_X7_keep_3 (in_ok (d := 0) _ _ _) ?_
  rw [b01_t (show 0 ≤ nI i ∧ nI i ≤ 1 from ⟨nI_pos' (by omega), nI_le (a := i) (b := 1) (by omega) (by decide)⟩)]
  simp only [hv_drop_i, hv_drop_r, hv_drop_n, hv_drop_a, hv_rf_some, r_X7_keep_0, r_X7_keep_1, r_X7_keep_2, r_X7_keep_6, r_X7_keep_9, r_X7_keep_10, r_X7_keep_11, r_X7_keep_12, r_X7_keep_14, r_X7_keep_17, r_X7_keep_20, r_X7_keep_21, r_X7_keep_24, r_X7_keep_27, r_X7_keep_28, r_X7_keep_29, r_X7_keep_30, r_X7_keep_31, r_X7_keep_32, r_X7_keep_35, r_X7_keep_36, r_X7_keep_37, r_X7_keep_38, r_X7_keep_41, r_X7_keep_44, r_X7_keep_45, r_X7_keep_48, r_X7_keep_49, r_X7_keep_50, r_X7_keep_51, r_X7_keep_52, r_X7_keep_55, r_X7_keep_57, r_X7_keep_58, show (1 : Int32) ≠ 0 by decide, ne_eq, not_false_eq_true, if_true]
  have key : ∀ k t I', t + k = 199 → I' = kpM I (199 * i) t → P_X7_keep xs d (hv_okQ (some (.int (I 71 17))) hv_SH (iU (kpM I (199 * i) 199) 73 i 1, L, hv_PP τ)) 13 [some (.ref 67), some (.int (nI i)), some (.int (nI t))] [] (hv_SH, 0, 0) (I', L, hv_PP τ) := by
    intro k
    induction k with
    | zero =>
      intro t I' ht hI
      have : t = 199 := by omega
      subst this
      have e : iU I' 73 i 1 71 17 = I 71 17 := by subst hI; simp [kpM, iU]
      rw [r_X7_keep_13]
      simp only [hv_drop_i, hv_drop_r, hv_drop_n, hv_drop_a, hv_rf_some, r_X7_keep_0, r_X7_keep_1, r_X7_keep_2, r_X7_keep_6, r_X7_keep_9, r_X7_keep_10, r_X7_keep_11, r_X7_keep_12, r_X7_keep_14, r_X7_keep_17, r_X7_keep_20, r_X7_keep_21, r_X7_keep_24, r_X7_keep_27, r_X7_keep_28, r_X7_keep_29, r_X7_keep_30, r_X7_keep_31, r_X7_keep_32, r_X7_keep_35, r_X7_keep_36, r_X7_keep_37, r_X7_keep_38, r_X7_keep_41, r_X7_keep_44, r_X7_keep_45, r_X7_keep_48, r_X7_keep_49, r_X7_keep_50, r_X7_keep_51, r_X7_keep_52, r_X7_keep_55, r_X7_keep_57, r_X7_keep_58, show (199 : Int32) ≤ nI 199 by decide, if_true, kd67, true_and, pp67_5, pp67_7, ln71, ln73, show hv_ix 17 199 = true by decide, show (17 : Int32).toNatClampNeg = 17 by decide, hv_ix_nI hi (by decide), nI_clamp (n := i) (by omega), or_true, t_uI, e, hv_okQ_iff, hI, and_self]
      exact i_ok (by rw [← hI]; exact e)
    | succ k ih =>
      intro t I' ht hI
      have e6 : ¬ (199 : Int32) ≤ nI t := by rw [show (199 : Int32) = nI 199 by decide]; exact nI_ge (by omega) (by omega)
      have e : I' 71 t = I 71 t := by subst hI; simp [kpM]
      rw [r_X7_keep_13]
      simp only [hv_drop_i, hv_drop_r, hv_drop_n, hv_drop_a, hv_rf_some, r_X7_keep_0, r_X7_keep_1, r_X7_keep_2, r_X7_keep_6, r_X7_keep_9, r_X7_keep_10, r_X7_keep_11, r_X7_keep_12, r_X7_keep_14, r_X7_keep_17, r_X7_keep_20, r_X7_keep_21, r_X7_keep_24, r_X7_keep_27, r_X7_keep_28, r_X7_keep_29, r_X7_keep_30, r_X7_keep_31, r_X7_keep_32, r_X7_keep_35, r_X7_keep_36, r_X7_keep_37, r_X7_keep_38, r_X7_keep_41, r_X7_keep_44, r_X7_keep_45, r_X7_keep_48, r_X7_keep_49, r_X7_keep_50, r_X7_keep_51, r_X7_keep_52, r_X7_keep_55, r_X7_keep_57, r_X7_keep_58, e6, if_false, kd67, true_and, pp67_5, pp67_6, ln71, ln72, m199, nI_add, hv_ix_nI (show 199 * i + t < 398 by omega) (by decide), hv_ix_nI (show t < 199 by omega) (by decide), nI_clamp (n := t) (by omega), nI_clamp (n := 199 * i + t) (by omega), nI_1, t_uI, e]
      refine ih (t + 1) _ (by omega) ?_
      subst hI
      funext k' j'
      simp only [iU, kpM]
      by_cases h1 : k' = 72
      · subst h1
        by_cases h2 : j' = 199 * i + t
        · subst h2
          rw [if_pos ⟨rfl, rfl⟩, if_pos ⟨rfl, by omega, by omega⟩]
          exact congrArg (I 71) (by omega)
        · rw [if_neg (fun q => h2 q.2)]
          by_cases h3 : 199 * i ≤ j' ∧ j' < 199 * i + t
          · rw [if_pos ⟨rfl, h3⟩, if_pos ⟨rfl, by omega, by omega⟩]
          · rw [if_neg (fun q => h3 q.2), if_neg (fun q => h3 (by omega))]
      · simp [h1]
  exact key 199 0 I (by omega) (by funext k j; simp [kpM]; omega)
theorem mBack_bad {d : Nat} (hd : 1 ≤ d) {v : Int32} (hv : ¬ (0 ≤ v ∧ v ≤ 1)) : hv_Ok xs d yX7_back [.ref 67, .int v] hv_SH (I, L, hv_PP τ) (some (.int (-1))) (I, L, hv_PP τ) := by
  apply o_X7_back
  simp only [hv_drop_i, hv_drop_r, hv_drop_n, hv_drop_a, hv_rf_some, r_X7_back_0, r_X7_back_1, r_X7_back_2, r_X7_back_6, r_X7_back_9, r_X7_back_10, r_X7_back_11, r_X7_back_12, r_X7_back_15, r_X7_back_16, r_X7_back_17, r_X7_back_20, r_X7_back_22, r_X7_back_23, r_X7_back_24, r_X7_back_26, r_X7_back_29, r_X7_back_32, r_X7_back_33, r_X7_back_36, r_X7_back_37, r_X7_back_38, r_X7_back_41, r_X7_back_44, r_X7_back_45, r_X7_back_46, r_X7_back_47, r_X7_back_48, r_X7_back_49, r_X7_back_50, r_X7_back_53, r_X7_back_56, r_X7_back_57, r_X7_back_60, r_X7_back_62, r_X7_back_63]
  refine k_X7_back_3 (in_ok (d := 0) _ _ _) ?_
  rw [b01_f hv]
  simp only [hv_drop_i, hv_drop_r, hv_drop_n, hv_drop_a, hv_rf_some, r_X7_back_0, r_X7_back_1, r_X7_back_2, r_X7_back_6, r_X7_back_9, r_X7_back_10, r_X7_back_11, r_X7_back_12, r_X7_back_15, r_X7_back_16, r_X7_back_17, r_X7_back_20, r_X7_back_22, r_X7_back_23, r_X7_back_24, r_X7_back_26, r_X7_back_29, r_X7_back_32, r_X7_back_33, r_X7_back_36, r_X7_back_37, r_X7_back_38, r_X7_back_41, r_X7_back_44, r_X7_back_45, r_X7_back_46, r_X7_back_47, r_X7_back_48, r_X7_back_49, r_X7_back_50, r_X7_back_53, r_X7_back_56, r_X7_back_57, r_X7_back_60, r_X7_back_62, r_X7_back_63, show ¬ ((0 : Int32) ≠ 0) by decide, if_false, hv_okQ_iff, and_self]
theorem mBack_no {d : Nat} (hd : 1 ≤ d) {i : Nat} (hi : i < 2) (hk : I 73 i = 0) : hv_Ok xs d yX7_back [.ref 67, .int (nI i)] hv_SH (I, L, hv_PP τ) (some (.int (-2))) (I, L, hv_PP τ) := by
  apply o_X7_back
  simp only [hv_drop_i, hv_drop_r, hv_drop_n, hv_drop_a, hv_rf_some, r_X7_back_0, r_X7_back_1, r_X7_back_2, r_X7_back_6, r_X7_back_9, r_X7_back_10, r_X7_back_11, r_X7_back_12, r_X7_back_15, r_X7_back_16, r_X7_back_17, r_X7_back_20, r_X7_back_22, r_X7_back_23, r_X7_back_24, r_X7_back_26, r_X7_back_29, r_X7_back_32, r_X7_back_33, r_X7_back_36, r_X7_back_37, r_X7_back_38, r_X7_back_41, r_X7_back_44, r_X7_back_45, r_X7_back_46, r_X7_back_47, r_X7_back_48, r_X7_back_49, r_X7_back_50, r_X7_back_53, r_X7_back_56, r_X7_back_57, r_X7_back_60, r_X7_back_62, r_X7_back_63]
  refine k_X7_back_3 (in_ok (d := 0) _ _ _) ?_
  rw [b01_t (show 0 ≤ nI i ∧ nI i ≤ 1 from ⟨nI_pos' (by omega), nI_le (a := i) (b := 1) (by omega) (by decide)⟩)]
  simp only [hv_drop_i, hv_drop_r, hv_drop_n, hv_drop_a, hv_rf_some, r_X7_back_0, r_X7_back_1, r_X7_back_2, r_X7_back_6, r_X7_back_9, r_X7_back_10, r_X7_back_11, r_X7_back_12, r_X7_back_15, r_X7_back_16, r_X7_back_17, r_X7_back_20, r_X7_back_22, r_X7_back_23, r_X7_back_24, r_X7_back_26, r_X7_back_29, r_X7_back_32, r_X7_back_33, r_X7_back_36, r_X7_back_37, r_X7_back_38, r_X7_back_41, r_X7_back_44, r_X7_back_45, r_X7_back_46, r_X7_back_47, r_X7_back_48, r_X7_back_49, r_X7_back_50, r_X7_back_53, r_X7_back_56, r_X7_back_57, r_X7_back_60, r_X7_back_62, r_X7_back_63, show (1 : Int32) ≠ 0 by decide, ne_eq, not_false_eq_true, if_true, kd67, true_and, pp67_7, ln73, hv_ix_nI hi (by decide), nI_clamp (n := i) (by omega), hk, not_true_eq_false, if_false, hv_okQ_iff, and_self]
theorem mBack_ok {d : Nat} (hd : 1 ≤ d) {i : Nat} (hi : i < 2) (hk : I 73 i = 1) : hv_Ok xs d yX7_back [.ref 67, .int (nI i)] hv_SH (I, L, hv_PP τ) (some (.int (I 72 (199 * i + 17)))) (bkM I (199 * i) 199, L, hv_PP τ) := by
  have m199 : (199 : Int32) * nI i = nI (199 * i) := by rw [show (199 : Int32) = nI 199 by decide, pk_mul]
  apply o_X7_back
  simp only [hv_drop_i, hv_drop_r, hv_drop_n, hv_drop_a, hv_rf_some, r_X7_back_0, r_X7_back_1, r_X7_back_2, r_X7_back_6, r_X7_back_9, r_X7_back_10, r_X7_back_11, r_X7_back_12, r_X7_back_15, r_X7_back_16, r_X7_back_17, r_X7_back_20, r_X7_back_22, r_X7_back_23, r_X7_back_24, r_X7_back_26, r_X7_back_29, r_X7_back_32, r_X7_back_33, r_X7_back_36, r_X7_back_37, r_X7_back_38, r_X7_back_41, r_X7_back_44, r_X7_back_45, r_X7_back_46, r_X7_back_47, r_X7_back_48, r_X7_back_49, r_X7_back_50, r_X7_back_53, r_X7_back_56, r_X7_back_57, r_X7_back_60, r_X7_back_62, r_X7_back_63]
  refine k_X7_back_3 (in_ok (d := 0) _ _ _) ?_
  rw [b01_t (show 0 ≤ nI i ∧ nI i ≤ 1 from ⟨nI_pos' (by omega), nI_le (a := i) (b := 1) (by omega) (by decide)⟩)]
  simp only [hv_drop_i, hv_drop_r, hv_drop_n, hv_drop_a, hv_rf_some, r_X7_back_0, r_X7_back_1, r_X7_back_2, r_X7_back_6, r_X7_back_9, r_X7_back_10, r_X7_back_11, r_X7_back_12, r_X7_back_15, r_X7_back_16, r_X7_back_17, r_X7_back_20, r_X7_back_22, r_X7_back_23, r_X7_back_24, r_X7_back_26, r_X7_back_29, r_X7_back_32, r_X7_back_33, r_X7_back_36, r_X7_back_37, r_X7_back_38, r_X7_back_41, r_X7_back_44, r_X7_back_45, r_X7_back_46, r_X7_back_47, r_X7_back_48, r_X7_back_49, r_X7_back_50, r_X7_back_53, r_X7_back_56, r_X7_back_57, r_X7_back_60, r_X7_back_62, r_X7_back_63, show (1 : Int32) ≠ 0 by decide, ne_eq, not_false_eq_true, if_true, kd67, true_and, pp67_7, ln73, hv_ix_nI hi (by decide), nI_clamp (n := i) (by omega), hk]
  have key : ∀ k t I', t + k = 199 → I' = bkM I (199 * i) t → P_X7_back xs d (hv_okQ (some (.int (I 72 (199 * i + 17)))) hv_SH (bkM I (199 * i) 199, L, hv_PP τ)) 25 [some (.ref 67), some (.int (nI i)), some (.int (nI t))] [] (hv_SH, 0, 0) (I', L, hv_PP τ) := by
    intro k
    induction k with
    | zero =>
      intro t I' ht hI
      have : t = 199 := by omega
      subst this
      have e : I' 71 17 = I 72 (199 * i + 17) := by subst hI; simp [bkM]
      rw [r_X7_back_25]
      simp only [hv_drop_i, hv_drop_r, hv_drop_n, hv_drop_a, hv_rf_some, r_X7_back_0, r_X7_back_1, r_X7_back_2, r_X7_back_6, r_X7_back_9, r_X7_back_10, r_X7_back_11, r_X7_back_12, r_X7_back_15, r_X7_back_16, r_X7_back_17, r_X7_back_20, r_X7_back_22, r_X7_back_23, r_X7_back_24, r_X7_back_26, r_X7_back_29, r_X7_back_32, r_X7_back_33, r_X7_back_36, r_X7_back_37, r_X7_back_38, r_X7_back_41, r_X7_back_44, r_X7_back_45, r_X7_back_46, r_X7_back_47, r_X7_back_48, r_X7_back_49, r_X7_back_50, r_X7_back_53, r_X7_back_56, r_X7_back_57, r_X7_back_60, r_X7_back_62, r_X7_back_63, show (199 : Int32) ≤ nI 199 by decide, if_true, kd67, true_and, pp67_5, ln71, show hv_ix 17 199 = true by decide, show (17 : Int32).toNatClampNeg = 17 by decide, e, hv_okQ_iff, hI, and_self]
      exact i_ok (by rw [← hI]; exact e)
    | succ k ih =>
      intro t I' ht hI
      have e6 : ¬ (199 : Int32) ≤ nI t := by rw [show (199 : Int32) = nI 199 by decide]; exact nI_ge (by omega) (by omega)
      have e : I' 72 (199 * i + t) = I 72 (199 * i + t) := by subst hI; simp [bkM]
      rw [r_X7_back_25]
      simp only [hv_drop_i, hv_drop_r, hv_drop_n, hv_drop_a, hv_rf_some, r_X7_back_0, r_X7_back_1, r_X7_back_2, r_X7_back_6, r_X7_back_9, r_X7_back_10, r_X7_back_11, r_X7_back_12, r_X7_back_15, r_X7_back_16, r_X7_back_17, r_X7_back_20, r_X7_back_22, r_X7_back_23, r_X7_back_24, r_X7_back_26, r_X7_back_29, r_X7_back_32, r_X7_back_33, r_X7_back_36, r_X7_back_37, r_X7_back_38, r_X7_back_41, r_X7_back_44, r_X7_back_45, r_X7_back_46, r_X7_back_47, r_X7_back_48, r_X7_back_49, r_X7_back_50, r_X7_back_53, r_X7_back_56, r_X7_back_57, r_X7_back_60, r_X7_back_62, r_X7_back_63, e6, if_false, kd67, true_and, pp67_5, pp67_6, ln71, ln72, m199, nI_add, hv_ix_nI (show 199 * i + t < 398 by omega) (by decide), hv_ix_nI (show t < 199 by omega) (by decide), nI_clamp (n := t) (by omega), nI_clamp (n := 199 * i + t) (by omega), nI_1, t_uI, e]
      refine ih (t + 1) _ (by omega) ?_
      subst hI
      funext k' j'
      simp only [iU, bkM]
      by_cases h1 : k' = 71
      · subst h1
        by_cases h2 : j' = t
        · subst h2
          rw [if_pos ⟨rfl, rfl⟩, if_pos ⟨rfl, by omega⟩]
        · rw [if_neg (fun q => h2 q.2)]
          by_cases h3 : j' < t
          · rw [if_pos ⟨rfl, h3⟩, if_pos ⟨rfl, by omega⟩]
          · rw [if_neg (fun q => h3 q.2), if_neg (fun q => h3 (by omega))]
      · simp [h1]
  exact key 199 0 I (by omega) (by funext k j; simp [bkM])
end MROWS
