/-! ===== memory as a triple; HermitDues$Now ===== -/
def iU (I : hI) (k j : Nat) (v : Int32) : hI := fun k' j' => if k' = k ∧ j' = j then v else I k' j'
def iR (I : hI) (k : Nat) (f : Nat → Int32) : hI := fun k' j' => if k' = k then f j' else I k' j'
theorem t_uI {I : hI} {L : hL} {P : Nat → Nat → Option Nat} {k j : Nat} {v : Int32} : hv_uI (I, L, P) k j v = (iU I k j v, L, P) := by
  have e : (fun k' => if k' = k then upd (I k) j v else I k') = iU I k j v := by
    funext k' j'
    unfold iU
    by_cases h : k' = k
    · subst h
      by_cases h2 : j' = j <;> simp [upd, h2]
    · simp [h]
  show ((fun k' => if k' = k then upd (I k) j v else I k'), L, P) = _
  rw [e]
theorem t_rI {I : hI} {L : hL} {P : Nat → Nat → Option Nat} {k : Nat} {f : Nat → Int32} : hv_rI (I, L, P) k f = (iR I k f, L, P) := by
  have e : (fun k' => if k' = k then f else I k') = iR I k f := by
    funext k' j'
    unfold iR
    by_cases h : k' = k <;> simp [h]
  show ((fun k' => if k' = k then f else I k'), L, P) = _
  rw [e]
theorem u_s {I : hI} {k j : Nat} {v : Int32} : iU I k j v k j = v := by simp [iU]
theorem u_n {I : hI} {k j k' j' : Nat} {v : Int32} (h : ¬ (k' = k ∧ j' = j)) : iU I k j v k' j' = I k' j' := if_neg h
theorem cl_lit {n : Nat} (h : n < 2 ^ 31) : (nI n).toNatClampNeg = n := nI_clamp h
theorem r_n {I : hI} {k k' : Nat} {f : Nat → Int32} (h : k' ≠ k) : iR I k f k' = I k' := by funext j; exact if_neg h
theorem r_s {I : hI} {k : Nat} {f : Nat → Int32} : iR I k f k = f := by funext j; exact if_pos rfl
theorem c_5 : (5 : Int32).toNatClampNeg = 5 := by decide
theorem c_6 : (6 : Int32).toNatClampNeg = 6 := by decide
theorem c_18 : (18 : Int32).toNatClampNeg = 18 := by decide
theorem z_0 : ¬ (0 : Int32) < 0 := by decide
theorem z_5 : ¬ (5 : Int32) < 0 := by decide
theorem z_6 : ¬ (6 : Int32) < 0 := by decide
theorem z_18 : ¬ (18 : Int32) < 0 := by decide
theorem v_ok {I I' : hI} {L : hL} {P : Nat → Nat → Option Nat} (h : I = I') : (none : Option Value) = none ∧ ((I, L, P) : hv_M) = (I', L, P) := by rw [h]; exact ⟨rfl, rfl⟩
theorem hv_cat0 : (([] : List Value).map fun v => v.category).sum ≤ 8 := by decide
/-- the row of eighteen that is known of a Now at place a -/
def rowC (I : hI) (a k : Nat) : Int32 := if k < 6 then I (a + 1) k else if k < 11 then I (a + 2) (k - 6) else if k < 16 then I (a + 3) (k - 11) else if k = 16 then I a 3 else I a 4
section NOWC
variable {xs : hv_X} {I : hI} {L : hL} {τ : Bool} {T : TD}
theorem m_18 (u : Nat) : nI u * 18 = nI (18 * u) := by rw [show (18 : Int32) = nI 18 by decide, pk_mul, Nat.mul_comm]
theorem p_6 (u : Nat) : nI u + 6 = nI (u + 6) := by rw [show (6 : Int32) = nI 6 by decide, nI_add]
theorem p_11 (u : Nat) : nI u + 11 = nI (u + 11) := by rw [show (11 : Int32) = nI 11 by decide, nI_add]
theorem p_16 (u : Nat) : nI u + 16 = nI (u + 16) := by rw [show (16 : Int32) = nI 16 by decide, nI_add]
theorem p_17 (u : Nat) : nI u + 17 = nI (u + 17) := by rw [show (17 : Int32) = nI 17 by decide, nI_add]
def RemC (I I' : hI) (u v : Nat) : Prop := I' 19 6 = nI (v + 1) ∧ (∀ j, j < v → ∀ k, k < 18 → I' 23 (18 * j + k) = I 23 (18 * (j + (u - v)) + k)) ∧ (∀ k, k < 18 → I' 23 (18 * v + k) = rowC I 19 k) ∧ ∀ k j, k ≠ 23 → ¬ (k = 19 ∧ j = 6) → I' k j = I k j
theorem remember_lt {d : Nat} (hd : 1 ≤ d) {u : Nat} (hu : u < 10) (h6 : I 19 6 = nI u) : ∃ I', hv_Ok xs d yX0_remember [.ref 19] hv_SH (I, L, hv_PP τ) none (I', L, hv_PP τ) ∧ RemC I I' u u := by
  refine ⟨?w, o_X0_remember ?a, ?b⟩
  case a =>
    simp only [hv_drop_i, hv_drop_r, hv_drop_n, hv_drop_a, hv_rf_some, r_X0_remember_0, r_X0_remember_1, r_X0_remember_4, r_X0_remember_6, r_X0_remember_9, r_X0_remember_10, r_X0_remember_12, r_X0_remember_15, r_X0_remember_16, r_X0_remember_19, r_X0_remember_21, r_X0_remember_22, r_X0_remember_25, r_X0_remember_26, r_X0_remember_27, r_X0_remember_30, r_X0_remember_32, r_X0_remember_33, r_X0_remember_36, r_X0_remember_37, r_X0_remember_40, r_X0_remember_42, r_X0_remember_43, r_X0_remember_44, r_X0_remember_45, r_X0_remember_48, r_X0_remember_49, r_X0_remember_50, r_X0_remember_53, r_X0_remember_54, r_X0_remember_56, r_X0_remember_59, r_X0_remember_60, r_X0_remember_63, r_X0_remember_64, r_X0_remember_65, r_X0_remember_68, r_X0_remember_69, r_X0_remember_71, r_X0_remember_72, r_X0_remember_73, r_X0_remember_76, r_X0_remember_77, r_X0_remember_80, r_X0_remember_81, r_X0_remember_82, r_X0_remember_85, r_X0_remember_86, r_X0_remember_88, r_X0_remember_89, r_X0_remember_90, r_X0_remember_93, r_X0_remember_94, r_X0_remember_97, r_X0_remember_98, r_X0_remember_100, r_X0_remember_101, r_X0_remember_102, r_X0_remember_105, r_X0_remember_106, r_X0_remember_107, r_X0_remember_110, r_X0_remember_111, r_X0_remember_113, r_X0_remember_114, r_X0_remember_115, r_X0_remember_118, r_X0_remember_119, r_X0_remember_120, r_X0_remember_120i, r_X0_remember_121, r_X0_remember_124, r_X0_remember_125, r_X0_remember_126, r_X0_remember_129, kd19, true_and, pp19_0, pp19_1, pp19_2, pp19_5, h6, show nI u < 10 from nI_lt (a := u) (b := 10) hu (by decide), if_true, m_18, t_rI]
    simp only [hv_drop_i, hv_drop_r, hv_drop_n, hv_drop_a, hv_rf_some, r_X0_remember_0, r_X0_remember_1, r_X0_remember_4, r_X0_remember_6, r_X0_remember_9, r_X0_remember_10, r_X0_remember_12, r_X0_remember_15, r_X0_remember_16, r_X0_remember_19, r_X0_remember_21, r_X0_remember_22, r_X0_remember_25, r_X0_remember_26, r_X0_remember_27, r_X0_remember_30, r_X0_remember_32, r_X0_remember_33, r_X0_remember_36, r_X0_remember_37, r_X0_remember_40, r_X0_remember_42, r_X0_remember_43, r_X0_remember_44, r_X0_remember_45, r_X0_remember_48, r_X0_remember_49, r_X0_remember_50, r_X0_remember_53, r_X0_remember_54, r_X0_remember_56, r_X0_remember_59, r_X0_remember_60, r_X0_remember_63, r_X0_remember_64, r_X0_remember_65, r_X0_remember_68, r_X0_remember_69, r_X0_remember_71, r_X0_remember_72, r_X0_remember_73, r_X0_remember_76, r_X0_remember_77, r_X0_remember_80, r_X0_remember_81, r_X0_remember_82, r_X0_remember_85, r_X0_remember_86, r_X0_remember_88, r_X0_remember_89, r_X0_remember_90, r_X0_remember_93, r_X0_remember_94, r_X0_remember_97, r_X0_remember_98, r_X0_remember_100, r_X0_remember_101, r_X0_remember_102, r_X0_remember_105, r_X0_remember_106, r_X0_remember_107, r_X0_remember_110, r_X0_remember_111, r_X0_remember_113, r_X0_remember_114, r_X0_remember_115, r_X0_remember_118, r_X0_remember_119, r_X0_remember_120, r_X0_remember_120i, r_X0_remember_121, r_X0_remember_124, r_X0_remember_125, r_X0_remember_126, r_X0_remember_129, kd19, kd20, kd21, kd22, kd23, ln20, ln21, ln22, ln23, true_and, pp19_0, pp19_1, pp19_2, pp19_5, t_rI, t_uI, p_6, p_11, p_16, p_17, show hv_al.contains (hv_kx 0 40) = true by decide, hd, hv_cat0, c_0, c_5, c_6, z_0, z_5, z_6, not_false_eq_true, nI_pos (n := 18 * u) (by omega), nI_pos (n := 18 * u + 6) (by omega), nI_pos (n := 18 * u + 11) (by omega), cl_lit (n := 18 * u) (by omega), cl_lit (n := 18 * u + 6) (by omega), cl_lit (n := 18 * u + 11) (by omega), cl_lit (n := 18 * u + 16) (by omega), cl_lit (n := 18 * u + 17) (by omega), show 0 + 6 ≤ 6 by decide, show 0 + 5 ≤ 5 by decide, show 18 * u + 6 ≤ 180 by omega, show 18 * u + 6 + 5 ≤ 180 by omega, show 18 * u + 11 + 5 ≤ 180 by omega, hv_ix_nI (show 18 * u + 16 < 180 by omega) (by decide), hv_ix_nI (show 18 * u + 17 < 180 by omega) (by decide), hv_okQ_iff, r_n (show (21 : Nat) ≠ 23 by decide), r_n (show (22 : Nat) ≠ 23 by decide), r_n (show (19 : Nat) ≠ 23 by decide), r_s]
    exact rfl
  case b =>
    refine ⟨?_, fun j hj k hk => ?_, fun k hk => ?_, fun k j hk hj => ?_⟩
    · simp [iU, iR, h6, nI_1]
    · simp only [iU, iR, va_cpy, Nat.reduceEqDiff, false_and, true_and, if_false, if_true]
      (repeat' split) <;> first | (exfalso; omega) | exact congrArg (I _) (by omega) | (congr 1; omega) | rfl
    · simp only [iU, iR, va_cpy, rowC, Nat.reduceAdd, Nat.reduceEqDiff, false_and, true_and, if_false, if_true]
      (repeat' split) <;> first | (exfalso; omega) | exact congrArg (I _) (by omega) | (congr 1; omega) | rfl
    · simp only [iU, iR, va_cpy, hk, false_and, if_false]
      rw [if_neg hj]
theorem u_r {I : hI} {k k' j : Nat} {v : Int32} (h : k' ≠ k) : iU I k j v k' = I k' := by funext j'; exact if_neg (fun q => h q.1)
theorem remember_10 {d : Nat} (hd : 1 ≤ d) (h6 : I 19 6 = nI 10) : ∃ I', hv_Ok xs d yX0_remember [.ref 19] hv_SH (I, L, hv_PP τ) none (I', L, hv_PP τ) ∧ RemC I I' 10 9 := by
  refine ⟨?w, o_X0_remember ?a, ?b⟩
  case a =>
    simp only [hv_drop_i, hv_drop_r, hv_drop_n, hv_drop_a, hv_rf_some, r_X0_remember_0, r_X0_remember_1, r_X0_remember_4, r_X0_remember_6, r_X0_remember_9, r_X0_remember_10, r_X0_remember_12, r_X0_remember_15, r_X0_remember_16, r_X0_remember_19, r_X0_remember_21, r_X0_remember_22, r_X0_remember_25, r_X0_remember_26, r_X0_remember_27, r_X0_remember_30, r_X0_remember_32, r_X0_remember_33, r_X0_remember_36, r_X0_remember_37, r_X0_remember_40, r_X0_remember_42, r_X0_remember_43, r_X0_remember_44, r_X0_remember_45, r_X0_remember_48, r_X0_remember_49, r_X0_remember_50, r_X0_remember_53, r_X0_remember_54, r_X0_remember_56, r_X0_remember_59, r_X0_remember_60, r_X0_remember_63, r_X0_remember_64, r_X0_remember_65, r_X0_remember_68, r_X0_remember_69, r_X0_remember_71, r_X0_remember_72, r_X0_remember_73, r_X0_remember_76, r_X0_remember_77, r_X0_remember_80, r_X0_remember_81, r_X0_remember_82, r_X0_remember_85, r_X0_remember_86, r_X0_remember_88, r_X0_remember_89, r_X0_remember_90, r_X0_remember_93, r_X0_remember_94, r_X0_remember_97, r_X0_remember_98, r_X0_remember_100, r_X0_remember_101, r_X0_remember_102, r_X0_remember_105, r_X0_remember_106, r_X0_remember_107, r_X0_remember_110, r_X0_remember_111, r_X0_remember_113, r_X0_remember_114, r_X0_remember_115, r_X0_remember_118, r_X0_remember_119, r_X0_remember_120, r_X0_remember_120i, r_X0_remember_121, r_X0_remember_124, r_X0_remember_125, r_X0_remember_126, r_X0_remember_129, kd19, true_and, pp19_0, pp19_1, pp19_2, pp19_5, h6, show ¬ nI 10 < 10 by decide, if_false, t_uI, u_s, show (9 : Int32) * 18 = 162 by decide, t_rI]
    simp only [hv_drop_i, hv_drop_r, hv_drop_n, hv_drop_a, hv_rf_some, r_X0_remember_0, r_X0_remember_1, r_X0_remember_4, r_X0_remember_6, r_X0_remember_9, r_X0_remember_10, r_X0_remember_12, r_X0_remember_15, r_X0_remember_16, r_X0_remember_19, r_X0_remember_21, r_X0_remember_22, r_X0_remember_25, r_X0_remember_26, r_X0_remember_27, r_X0_remember_30, r_X0_remember_32, r_X0_remember_33, r_X0_remember_36, r_X0_remember_37, r_X0_remember_40, r_X0_remember_42, r_X0_remember_43, r_X0_remember_44, r_X0_remember_45, r_X0_remember_48, r_X0_remember_49, r_X0_remember_50, r_X0_remember_53, r_X0_remember_54, r_X0_remember_56, r_X0_remember_59, r_X0_remember_60, r_X0_remember_63, r_X0_remember_64, r_X0_remember_65, r_X0_remember_68, r_X0_remember_69, r_X0_remember_71, r_X0_remember_72, r_X0_remember_73, r_X0_remember_76, r_X0_remember_77, r_X0_remember_80, r_X0_remember_81, r_X0_remember_82, r_X0_remember_85, r_X0_remember_86, r_X0_remember_88, r_X0_remember_89, r_X0_remember_90, r_X0_remember_93, r_X0_remember_94, r_X0_remember_97, r_X0_remember_98, r_X0_remember_100, r_X0_remember_101, r_X0_remember_102, r_X0_remember_105, r_X0_remember_106, r_X0_remember_107, r_X0_remember_110, r_X0_remember_111, r_X0_remember_113, r_X0_remember_114, r_X0_remember_115, r_X0_remember_118, r_X0_remember_119, r_X0_remember_120, r_X0_remember_120i, r_X0_remember_121, r_X0_remember_124, r_X0_remember_125, r_X0_remember_126, r_X0_remember_129, kd19, kd20, kd21, kd22, kd23, ln20, ln21, ln22, ln23, true_and, pp19_0, pp19_1, pp19_2, pp19_5, t_rI, t_uI, show hv_al.contains (hv_kx 0 40) = true by decide, hd, hv_cat0, c_0, c_5, c_6, c_18, z_0, z_5, z_6, z_18, not_false_eq_true, show (162 : Int32).toNatClampNeg = 162 by decide, show ¬ (162 : Int32) < 0 by decide, show 18 + 162 ≤ 180 by decide, show 0 + 162 ≤ 180 by decide, r_n (show (19 : Nat) ≠ 23 by decide), u_s, show (9 : Int32) * 18 = 162 by decide, show (162 : Int32) + 6 = 168 by decide, show (162 : Int32) + 11 = 173 by decide, show (162 : Int32) + 16 = 178 by decide, show (162 : Int32) + 17 = 179 by decide, show (168 : Int32).toNatClampNeg = 168 by decide, show (173 : Int32).toNatClampNeg = 173 by decide, show (178 : Int32).toNatClampNeg = 178 by decide, show (179 : Int32).toNatClampNeg = 179 by decide, show ¬ (168 : Int32) < 0 by decide, show ¬ (173 : Int32) < 0 by decide, show hv_ix 178 180 = true by decide, show hv_ix 179 180 = true by decide, show 0 + 6 ≤ 6 by decide, show 0 + 5 ≤ 5 by decide, show 162 + 6 ≤ 180 by decide, show 168 + 5 ≤ 180 by decide, show 173 + 5 ≤ 180 by decide, hv_okQ_iff]
    exact rfl
  case b =>
    refine ⟨?_, fun j hj k hk => ?_, fun k hk => ?_, fun k j hk hj => ?_⟩
    · simp only [iU, iR, va_cpy, Nat.reduceEqDiff, false_and, true_and, if_false, if_true]
      simp
      decide
    · simp only [iU, iR, va_cpy, Nat.reduceEqDiff, false_and, true_and, if_false, if_true]
      (repeat' split) <;> first | (exfalso; omega) | exact congrArg (I _) (by omega) | (congr 1; omega) | rfl
    · simp only [iU, iR, va_cpy, rowC, Nat.reduceAdd, Nat.reduceEqDiff, Nat.reduceMul, false_and, true_and, if_false, if_true]
      (repeat' split) <;> first | (exfalso; omega) | exact congrArg (I _) (by omega) | (congr 1; omega) | rfl
    · simp only [iU, iR, va_cpy, hk, hj, false_and, if_false]
def RecC (I I' : hI) (v : Nat) : Prop := I' 19 6 = nI v ∧ (∀ k, k < 18 → rowC I' 19 k = I 23 (18 * v + k)) ∧ (∀ j, I' 23 j = I 23 j) ∧ ∀ k j, (k < 19 ∨ 22 < k) → I' k j = I k j
theorem recall_ok {d : Nat} (hd : 1 ≤ d) {u : Nat} (hu : u < 10) (h6 : I 19 6 = nI (u + 1)) : ∃ I', hv_Ok xs d yX0_recall [.ref 19] hv_SH (I, L, hv_PP τ) none (I', L, hv_PP τ) ∧ RecC I I' u := by
  have hpos : (0 : Int32) < nI (u + 1) := by rw [i_lt, nI_toInt (by omega)]; show (0 : Int) < _; omega
  refine ⟨?w, o_X0_recall ?a, ?b⟩
  case a =>
    simp only [hv_drop_i, hv_drop_r, hv_drop_n, hv_drop_a, hv_rf_some, r_X0_recall_0, r_X0_recall_1, r_X0_recall_4, r_X0_recall_7, r_X0_recall_8, r_X0_recall_9, r_X0_recall_9i, r_X0_recall_10, r_X0_recall_13, r_X0_recall_14, r_X0_recall_15, r_X0_recall_18, r_X0_recall_19, r_X0_recall_22, r_X0_recall_24, r_X0_recall_25, r_X0_recall_26, r_X0_recall_27, r_X0_recall_30, r_X0_recall_31, r_X0_recall_32, r_X0_recall_35, r_X0_recall_36, r_X0_recall_38, r_X0_recall_41, r_X0_recall_42, r_X0_recall_45, r_X0_recall_46, r_X0_recall_48, r_X0_recall_49, r_X0_recall_50, r_X0_recall_53, r_X0_recall_54, r_X0_recall_55, r_X0_recall_58, r_X0_recall_59, r_X0_recall_62, r_X0_recall_63, r_X0_recall_65, r_X0_recall_66, r_X0_recall_67, r_X0_recall_70, r_X0_recall_71, r_X0_recall_72, r_X0_recall_75, r_X0_recall_76, r_X0_recall_77, r_X0_recall_80, r_X0_recall_81, r_X0_recall_83, r_X0_recall_84, r_X0_recall_85, r_X0_recall_88, r_X0_recall_89, r_X0_recall_90, r_X0_recall_93, r_X0_recall_94, r_X0_recall_96, r_X0_recall_97, r_X0_recall_98, r_X0_recall_101, kd19, true_and, pp19_0, pp19_1, pp19_2, pp19_5, h6, hpos, if_true, nI_pred, t_uI, u_s, m_18, t_rI]
    simp only [hv_drop_i, hv_drop_r, hv_drop_n, hv_drop_a, hv_rf_some, r_X0_recall_0, r_X0_recall_1, r_X0_recall_4, r_X0_recall_7, r_X0_recall_8, r_X0_recall_9, r_X0_recall_9i, r_X0_recall_10, r_X0_recall_13, r_X0_recall_14, r_X0_recall_15, r_X0_recall_18, r_X0_recall_19, r_X0_recall_22, r_X0_recall_24, r_X0_recall_25, r_X0_recall_26, r_X0_recall_27, r_X0_recall_30, r_X0_recall_31, r_X0_recall_32, r_X0_recall_35, r_X0_recall_36, r_X0_recall_38, r_X0_recall_41, r_X0_recall_42, r_X0_recall_45, r_X0_recall_46, r_X0_recall_48, r_X0_recall_49, r_X0_recall_50, r_X0_recall_53, r_X0_recall_54, r_X0_recall_55, r_X0_recall_58, r_X0_recall_59, r_X0_recall_62, r_X0_recall_63, r_X0_recall_65, r_X0_recall_66, r_X0_recall_67, r_X0_recall_70, r_X0_recall_71, r_X0_recall_72, r_X0_recall_75, r_X0_recall_76, r_X0_recall_77, r_X0_recall_80, r_X0_recall_81, r_X0_recall_83, r_X0_recall_84, r_X0_recall_85, r_X0_recall_88, r_X0_recall_89, r_X0_recall_90, r_X0_recall_93, r_X0_recall_94, r_X0_recall_96, r_X0_recall_97, r_X0_recall_98, r_X0_recall_101, kd19, kd20, kd21, kd22, kd23, ln20, ln21, ln22, ln23, true_and, pp19_0, pp19_1, pp19_2, pp19_5, t_rI, t_uI, p_6, p_11, p_16, p_17, show hv_al.contains (hv_kx 0 40) = true by decide, hd, hv_cat0, c_0, c_5, c_6, z_0, z_5, z_6, not_false_eq_true, nI_pos (n := 18 * u) (by omega), nI_pos (n := 18 * u + 6) (by omega), nI_pos (n := 18 * u + 11) (by omega), cl_lit (n := 18 * u) (by omega), cl_lit (n := 18 * u + 6) (by omega), cl_lit (n := 18 * u + 11) (by omega), cl_lit (n := 18 * u + 16) (by omega), cl_lit (n := 18 * u + 17) (by omega), show 0 + 6 ≤ 6 by decide, show 0 + 5 ≤ 5 by decide, show 18 * u + 6 ≤ 180 by omega, show 18 * u + 6 + 5 ≤ 180 by omega, show 18 * u + 11 + 5 ≤ 180 by omega, hv_ix_nI (show 18 * u + 16 < 180 by omega) (by decide), hv_ix_nI (show 18 * u + 17 < 180 by omega) (by decide), hv_okQ_iff]
    exact rfl
  case b =>
    refine ⟨?_, fun k hk => ?_, fun j => ?_, fun k j hk => ?_⟩
    · simp [iU, iR]
    · simp only [iU, iR, va_cpy, rowC, Nat.reduceAdd, Nat.reduceEqDiff, false_and, true_and, and_true, and_false, if_false, if_true]
      (repeat' split) <;> first | (exfalso; omega) | exact congrArg (I _) (by omega) | (congr 1; omega) | rfl
    · simp [iU, iR]
    · simp only [iU, iR, show ¬ k = 19 by omega, show ¬ k = 20 by omega, show ¬ k = 21 by omega, show ¬ k = 22 by omega, false_and, if_false]
def BecC (I I' : hI) (a b : Nat) : Prop := (∀ k, k < 18 → rowC I' a k = rowC I b k) ∧ (∀ k, k < 180 → I' (a + 4) k = I (b + 4) k) ∧ I' a 6 = I b 6 ∧ ∀ k j, (k < a ∨ a + 4 < k) → I' k j = I k j
theorem become_25_19 {d : Nat} (hd : 1 ≤ d) : ∃ I', hv_Ok xs d yX0_become [.ref 25, .ref 19] hv_SH (I, L, hv_PP τ) none (I', L, hv_PP τ) ∧ BecC I I' 25 19 := by
  refine ⟨?w, o_X0_become ?a, ?b⟩
  case a =>
    simp only [hv_drop_i, hv_drop_r, hv_drop_n, hv_drop_a, hv_rf_some, r_X0_become_0, r_X0_become_1, r_X0_become_4, r_X0_become_5, r_X0_become_6, r_X0_become_9, r_X0_become_10, r_X0_become_12, r_X0_become_15, r_X0_become_16, r_X0_become_19, r_X0_become_20, r_X0_become_21, r_X0_become_24, r_X0_become_25, r_X0_become_26, r_X0_become_29, r_X0_become_30, r_X0_become_33, r_X0_become_34, r_X0_become_35, r_X0_become_38, r_X0_become_39, r_X0_become_40, r_X0_become_43, r_X0_become_44, r_X0_become_45, r_X0_become_48, r_X0_become_51, r_X0_become_52, r_X0_become_53, r_X0_become_56, r_X0_become_59, r_X0_become_60, r_X0_become_63, r_X0_become_64, r_X0_become_65, r_X0_become_68, r_X0_become_69, r_X0_become_72, r_X0_become_75, r_X0_become_76, r_X0_become_77, r_X0_become_80, r_X0_become_83, kd19, kd20, kd21, kd22, kd23, kd25, kd26, kd27, kd28, kd29, kd30, kd31, kd32, kd33, kd34, ln20, ln21, ln22, ln23, ln26, ln27, ln28, ln29, ln31, ln32, ln33, ln34, true_and, pp19_0, pp19_1, pp19_2, pp19_5, pp25_0, pp25_1, pp25_2, pp25_5, pp30_0, pp30_1, pp30_2, pp30_5, t_rI, t_uI, show hv_al.contains (hv_kx 0 40) = true by decide, hd, hv_cat0, c_0, c_5, c_6, z_0, z_5, z_6, not_false_eq_true, show 0 + 6 ≤ 6 by decide, show 0 + 5 ≤ 5 by decide, show (180 : Int32).toNatClampNeg = 180 by decide, show ¬ (180 : Int32) < 0 by decide, show 0 + 180 ≤ 180 by decide, hv_okQ_iff]
    exact rfl
  case b =>
    refine ⟨fun k hk => ?_, fun k hk => ?_, ?_, fun k j hk => ?_⟩
    · simp only [iU, iR, va_cpy, rowC, Nat.reduceAdd, Nat.reduceEqDiff, false_and, true_and, and_true, and_false, if_false, if_true]
      (repeat' split) <;> first | (exfalso; omega) | exact congrArg (I _) (by omega) | (congr 1; omega) | rfl
    · simp only [iU, iR, va_cpy, Nat.reduceAdd, Nat.reduceEqDiff, false_and, true_and, and_true, and_false, if_false, if_true]
      (repeat' split) <;> first | (exfalso; omega) | exact congrArg (I _) (by omega) | (congr 1; omega) | rfl
    · simp [iU, iR]
    · simp only [iU, iR, Nat.reduceAdd] at *
      (repeat' split) <;> first | (exfalso; omega) | exact congrArg (I _) (by omega) | (congr 1; omega) | rfl
theorem become_30_19 {d : Nat} (hd : 1 ≤ d) : ∃ I', hv_Ok xs d yX0_become [.ref 30, .ref 19] hv_SH (I, L, hv_PP τ) none (I', L, hv_PP τ) ∧ BecC I I' 30 19 := by
  refine ⟨?w, o_X0_become ?a, ?b⟩
  case a =>
    simp only [hv_drop_i, hv_drop_r, hv_drop_n, hv_drop_a, hv_rf_some, r_X0_become_0, r_X0_become_1, r_X0_become_4, r_X0_become_5, r_X0_become_6, r_X0_become_9, r_X0_become_10, r_X0_become_12, r_X0_become_15, r_X0_become_16, r_X0_become_19, r_X0_become_20, r_X0_become_21, r_X0_become_24, r_X0_become_25, r_X0_become_26, r_X0_become_29, r_X0_become_30, r_X0_become_33, r_X0_become_34, r_X0_become_35, r_X0_become_38, r_X0_become_39, r_X0_become_40, r_X0_become_43, r_X0_become_44, r_X0_become_45, r_X0_become_48, r_X0_become_51, r_X0_become_52, r_X0_become_53, r_X0_become_56, r_X0_become_59, r_X0_become_60, r_X0_become_63, r_X0_become_64, r_X0_become_65, r_X0_become_68, r_X0_become_69, r_X0_become_72, r_X0_become_75, r_X0_become_76, r_X0_become_77, r_X0_become_80, r_X0_become_83, kd19, kd20, kd21, kd22, kd23, kd25, kd26, kd27, kd28, kd29, kd30, kd31, kd32, kd33, kd34, ln20, ln21, ln22, ln23, ln26, ln27, ln28, ln29, ln31, ln32, ln33, ln34, true_and, pp19_0, pp19_1, pp19_2, pp19_5, pp25_0, pp25_1, pp25_2, pp25_5, pp30_0, pp30_1, pp30_2, pp30_5, t_rI, t_uI, show hv_al.contains (hv_kx 0 40) = true by decide, hd, hv_cat0, c_0, c_5, c_6, z_0, z_5, z_6, not_false_eq_true, show 0 + 6 ≤ 6 by decide, show 0 + 5 ≤ 5 by decide, show (180 : Int32).toNatClampNeg = 180 by decide, show ¬ (180 : Int32) < 0 by decide, show 0 + 180 ≤ 180 by decide, hv_okQ_iff]
    exact rfl
  case b =>
    refine ⟨fun k hk => ?_, fun k hk => ?_, ?_, fun k j hk => ?_⟩
    · simp only [iU, iR, va_cpy, rowC, Nat.reduceAdd, Nat.reduceEqDiff, false_and, true_and, and_true, and_false, if_false, if_true]
      (repeat' split) <;> first | (exfalso; omega) | exact congrArg (I _) (by omega) | (congr 1; omega) | rfl
    · simp only [iU, iR, va_cpy, Nat.reduceAdd, Nat.reduceEqDiff, false_and, true_and, and_true, and_false, if_false, if_true]
      (repeat' split) <;> first | (exfalso; omega) | exact congrArg (I _) (by omega) | (congr 1; omega) | rfl
    · simp [iU, iR]
    · simp only [iU, iR, Nat.reduceAdd] at *
      (repeat' split) <;> first | (exfalso; omega) | exact congrArg (I _) (by omega) | (congr 1; omega) | rfl
theorem become_19_25 {d : Nat} (hd : 1 ≤ d) : ∃ I', hv_Ok xs d yX0_become [.ref 19, .ref 25] hv_SH (I, L, hv_PP τ) none (I', L, hv_PP τ) ∧ BecC I I' 19 25 := by
  refine ⟨?w, o_X0_become ?a, ?b⟩
  case a =>
    simp only [hv_drop_i, hv_drop_r, hv_drop_n, hv_drop_a, hv_rf_some, r_X0_become_0, r_X0_become_1, r_X0_become_4, r_X0_become_5, r_X0_become_6, r_X0_become_9, r_X0_become_10, r_X0_become_12, r_X0_become_15, r_X0_become_16, r_X0_become_19, r_X0_become_20, r_X0_become_21, r_X0_become_24, r_X0_become_25, r_X0_become_26, r_X0_become_29, r_X0_become_30, r_X0_become_33, r_X0_become_34, r_X0_become_35, r_X0_become_38, r_X0_become_39, r_X0_become_40, r_X0_become_43, r_X0_become_44, r_X0_become_45, r_X0_become_48, r_X0_become_51, r_X0_become_52, r_X0_become_53, r_X0_become_56, r_X0_become_59, r_X0_become_60, r_X0_become_63, r_X0_become_64, r_X0_become_65, r_X0_become_68, r_X0_become_69, r_X0_become_72, r_X0_become_75, r_X0_become_76, r_X0_become_77, r_X0_become_80, r_X0_become_83, kd19, kd20, kd21, kd22, kd23, kd25, kd26, kd27, kd28, kd29, kd30, kd31, kd32, kd33, kd34, ln20, ln21, ln22, ln23, ln26, ln27, ln28, ln29, ln31, ln32, ln33, ln34, true_and, pp19_0, pp19_1, pp19_2, pp19_5, pp25_0, pp25_1, pp25_2, pp25_5, pp30_0, pp30_1, pp30_2, pp30_5, t_rI, t_uI, show hv_al.contains (hv_kx 0 40) = true by decide, hd, hv_cat0, c_0, c_5, c_6, z_0, z_5, z_6, not_false_eq_true, show 0 + 6 ≤ 6 by decide, show 0 + 5 ≤ 5 by decide, show (180 : Int32).toNatClampNeg = 180 by decide, show ¬ (180 : Int32) < 0 by decide, show 0 + 180 ≤ 180 by decide, hv_okQ_iff]
    exact rfl
  case b =>
    refine ⟨fun k hk => ?_, fun k hk => ?_, ?_, fun k j hk => ?_⟩
    · simp only [iU, iR, va_cpy, rowC, Nat.reduceAdd, Nat.reduceEqDiff, false_and, true_and, and_true, and_false, if_false, if_true]
      (repeat' split) <;> first | (exfalso; omega) | exact congrArg (I _) (by omega) | (congr 1; omega) | rfl
    · simp only [iU, iR, va_cpy, Nat.reduceAdd, Nat.reduceEqDiff, false_and, true_and, and_true, and_false, if_false, if_true]
      (repeat' split) <;> first | (exfalso; omega) | exact congrArg (I _) (by omega) | (congr 1; omega) | rfl
    · simp [iU, iR]
    · simp only [iU, iR, Nat.reduceAdd] at *
      (repeat' split) <;> first | (exfalso; omega) | exact congrArg (I _) (by omega) | (congr 1; omega) | rfl
theorem become_19_30 {d : Nat} (hd : 1 ≤ d) : ∃ I', hv_Ok xs d yX0_become [.ref 19, .ref 30] hv_SH (I, L, hv_PP τ) none (I', L, hv_PP τ) ∧ BecC I I' 19 30 := by
  refine ⟨?w, o_X0_become ?a, ?b⟩
  case a =>
    simp only [hv_drop_i, hv_drop_r, hv_drop_n, hv_drop_a, hv_rf_some, r_X0_become_0, r_X0_become_1, r_X0_become_4, r_X0_become_5, r_X0_become_6, r_X0_become_9, r_X0_become_10, r_X0_become_12, r_X0_become_15, r_X0_become_16, r_X0_become_19, r_X0_become_20, r_X0_become_21, r_X0_become_24, r_X0_become_25, r_X0_become_26, r_X0_become_29, r_X0_become_30, r_X0_become_33, r_X0_become_34, r_X0_become_35, r_X0_become_38, r_X0_become_39, r_X0_become_40, r_X0_become_43, r_X0_become_44, r_X0_become_45, r_X0_become_48, r_X0_become_51, r_X0_become_52, r_X0_become_53, r_X0_become_56, r_X0_become_59, r_X0_become_60, r_X0_become_63, r_X0_become_64, r_X0_become_65, r_X0_become_68, r_X0_become_69, r_X0_become_72, r_X0_become_75, r_X0_become_76, r_X0_become_77, r_X0_become_80, r_X0_become_83, kd19, kd20, kd21, kd22, kd23, kd25, kd26, kd27, kd28, kd29, kd30, kd31, kd32, kd33, kd34, ln20, ln21, ln22, ln23, ln26, ln27, ln28, ln29, ln31, ln32, ln33, ln34, true_and, pp19_0, pp19_1, pp19_2, pp19_5, pp25_0, pp25_1, pp25_2, pp25_5, pp30_0, pp30_1, pp30_2, pp30_5, t_rI, t_uI, show hv_al.contains (hv_kx 0 40) = true by decide, hd, hv_cat0, c_0, c_5, c_6, z_0, z_5, z_6, not_false_eq_true, show 0 + 6 ≤ 6 by decide, show 0 + 5 ≤ 5 by decide, show (180 : Int32).toNatClampNeg = 180 by decide, show ¬ (180 : Int32) < 0 by decide, show 0 + 180 ≤ 180 by decide, hv_okQ_iff]
    exact rfl
  case b =>
    refine ⟨fun k hk => ?_, fun k hk => ?_, ?_, fun k j hk => ?_⟩
    · simp only [iU, iR, va_cpy, rowC, Nat.reduceAdd, Nat.reduceEqDiff, false_and, true_and, and_true, and_false, if_false, if_true]
      (repeat' split) <;> first | (exfalso; omega) | exact congrArg (I _) (by omega) | (congr 1; omega) | rfl
    · simp only [iU, iR, va_cpy, Nat.reduceAdd, Nat.reduceEqDiff, false_and, true_and, and_true, and_false, if_false, if_true]
      (repeat' split) <;> first | (exfalso; omega) | exact congrArg (I _) (by omega) | (congr 1; omega) | rfl
    · simp [iU, iR]
    · simp only [iU, iR, Nat.reduceAdd] at *
      (repeat' split) <;> first | (exfalso; omega) | exact congrArg (I _) (by omega) | (congr 1; omega) | rfl
theorem become_ok {d : Nat} (hd : 1 ≤ d) {a b : Nat} (hab : (a = 25 ∧ b = 19) ∨ (a = 30 ∧ b = 19) ∨ (a = 19 ∧ b = 25) ∨ (a = 19 ∧ b = 30)) : ∃ I', hv_Ok xs d yX0_become [.ref a, .ref b] hv_SH (I, L, hv_PP τ) none (I', L, hv_PP τ) ∧ BecC I I' a b := by
  rcases hab with ⟨rfl, rfl⟩ | ⟨rfl, rfl⟩ | ⟨rfl, rfl⟩ | ⟨rfl, rfl⟩
  · exact become_25_19 hd
  · exact become_30_19 hd
  · exact become_19_25 hd
  · exact become_19_30 hd
theorem fill_ok {d : Nat} {q n : Nat} (hk : hv_kd hS q = some 10) (hn : hv_ln hS q 10 = n) (hn2 : n < 1000) (v : Int32) : hv_Ok xs d yJ7_fill_53178 [.ref q, .int v] hv_SH (I, L, hv_PP τ) none (iR I q (fun j => if j < n then v else I q j), L, hv_PP τ) := by
  have h11 : hv_ln hS q 11 = 0 := by
    obtain ⟨m, hm⟩ := hv_kd_at hk
    simp [hv_ln, hm]
  apply o_J7_fill_53178
  simp only [hv_drop_i, hv_drop_r, hv_drop_n, hv_drop_a, hv_rf_some, r_J7_fill_53178_0, r_J7_fill_53178_1, r_J7_fill_53178_2, r_J7_fill_53178_3, r_J7_fill_53178_4, r_J7_fill_53178_6, r_J7_fill_53178_7, r_J7_fill_53178_10, r_J7_fill_53178_11, r_J7_fill_53178_12, r_J7_fill_53178_13, r_J7_fill_53178_14, r_J7_fill_53178_17, r_J7_fill_53178_20, hk, hn, h11, true_or, true_and, Nat.add_zero]
  have key : ∀ k t I', t + k = n → I' = iR I q (fun j => if j < t then v else I q j) → P_J7_fill_53178 xs d (hv_okQ none hv_SH (iR I q (fun j => if j < n then v else I q j), L, hv_PP τ)) 5 [some (.ref q), some (.int v), some (.int (nI t)), some (.int (nI n))] [] (hv_SH, 0, 0) (I', L, hv_PP τ) := by
    intro k
    induction k with
    | zero =>
      intro t I' ht hI
      have : t = n := by omega
      subst this
      subst hI
      rw [r_J7_fill_53178_5]
      simp only [hv_drop_i, hv_drop_r, hv_drop_n, hv_drop_a, hv_rf_some, r_J7_fill_53178_0, r_J7_fill_53178_1, r_J7_fill_53178_2, r_J7_fill_53178_3, r_J7_fill_53178_4, r_J7_fill_53178_6, r_J7_fill_53178_7, r_J7_fill_53178_10, r_J7_fill_53178_11, r_J7_fill_53178_12, r_J7_fill_53178_13, r_J7_fill_53178_14, r_J7_fill_53178_17, r_J7_fill_53178_20, Int32.le_refl, if_true, hv_okQ_iff]
      exact ⟨trivial, trivial⟩
    | succ k ih =>
      intro t I' ht hI
      rw [r_J7_fill_53178_5]
      simp only [hv_drop_i, hv_drop_r, hv_drop_n, hv_drop_a, hv_rf_some, r_J7_fill_53178_0, r_J7_fill_53178_1, r_J7_fill_53178_2, r_J7_fill_53178_3, r_J7_fill_53178_4, r_J7_fill_53178_6, r_J7_fill_53178_7, r_J7_fill_53178_10, r_J7_fill_53178_11, r_J7_fill_53178_12, r_J7_fill_53178_13, r_J7_fill_53178_14, r_J7_fill_53178_17, r_J7_fill_53178_20, nI_ge (show t < n by omega) (by omega), if_false, hn, hv_ix_nI (show t < n by omega) (by omega), true_and, nI_clamp (n := t) (by omega), nI_1, t_uI]
      refine ih (t + 1) _ (by omega) ?_
      subst hI
      funext k' j'
      simp only [iU, iR]
      by_cases h1 : k' = q
      · simp only [h1, true_and, if_true]
        (repeat' split) <;> first | (exfalso; omega) | exact congrArg (I _) (by omega) | (congr 1; omega) | rfl
      · simp [h1]
  exact key n 0 I (by omega) (by
    funext k' j'
    simp only [iR]
    by_cases h1 : k' = q <;> simp [h1])
end NOWC
