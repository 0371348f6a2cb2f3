/-! ===== calls: type, clear, forget, trace, count ===== -/
section API1
variable {xs : hv_X} {I : hI} {L : hL} {τ : Bool} {T : TD}
theorem i255 {c : Int32} : ¬ (c < 0) → ¬ (255 < c) → ∃ b, b < 256 ∧ c = nI b := by
  intro h1 h2
  obtain ⟨j, hj, e⟩ := nI_of2 (x := c) (M := 255) (n := 255) (by decide) h1 (Int32.not_lt.mp h2)
  exact ⟨j, by omega, e⟩
theorem add_ok {d n : Nat} (hn : n < 150) (h1 : I 1 1 = nI n) (c : Int32) : hv_Ok xs d yX3_add [.ref 1, .int c] hv_SH (I, L, hv_PP τ) none (iU (iU I 2 n c) 1 1 (nI (n + 1)), L, hv_PP τ) := by
  apply o_X3_add
  have e : ¬ (150 : Int32) ≤ nI n := by rw [show (150 : Int32) = nI 150 by decide]; exact nI_ge hn (by omega)
  simp only [hv_drop_i, hv_drop_r, hv_drop_n, hv_drop_a, hv_rf_some, r_X3_add_0, r_X3_add_1, r_X3_add_4, r_X3_add_7, r_X3_add_10, r_X3_add_11, r_X3_add_14, r_X3_add_15, r_X3_add_18, r_X3_add_19, r_X3_add_20, r_X3_add_21, r_X3_add_21i, r_X3_add_22, r_X3_add_25, r_X3_add_26, r_X3_add_27, r_X3_add_30, kd1, true_and, h1, e, if_false, pp1_0, ln2, hv_ix_nI hn (by decide), nI_clamp (n := n) (by omega), t_uI, u_r (show (1 : Nat) ≠ 2 by decide), nI_1, hv_okQ_iff, and_self]
theorem b_type (c : Int32) (hR : Rel I L τ) : Both xs yX6_type yX7_type [.int c] I L τ := by
  obtain ⟨T, ⟨n, n1, n2, n3, n4⟩, r2, r3, r4, r5, r6, r7, r8, r9⟩ := hR
  have hR : Rel I L τ := ⟨T, ⟨n, n1, n2, n3, n4⟩, r2, r3, r4, r5, r6, r7, r8, r9⟩
  by_cases hb : c < 0 ∨ 255 < c
  · refine ⟨I, I, L, L, τ, -1, ?_, ?_, hR⟩
    · apply o_X6_type
      by_cases h1 : c < 0
      · simp only [hv_drop_i, hv_drop_r, hv_drop_n, hv_drop_a, hv_rf_some, r_X6_type_0, r_X6_type_1, r_X6_type_4, r_X6_type_5, r_X6_type_8, r_X6_type_11, r_X6_type_12, r_X6_type_13, r_X6_type_14, r_X6_type_17, r_X6_type_20, r_X6_type_23, r_X6_type_26, r_X6_type_28, r_X6_type_29, r_X6_type_30, r_X6_type_33, r_X6_type_37, r_X6_type_38, r_X6_type_41, r_X6_type_44, h1, if_true, hv_okQ_iff, and_self]
      · have h2 : ¬ c ≤ 255 := Int32.not_le.mpr (hb.resolve_left h1)
        simp only [hv_drop_i, hv_drop_r, hv_drop_n, hv_drop_a, hv_rf_some, r_X6_type_0, r_X6_type_1, r_X6_type_4, r_X6_type_5, r_X6_type_8, r_X6_type_11, r_X6_type_12, r_X6_type_13, r_X6_type_14, r_X6_type_17, r_X6_type_20, r_X6_type_23, r_X6_type_26, r_X6_type_28, r_X6_type_29, r_X6_type_30, r_X6_type_33, r_X6_type_37, r_X6_type_38, r_X6_type_41, r_X6_type_44, h1, h2, if_false, hv_okQ_iff, and_self]
    · apply o_X7_type
      simp only [hv_drop_i, hv_drop_r, hv_drop_n, hv_drop_a, hv_rf_some, r_X7_type_0, r_X7_type_1, r_X7_type_2, r_X7_type_8, r_X7_type_11, r_X7_type_12, r_X7_type_13, r_X7_type_14, r_X7_type_17, r_X7_type_20, r_X7_type_23, r_X7_type_25, r_X7_type_26, r_X7_type_27, r_X7_type_30, r_X7_type_31, r_X7_type_34, r_X7_type_35, r_X7_type_36, r_X7_type_37, r_X7_type_37i, r_X7_type_38, r_X7_type_41, r_X7_type_42, r_X7_type_43, r_X7_type_46, r_X7_type_47, r_X7_type_50]
      refine k_X7_type_5 (in_ok (d := 0) _ _ _) ?_
      rw [b01_f (fun h => hb.elim (fun q => absurd h.1 (Int32.not_le.mpr q)) (fun q => absurd h.2 (Int32.not_le.mpr q)))]
      simp only [hv_drop_i, hv_drop_r, hv_drop_n, hv_drop_a, hv_rf_some, r_X7_type_0, r_X7_type_1, r_X7_type_2, r_X7_type_8, r_X7_type_11, r_X7_type_12, r_X7_type_13, r_X7_type_14, r_X7_type_17, r_X7_type_20, r_X7_type_23, r_X7_type_25, r_X7_type_26, r_X7_type_27, r_X7_type_30, r_X7_type_31, r_X7_type_34, r_X7_type_35, r_X7_type_36, r_X7_type_37, r_X7_type_37i, r_X7_type_38, r_X7_type_41, r_X7_type_42, r_X7_type_43, r_X7_type_46, r_X7_type_47, r_X7_type_50, show ¬ ((0 : Int32) ≠ 0) by decide, if_false, hv_okQ_iff, and_self]
  · have hc1 : ¬ c < 0 := fun h => hb (Or.inl h)
    have hc2 : c ≤ 255 := Int32.not_lt.mp (fun h => hb (Or.inr h))
    have hin : b01 (0 ≤ c ∧ c ≤ 255) = 1 := b01_t ⟨Int32.not_lt.mp hc1, hc2⟩
    by_cases hf : n = 150
    · subst hf
      refine ⟨I, I, L, L, τ, -3, ?_, ?_, hR⟩
      · apply o_X6_type
        simp only [hv_drop_i, hv_drop_r, hv_drop_n, hv_drop_a, hv_rf_some, r_X6_type_0, r_X6_type_1, r_X6_type_4, r_X6_type_5, r_X6_type_8, r_X6_type_11, r_X6_type_12, r_X6_type_13, r_X6_type_14, r_X6_type_17, r_X6_type_20, r_X6_type_23, r_X6_type_26, r_X6_type_28, r_X6_type_29, r_X6_type_30, r_X6_type_33, r_X6_type_37, r_X6_type_38, r_X6_type_41, r_X6_type_44, hc1, hc2, if_false, if_true, kd0, kd1, pp0_0, true_and, n2, show ¬ (nI 150 < 150) by decide, hv_okQ_iff, and_self]
      · apply o_X7_type
        simp only [hv_drop_i, hv_drop_r, hv_drop_n, hv_drop_a, hv_rf_some, r_X7_type_0, r_X7_type_1, r_X7_type_2, r_X7_type_8, r_X7_type_11, r_X7_type_12, r_X7_type_13, r_X7_type_14, r_X7_type_17, r_X7_type_20, r_X7_type_23, r_X7_type_25, r_X7_type_26, r_X7_type_27, r_X7_type_30, r_X7_type_31, r_X7_type_34, r_X7_type_35, r_X7_type_36, r_X7_type_37, r_X7_type_37i, r_X7_type_38, r_X7_type_41, r_X7_type_42, r_X7_type_43, r_X7_type_46, r_X7_type_47, r_X7_type_50]
        refine k_X7_type_5 (in_ok (d := 0) _ _ _) ?_
        rw [hin]
        simp only [hv_drop_i, hv_drop_r, hv_drop_n, hv_drop_a, hv_rf_some, r_X7_type_0, r_X7_type_1, r_X7_type_2, r_X7_type_8, r_X7_type_11, r_X7_type_12, r_X7_type_13, r_X7_type_14, r_X7_type_17, r_X7_type_20, r_X7_type_23, r_X7_type_25, r_X7_type_26, r_X7_type_27, r_X7_type_30, r_X7_type_31, r_X7_type_34, r_X7_type_35, r_X7_type_36, r_X7_type_37, r_X7_type_37i, r_X7_type_38, r_X7_type_41, r_X7_type_42, r_X7_type_43, r_X7_type_46, r_X7_type_47, r_X7_type_50, show ((1 : Int32) ≠ 0) by decide, ne_eq, not_false_eq_true, if_true, kd67, true_and, n3, show ¬ ¬ (nI 150 = 150) by decide, if_false, hv_okQ_iff, and_self]
    · have hn : n < 150 := by omega
      have e : nI n < 150 := nI_lt (a := n) (b := 150) hn (by decide)
      have e2 : ¬ (nI n = 150) := by rw [show (150 : Int32) = nI 150 by decide, nI_eq (by omega) (by omega)]; exact hf
      refine ⟨iU (iU I 2 n c) 1 1 (nI (n + 1)), iU (iU (iU (iU I 2 n c) 1 1 (nI (n + 1))) 68 n c) 67 2 (nI (n + 1)), L, L, τ, nI (n + 1), ?_, ?_, ?_⟩
      · apply o_X6_type
        simp only [hv_drop_i, hv_drop_r, hv_drop_n, hv_drop_a, hv_rf_some, r_X6_type_0, r_X6_type_1, r_X6_type_4, r_X6_type_5, r_X6_type_8, r_X6_type_11, r_X6_type_12, r_X6_type_13, r_X6_type_14, r_X6_type_17, r_X6_type_20, r_X6_type_23, r_X6_type_26, r_X6_type_28, r_X6_type_29, r_X6_type_30, r_X6_type_33, r_X6_type_37, r_X6_type_38, r_X6_type_41, r_X6_type_44, hc1, hc2, if_false, if_true, kd0, kd1, pp0_0, true_and, n2, e]
        refine k_X6_type_34 kd1 (add_ok (d := 0) hn n2 c) ?_
        simp only [hv_drop_i, hv_drop_r, hv_drop_n, hv_drop_a, hv_rf_some, r_X6_type_0, r_X6_type_1, r_X6_type_4, r_X6_type_5, r_X6_type_8, r_X6_type_11, r_X6_type_12, r_X6_type_13, r_X6_type_14, r_X6_type_17, r_X6_type_20, r_X6_type_23, r_X6_type_26, r_X6_type_28, r_X6_type_29, r_X6_type_30, r_X6_type_33, r_X6_type_37, r_X6_type_38, r_X6_type_41, r_X6_type_44, kd0, kd1, pp0_0, true_and, u_s, hv_okQ_iff, and_self]
      · apply o_X7_type
        simp only [hv_drop_i, hv_drop_r, hv_drop_n, hv_drop_a, hv_rf_some, r_X7_type_0, r_X7_type_1, r_X7_type_2, r_X7_type_8, r_X7_type_11, r_X7_type_12, r_X7_type_13, r_X7_type_14, r_X7_type_17, r_X7_type_20, r_X7_type_23, r_X7_type_25, r_X7_type_26, r_X7_type_27, r_X7_type_30, r_X7_type_31, r_X7_type_34, r_X7_type_35, r_X7_type_36, r_X7_type_37, r_X7_type_37i, r_X7_type_38, r_X7_type_41, r_X7_type_42, r_X7_type_43, r_X7_type_46, r_X7_type_47, r_X7_type_50]
        refine k_X7_type_5 (in_ok (d := 0) _ _ _) ?_
        rw [hin]
        have e3 : iU (iU I 2 n c) 1 1 (nI (n + 1)) 67 2 = nI n := by rw [← n3]; simp [iU]
        simp only [hv_drop_i, hv_drop_r, hv_drop_n, hv_drop_a, hv_rf_some, r_X7_type_0, r_X7_type_1, r_X7_type_2, r_X7_type_8, r_X7_type_11, r_X7_type_12, r_X7_type_13, r_X7_type_14, r_X7_type_17, r_X7_type_20, r_X7_type_23, r_X7_type_25, r_X7_type_26, r_X7_type_27, r_X7_type_30, r_X7_type_31, r_X7_type_34, r_X7_type_35, r_X7_type_36, r_X7_type_37, r_X7_type_37i, r_X7_type_38, r_X7_type_41, r_X7_type_42, r_X7_type_43, r_X7_type_46, r_X7_type_47, r_X7_type_50, show ((1 : Int32) ≠ 0) by decide, ne_eq, not_false_eq_true, if_true, kd67, true_and, e3, e2, pp67_1, ln68, hv_ix_nI hn (by decide), nI_clamp (n := n) (by omega), t_uI, u_r (show (67 : Nat) ≠ 68 by decide), nI_1, u_s, hv_okQ_iff, and_self]
      · obtain ⟨b, hb1, hb2⟩ := i255 hc1 (Int32.not_lt.mpr hc2)
        have q : ∀ k j, k ≠ 1 → k ≠ 2 → k ≠ 68 → ¬ (k = 67 ∧ j = 2) → (iU (iU (iU (iU I 2 n c) 1 1 (nI (n + 1))) 68 n c) 67 2 (nI (n + 1))) k j = I k j := fun k j h1 h2 h3 h4 => by simp [iU, h1, h2, h3]; intro h5 h6; exact absurd ⟨h5, h6⟩ h4
        refine ⟨T, ⟨n + 1, by omega, by simp [iU], by simp [iU], fun k hk => ?_⟩, RTold_c (fun k j _ _ => q _ _ (by omega) (by omega) (by omega) (by omega)) (fun j => q _ _ (by omega) (by omega) (by omega) (by omega)) r2, RN_c (fun k j _ _ => q _ _ (by omega) (by omega) (by omega) (by omega)) (fun k _ => q _ _ (by omega) (by omega) (by omega) (by omega)) r3,
          RImg_c (fun k j _ _ => q _ _ (by omega) (by omega) (by omega) (by omega)) (fun j => q _ _ (by omega) (by omega) (by omega) (by omega)) (fun j => q _ _ (by omega) (by omega) (by omega) (by omega)) r4, RSeen_c (q _ _ (by omega) (by omega) (by omega) (by omega)) (fun j => q _ _ (by omega) (by omega) (by omega) (by omega)) (fun j => q _ _ (by omega) (by omega) (by omega) (by omega)) (q _ _ (by omega) (by omega) (by omega) (by omega)) (fun j => q _ _ (by omega) (by omega) (by omega) (by omega)) r5,
          RMost_c r2.1.1 (fun k j _ _ => q _ _ (by omega) (by omega) (by omega) (by omega)) r6, RFair_c (fun k j _ _ => q _ _ (by omega) (by omega) (by omega) (by omega)) r7, RChs_c (fun k j _ _ => q _ _ (by omega) (by omega) (by omega) (by omega)) r8, r9⟩
        by_cases hkn : k = n
        · subst hkn
          refine ⟨by simp [iU], b, hb1, ?_⟩
          rw [← hb2]
          simp [iU]
        · obtain ⟨q1, b', q2, q3⟩ := n4 k (by omega)
          refine ⟨?_, b', q2, ?_⟩
          · simp [iU, hkn]; exact q1
          · simp [iU, hkn]; exact q3
theorem b_clear (hR : Rel I L τ) : Both xs yX6_clear yX7_clear [] I L τ := by
  obtain ⟨T, ⟨n, n1, n2, n3, n4⟩, r2, r3, r4, r5, r6, r7, r8, r9⟩ := hR
  refine ⟨iU I 1 1 0, iU (iU I 1 1 0) 67 2 0, L, L, τ, nI n, ?_, ?_, ?_⟩
  · apply o_X6_clear
    simp only [hv_drop_i, hv_drop_r, hv_drop_n, hv_drop_a, hv_rf_some, r_X6_clear_0, r_X6_clear_1, r_X6_clear_4, r_X6_clear_7, r_X6_clear_8, r_X6_clear_9, r_X6_clear_12, r_X6_clear_13, r_X6_clear_16, r_X6_clear_17, kd0, kd1, pp0_0, true_and, n2, t_uI, hv_okQ_iff, and_self]
  · apply o_X7_clear
    have e3 : iU I 1 1 0 67 2 = nI n := by rw [← n3]; simp [iU]
    simp only [hv_drop_i, hv_drop_r, hv_drop_n, hv_drop_a, hv_rf_some, r_X7_clear_0, r_X7_clear_1, r_X7_clear_4, r_X7_clear_5, r_X7_clear_6, r_X7_clear_7, r_X7_clear_10, r_X7_clear_11, kd67, true_and, e3, t_uI, hv_okQ_iff, and_self]
  · have q : ∀ k j, k ≠ 1 → ¬ (k = 67 ∧ j = 2) → (iU (iU I 1 1 0) 67 2 0) k j = I k j := fun k j h1 h4 => by simp [iU, h1]; intro h5 h6; exact absurd ⟨h5, h6⟩ h4
    exact ⟨T, ⟨0, by omega, by simp [iU]; decide, by simp [iU]; decide, fun k hk => absurd hk (by omega)⟩, RTold_c (fun k j _ _ => q _ _ (by omega) (by omega)) (fun j => q _ _ (by omega) (by omega)) r2, RN_c (fun k j _ _ => q _ _ (by omega) (by omega)) (fun k _ => q _ _ (by omega) (by omega)) r3,
      RImg_c (fun k j _ _ => q _ _ (by omega) (by omega)) (fun j => q _ _ (by omega) (by omega)) (fun j => q _ _ (by omega) (by omega)) r4, RSeen_c (q _ _ (by omega) (by omega)) (fun j => q _ _ (by omega) (by omega)) (fun j => q _ _ (by omega) (by omega)) (q _ _ (by omega) (by omega)) (fun j => q _ _ (by omega) (by omega)) r5,
      RMost_c r2.1.1 (fun k j _ _ => q _ _ (by omega) (by omega)) r6, RFair_c (fun k j _ _ => q _ _ (by omega) (by omega)) r7, RChs_c (fun k j _ _ => q _ _ (by omega) (by omega)) r8, r9⟩
theorem b_forget (hR : Rel I L τ) : Both xs yX6_forget yX7_forget [] I L τ := by
  obtain ⟨T, r1, r2, r3, r4, ⟨n, n1, n2, n3, n4⟩, r6, r7, r8, r9⟩ := hR
  refine ⟨iU I 36 2 0, iU (iU I 36 2 0) 67 9 0, L, L, τ, nI n, ?_, ?_, ?_⟩
  · apply o_X6_forget
    simp only [hv_drop_i, hv_drop_r, hv_drop_n, hv_drop_a, hv_rf_some, r_X6_forget_0, r_X6_forget_1, r_X6_forget_4, r_X6_forget_7, r_X6_forget_8, r_X6_forget_9, r_X6_forget_12, r_X6_forget_13, r_X6_forget_16, r_X6_forget_17, kd0, kd36, pp0_6, true_and, n2, t_uI, hv_okQ_iff, and_self]
  · apply o_X7_forget
    have e3 : iU I 36 2 0 67 9 = nI n := by rw [← n3]; simp [iU]
    simp only [hv_drop_i, hv_drop_r, hv_drop_n, hv_drop_a, hv_rf_some, r_X7_forget_0, r_X7_forget_1, r_X7_forget_4, r_X7_forget_5, r_X7_forget_6, r_X7_forget_7, r_X7_forget_10, r_X7_forget_11, kd67, true_and, e3, t_uI, hv_okQ_iff, and_self]
  · have q : ∀ k j, k ≠ 36 → ¬ (k = 67 ∧ j = 9) → (iU (iU I 36 2 0) 67 9 0) k j = I k j := fun k j h1 h4 => by simp [iU, h1]; intro h5 h6; exact absurd ⟨h5, h6⟩ h4
    exact ⟨T, RText_c (q _ _ (by omega) (by omega)) (fun j => q _ _ (by omega) (by omega)) (q _ _ (by omega) (by omega)) (fun j => q _ _ (by omega) (by omega)) r1, RTold_c (fun k j _ _ => q _ _ (by omega) (by omega)) (fun j => q _ _ (by omega) (by omega)) r2, RN_c (fun k j _ _ => q _ _ (by omega) (by omega)) (fun k _ => q _ _ (by omega) (by omega)) r3,
      RImg_c (fun k j _ _ => q _ _ (by omega) (by omega)) (fun j => q _ _ (by omega) (by omega)) (fun j => q _ _ (by omega) (by omega)) r4, ⟨0, by omega, by simp [iU]; decide, by simp [iU]; decide, fun k hk => absurd hk (by omega)⟩,
      RMost_c r2.1.1 (fun k j _ _ => q _ _ (by omega) (by omega)) r6, RFair_c (fun k j _ _ => q _ _ (by omega) (by omega)) r7, RChs_c (fun k j _ _ => q _ _ (by omega) (by omega)) r8, r9⟩
theorem b_trace (hR : Rel I L τ) : BothL xs yX6_trace yX7_trace [] I L τ := by
  have h9 : L 0 10 = L 67 0 := by obtain ⟨T, -, -, -, -, -, -, -, -, r9⟩ := hR; exact r9
  refine ⟨I, I, L, L, τ, L 0 10, ?_, ?_, hR⟩
  · apply o_X6_trace
    simp only [hv_drop_i, hv_drop_r, hv_drop_n, hv_drop_a, hv_rf_some, r_X6_trace_0, r_X6_trace_1, r_X6_trace_4, kd0, true_and, hv_okQ_iff, and_self]
  · apply o_X7_trace
    simp only [hv_drop_i, hv_drop_r, hv_drop_n, hv_drop_a, hv_rf_some, r_X7_trace_0, r_X7_trace_1, r_X7_trace_4, kd67, true_and, hv_okQ_iff, h9, and_self]
end API1
