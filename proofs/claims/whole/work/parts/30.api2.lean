/-! ===== calls: count, turn, family, undo, keep, back ===== -/
theorem enc_cW {t k : Nat} (ht : t < 6) (hk : k < 2 ^ 30) : enc t (cW k) = rW k := by
  unfold enc
  rw [if_pos ht]
  cases k with
  | zero => rw [cW_0]; rfl
  | succ k =>
    rw [cW_s, rW_s, if_neg]
    rw [i_eq, nI_toInt (by omega)]
    show ¬ (_ = (-1 : Int))
    omega
theorem orN {k : Nat} (hk : k < 2 ^ 30) : (if cW k < 0 then (-9 : Int32) else cW k) = rW k := by
  cases k with
  | zero => rw [cW_0]; rfl
  | succ k => rw [if_neg (by rw [cW_neg hk]; omega), cW_s, rW_s]
/-- a number is a place below n, or neither side takes it for one -/
theorem dich (v : Int32) {n : Nat} (hn : n < 2 ^ 30) : (∃ t, t < n ∧ v = nI t) ∨ (b01 (¬ v < 0 ∧ v < nI n) = 0 ∧ b01 (0 ≤ v ∧ v ≤ nI n - 1) = 0) := by
  rcases pk_ix v (n := n) (by omega) with h | h | h
  · exact Or.inr ⟨b01_f (fun q => q.1 h), b01_f (fun q => absurd q.1 (Int32.not_le.mpr h))⟩
  · refine Or.inr ⟨b01_f (fun q => absurd q.2 (Int32.not_lt.mpr h)), b01_f (fun q => ?_)⟩
    have h1 := i_le.mp h
    have h2 := i_le.mp q.2
    have h3 : (nI n - 1).toInt = (n : Int) - 1 := cW_toInt hn
    rw [nI_toInt (by omega)] at h1
    omega
  · exact Or.inl h
theorem dich_t {t n : Nat} (ht : t < n) (hn : n < 2 ^ 30) : b01 (¬ nI t < 0 ∧ nI t < nI n) = 1 ∧ b01 (0 ≤ nI t ∧ nI t ≤ nI n - 1) = 1 := by
  refine ⟨b01_t ⟨nI_pos (by omega), nI_lt ht (by omega)⟩, b01_t ⟨nI_pos' (by omega), ?_⟩⟩
  have h3 : (nI n - 1).toInt = (n : Int) - 1 := cW_toInt hn
  rw [i_le, h3, nI_toInt (by omega)]
  omega
theorem sw (v : Int32) {n : Nat} (hn : n < 2 ^ 30) : (∃ k, k < n ∧ v = nI k) ∨ (v.toInt < 0 ∨ (n : Int) - 1 < v.toInt) := by
  rcases pk_ix v (n := n) (by omega) with h | h | h
  · exact Or.inr (Or.inl (i_lt.mp h))
  · have h1 := i_le.mp h
    rw [nI_toInt (by omega)] at h1
    exact Or.inr (Or.inr (by omega))
  · exact Or.inl h
theorem RN_view {T : TD} {I : hI} (hT : tOk T) (hR : RN T I 19 (I 71)) : ∃ w y, okW T w ∧ WC T I 20 w ∧ WS T (I 71) w ∧ y ≤ 99 ∧ I 19 4 = nI y ∧ I 71 17 = nI y ∧ I 71 16 = I 19 3 ∧ (∀ f, f < 5 → I 71 (6 + f) = I 21 f) ∧ (∀ f, f < 5 → I 71 (11 + f) = I 22 f) ∧ ∃ u, u ≤ 10 ∧ I 19 6 = nI u ∧ I 71 18 = nI u := by
  obtain ⟨⟨⟨w, hw, h1⟩, y, hy, h2⟩, h3, u, hu, h4, h5, -⟩ := hR
  have hF := hT.2.1
  have r0 : ∀ t, t < 6 → rowC I 19 t = I 20 t := fun t ht => by unfold rowC; rw [if_pos ht]
  have r17 : rowC I 19 17 = I 19 4 := rfl
  have r16 : rowC I 19 16 = I 19 3 := rfl
  refine ⟨w, y, hw, ⟨kd20, ln20, fun t ht => by rw [← r0 t ht]; exact h1 t ht, hw.1⟩, ⟨fun t ht => ?_, hw.1⟩, hy, by rw [← r17]; exact h2, ?_, ?_, fun f hf => ?_, fun f hf => ?_, u, hu, h4, h5⟩
  · have := hw.1 t
    rw [h3 t (by omega), h1 t ht, enc_cW ht (by omega)]
  · rw [h3 17 (by omega), h2]; rfl
  · rw [h3 16 (by omega), r16]; rfl
  · rw [h3 (6 + f) (by omega)]
    unfold enc rowC
    rw [if_neg (by omega), if_neg (by omega), if_pos (by omega)]
    exact congrArg (I 21) (by omega)
  · rw [h3 (11 + f) (by omega)]
    unfold enc rowC
    rw [if_neg (by omega), if_neg (by omega), if_neg (by omega), if_pos (by omega)]
    exact congrArg (I 22) (by omega)
section API2
variable {xs : hv_X} {I : hI} {L : hL} {τ : Bool} {T : TD}
theorem orNone_ok {d : Nat} {sh : hv_Sh} {μ : hv_M} (v : Int32) : hv_Ok xs d yX6_orNone [.int v] sh μ (some (.int (if v < 0 then -9 else v))) μ := by
  apply o_X6_orNone
  simp only [hv_drop_i, hv_drop_r, hv_drop_n, hv_drop_a, hv_rf_some, r_X6_orNone_0, r_X6_orNone_1, r_X6_orNone_4, r_X6_orNone_6, r_X6_orNone_9, r_X6_orNone_10, hv_okQ_iff]
  by_cases h : v < 0
  · have h' : ¬ 0 ≤ v := Int32.not_le.mpr h
    simp [h, h']
  · have h' : 0 ≤ v := Int32.not_lt.mp h
    simp [h, h']
theorem nowM_keep (hR : Rel I L τ) : Rel (nowM I 6) L τ := Rel_keep (fun k j h => if_neg (fun q => h (Or.inr (Or.inr (Or.inl q.1))))) hR
theorem b_count (v : Int32) (hR : Rel I L τ) : Both xs yX6_count yX7_count [.int v] I L τ := by
  have hR0 := hR
  obtain ⟨T, ⟨n, n1, n2, n3, n4⟩, r2, r3, r4, ⟨m, m1, m2, m3, m4⟩, r6, r7, r8, r9⟩ := hR
  obtain ⟨hT, hC, hM⟩ := r2
  obtain ⟨w, y, -, -, -, -, -, -, -, -, -, u, hu, u1, u2⟩ := RN_view hT r3
  have hk := kdT (hv_tp_or τ)
  rcases sw v (n := 6) (by decide) with ⟨k, hk6, rfl⟩ | h
  · have : k = 0 ∨ k = 1 ∨ k = 2 ∨ k = 3 ∨ k = 4 ∨ k = 5 := by omega
    rcases this with rfl | rfl | rfl | rfl | rfl | rfl
    · refine ⟨I, I, L, L, τ, nI (tN T), o_X6_count ?_, o_X7_count ?_, hR0⟩
      · simp only [hv_drop_i, hv_drop_r, hv_drop_n, hv_drop_a, hv_rf_some, r_X6_count_0, r_X6_count_40, r_X6_count_41, r_X6_count_44, r_X6_count_47, r_X6_count_48, r_X6_count_49, r_X6_count_52, r_X6_count_55, r_X6_count_56, r_X6_count_57, r_X6_count_60, r_X6_count_63, r_X6_count_64, r_X6_count_65, r_X6_count_68, r_X6_count_71, r_X6_count_72, r_X6_count_73, r_X6_count_76, r_X6_count_79, r_X6_count_80, r_X6_count_81, r_X6_count_84, r_X6_count_87, r_X6_count_88, r_X6_count_89, show nI 0 = 0 by decide, r_X6_count_1_0, kd0, pp0_1, hk, true_and, hC.1, hv_okQ_iff, and_self]
      · simp only [hv_drop_i, hv_drop_r, hv_drop_n, hv_drop_a, hv_rf_some, r_X7_count_0, r_X7_count_40, r_X7_count_41, r_X7_count_44, r_X7_count_45, r_X7_count_46, r_X7_count_47, r_X7_count_48, r_X7_count_51, r_X7_count_52, r_X7_count_53, r_X7_count_54, r_X7_count_55, r_X7_count_58, r_X7_count_59, r_X7_count_60, r_X7_count_61, r_X7_count_62, r_X7_count_65, r_X7_count_66, r_X7_count_67, r_X7_count_70, r_X7_count_72, r_X7_count_73, r_X7_count_74, r_X7_count_75, r_X7_count_78, r_X7_count_79, r_X7_count_80, show nI 0 = 0 by decide, r_X7_count_1_0, kd67, pp67_3, ln69, show hv_ix 0 36 = true by decide, c_0, true_and, hM.1, hv_okQ_iff, and_self]
    · refine ⟨I, I, L, L, τ, nI (tF T), o_X6_count ?_, o_X7_count ?_, hR0⟩
      · simp only [hv_drop_i, hv_drop_r, hv_drop_n, hv_drop_a, hv_rf_some, r_X6_count_0, r_X6_count_40, r_X6_count_41, r_X6_count_44, r_X6_count_47, r_X6_count_48, r_X6_count_49, r_X6_count_52, r_X6_count_55, r_X6_count_56, r_X6_count_57, r_X6_count_60, r_X6_count_63, r_X6_count_64, r_X6_count_65, r_X6_count_68, r_X6_count_71, r_X6_count_72, r_X6_count_73, r_X6_count_76, r_X6_count_79, r_X6_count_80, r_X6_count_81, r_X6_count_84, r_X6_count_87, r_X6_count_88, r_X6_count_89, show nI 1 = 1 by decide, r_X6_count_1_1, kd0, pp0_1, hk, true_and, hC.2.1, hv_okQ_iff, and_self]
      · simp only [hv_drop_i, hv_drop_r, hv_drop_n, hv_drop_a, hv_rf_some, r_X7_count_0, r_X7_count_40, r_X7_count_41, r_X7_count_44, r_X7_count_45, r_X7_count_46, r_X7_count_47, r_X7_count_48, r_X7_count_51, r_X7_count_52, r_X7_count_53, r_X7_count_54, r_X7_count_55, r_X7_count_58, r_X7_count_59, r_X7_count_60, r_X7_count_61, r_X7_count_62, r_X7_count_65, r_X7_count_66, r_X7_count_67, r_X7_count_70, r_X7_count_72, r_X7_count_73, r_X7_count_74, r_X7_count_75, r_X7_count_78, r_X7_count_79, r_X7_count_80, show nI 1 = 1 by decide, r_X7_count_1_1, kd67, pp67_3, ln69, show hv_ix 1 36 = true by decide, c_1, true_and, hM.2.1, hv_okQ_iff, and_self]
    · refine ⟨I, I, L, L, τ, nI (tW T), o_X6_count ?_, o_X7_count ?_, hR0⟩
      · simp only [hv_drop_i, hv_drop_r, hv_drop_n, hv_drop_a, hv_rf_some, r_X6_count_0, r_X6_count_40, r_X6_count_41, r_X6_count_44, r_X6_count_47, r_X6_count_48, r_X6_count_49, r_X6_count_52, r_X6_count_55, r_X6_count_56, r_X6_count_57, r_X6_count_60, r_X6_count_63, r_X6_count_64, r_X6_count_65, r_X6_count_68, r_X6_count_71, r_X6_count_72, r_X6_count_73, r_X6_count_76, r_X6_count_79, r_X6_count_80, r_X6_count_81, r_X6_count_84, r_X6_count_87, r_X6_count_88, r_X6_count_89, show nI 2 = 2 by decide, r_X6_count_1_2, kd0, pp0_1, hk, true_and, hC.2.2.1, hv_okQ_iff, and_self]
      · simp only [hv_drop_i, hv_drop_r, hv_drop_n, hv_drop_a, hv_rf_some, r_X7_count_0, r_X7_count_40, r_X7_count_41, r_X7_count_44, r_X7_count_45, r_X7_count_46, r_X7_count_47, r_X7_count_48, r_X7_count_51, r_X7_count_52, r_X7_count_53, r_X7_count_54, r_X7_count_55, r_X7_count_58, r_X7_count_59, r_X7_count_60, r_X7_count_61, r_X7_count_62, r_X7_count_65, r_X7_count_66, r_X7_count_67, r_X7_count_70, r_X7_count_72, r_X7_count_73, r_X7_count_74, r_X7_count_75, r_X7_count_78, r_X7_count_79, r_X7_count_80, show nI 2 = 2 by decide, r_X7_count_1_2, kd67, pp67_3, ln69, show hv_ix 2 36 = true by decide, c_2, true_and, hM.2.2.1, hv_okQ_iff, and_self]
    · refine ⟨I, I, L, L, τ, nI m, o_X6_count ?_, o_X7_count ?_, hR0⟩
      · simp only [hv_drop_i, hv_drop_r, hv_drop_n, hv_drop_a, hv_rf_some, r_X6_count_0, r_X6_count_40, r_X6_count_41, r_X6_count_44, r_X6_count_47, r_X6_count_48, r_X6_count_49, r_X6_count_52, r_X6_count_55, r_X6_count_56, r_X6_count_57, r_X6_count_60, r_X6_count_63, r_X6_count_64, r_X6_count_65, r_X6_count_68, r_X6_count_71, r_X6_count_72, r_X6_count_73, r_X6_count_76, r_X6_count_79, r_X6_count_80, r_X6_count_81, r_X6_count_84, r_X6_count_87, r_X6_count_88, r_X6_count_89, show nI 3 = 3 by decide, r_X6_count_1_3, kd0, kd36, pp0_6, true_and, m2, hv_okQ_iff, and_self]
      · simp only [hv_drop_i, hv_drop_r, hv_drop_n, hv_drop_a, hv_rf_some, r_X7_count_0, r_X7_count_40, r_X7_count_41, r_X7_count_44, r_X7_count_45, r_X7_count_46, r_X7_count_47, r_X7_count_48, r_X7_count_51, r_X7_count_52, r_X7_count_53, r_X7_count_54, r_X7_count_55, r_X7_count_58, r_X7_count_59, r_X7_count_60, r_X7_count_61, r_X7_count_62, r_X7_count_65, r_X7_count_66, r_X7_count_67, r_X7_count_70, r_X7_count_72, r_X7_count_73, r_X7_count_74, r_X7_count_75, r_X7_count_78, r_X7_count_79, r_X7_count_80, show nI 3 = 3 by decide, r_X7_count_1_3, kd67, true_and, m3, hv_okQ_iff, and_self]
    · refine ⟨I, I, L, L, τ, nI u, o_X6_count ?_, o_X7_count ?_, hR0⟩
      · simp only [hv_drop_i, hv_drop_r, hv_drop_n, hv_drop_a, hv_rf_some, r_X6_count_0, r_X6_count_40, r_X6_count_41, r_X6_count_44, r_X6_count_47, r_X6_count_48, r_X6_count_49, r_X6_count_52, r_X6_count_55, r_X6_count_56, r_X6_count_57, r_X6_count_60, r_X6_count_63, r_X6_count_64, r_X6_count_65, r_X6_count_68, r_X6_count_71, r_X6_count_72, r_X6_count_73, r_X6_count_76, r_X6_count_79, r_X6_count_80, r_X6_count_81, r_X6_count_84, r_X6_count_87, r_X6_count_88, r_X6_count_89, show nI 4 = 4 by decide, r_X6_count_1_4, kd0, kd19, pp0_3, true_and, u1, hv_okQ_iff, and_self]
      · simp only [hv_drop_i, hv_drop_r, hv_drop_n, hv_drop_a, hv_rf_some, r_X7_count_0, r_X7_count_40, r_X7_count_41, r_X7_count_44, r_X7_count_45, r_X7_count_46, r_X7_count_47, r_X7_count_48, r_X7_count_51, r_X7_count_52, r_X7_count_53, r_X7_count_54, r_X7_count_55, r_X7_count_58, r_X7_count_59, r_X7_count_60, r_X7_count_61, r_X7_count_62, r_X7_count_65, r_X7_count_66, r_X7_count_67, r_X7_count_70, r_X7_count_72, r_X7_count_73, r_X7_count_74, r_X7_count_75, r_X7_count_78, r_X7_count_79, r_X7_count_80, show nI 4 = 4 by decide, r_X7_count_1_4, kd67, pp67_5, ln71, show hv_ix 18 199 = true by decide, c_18, true_and, u2, hv_okQ_iff, and_self]
    · refine ⟨I, I, L, L, τ, nI n, o_X6_count ?_, o_X7_count ?_, hR0⟩
      · simp only [hv_drop_i, hv_drop_r, hv_drop_n, hv_drop_a, hv_rf_some, r_X6_count_0, r_X6_count_40, r_X6_count_41, r_X6_count_44, r_X6_count_47, r_X6_count_48, r_X6_count_49, r_X6_count_52, r_X6_count_55, r_X6_count_56, r_X6_count_57, r_X6_count_60, r_X6_count_63, r_X6_count_64, r_X6_count_65, r_X6_count_68, r_X6_count_71, r_X6_count_72, r_X6_count_73, r_X6_count_76, r_X6_count_79, r_X6_count_80, r_X6_count_81, r_X6_count_84, r_X6_count_87, r_X6_count_88, r_X6_count_89, show nI 5 = 5 by decide, r_X6_count_1_5, kd0, kd1, pp0_0, true_and, n2, hv_okQ_iff, and_self]
      · simp only [hv_drop_i, hv_drop_r, hv_drop_n, hv_drop_a, hv_rf_some, r_X7_count_0, r_X7_count_40, r_X7_count_41, r_X7_count_44, r_X7_count_45, r_X7_count_46, r_X7_count_47, r_X7_count_48, r_X7_count_51, r_X7_count_52, r_X7_count_53, r_X7_count_54, r_X7_count_55, r_X7_count_58, r_X7_count_59, r_X7_count_60, r_X7_count_61, r_X7_count_62, r_X7_count_65, r_X7_count_66, r_X7_count_67, r_X7_count_70, r_X7_count_72, r_X7_count_73, r_X7_count_74, r_X7_count_75, r_X7_count_78, r_X7_count_79, r_X7_count_80, show nI 5 = 5 by decide, r_X7_count_1_5, kd67, true_and, n3, hv_okQ_iff, and_self]
  · refine ⟨I, I, L, L, τ, -1, o_X6_count ?_, o_X7_count ?_, hR0⟩
    · simp only [hv_drop_i, hv_drop_r, hv_drop_n, hv_drop_a, hv_rf_some, r_X6_count_0, r_X6_count_40, r_X6_count_41, r_X6_count_44, r_X6_count_47, r_X6_count_48, r_X6_count_49, r_X6_count_52, r_X6_count_55, r_X6_count_56, r_X6_count_57, r_X6_count_60, r_X6_count_63, r_X6_count_64, r_X6_count_65, r_X6_count_68, r_X6_count_71, r_X6_count_72, r_X6_count_73, r_X6_count_76, r_X6_count_79, r_X6_count_80, r_X6_count_81, r_X6_count_84, r_X6_count_87, r_X6_count_88, r_X6_count_89, r_X6_count_1_out h, hv_okQ_iff, and_self]
    · simp only [hv_drop_i, hv_drop_r, hv_drop_n, hv_drop_a, hv_rf_some, r_X7_count_0, r_X7_count_40, r_X7_count_41, r_X7_count_44, r_X7_count_45, r_X7_count_46, r_X7_count_47, r_X7_count_48, r_X7_count_51, r_X7_count_52, r_X7_count_53, r_X7_count_54, r_X7_count_55, r_X7_count_58, r_X7_count_59, r_X7_count_60, r_X7_count_61, r_X7_count_62, r_X7_count_65, r_X7_count_66, r_X7_count_67, r_X7_count_70, r_X7_count_72, r_X7_count_73, r_X7_count_74, r_X7_count_75, r_X7_count_78, r_X7_count_79, r_X7_count_80, r_X7_count_1_out h, hv_okQ_iff, and_self]
theorem b_turn (v x : Int32) (hR : Rel I L τ) : Both xs yX6_turn yX7_turn [.int v, .int x] I L τ := by
  have hR0 := hR
  obtain ⟨T, -, r2, r3, -⟩ := hR
  obtain ⟨hT, hC, hM⟩ := r2
  obtain ⟨w, y, hw, wc, ws, -⟩ := RN_view hT r3
  have h6 := hT.1
  have h5 := hT.2.1
  have hp := hv_tp_or τ
  have hk := kdT hp
  rcases dich v (n := tN T) (by omega) with ⟨t, ht, rfl⟩ | ⟨hb1, hb2⟩
  · obtain ⟨hb1, hb2⟩ := dich_t ht (by omega)
    have hwt := hw.1 t
    rcases sw x (n := 3) (by decide) with ⟨k, hk3, rfl⟩ | h
    · have hin : b01 (0 ≤ nI k ∧ nI k ≤ 2) = 1 := (dich_t (n := 3) hk3 (by decide)).2
      have : k = 0 ∨ k = 1 ∨ k = 2 := by omega
      rcases this with rfl | rfl | rfl
      · refine ⟨I, nowM I 6, L, L, τ, nI (tS T t), o_X6_turn ?_, o_X7_turn ?_, nowM_keep hR0⟩
        · simp only [hv_drop_i, hv_drop_r, hv_drop_n, hv_drop_a, hv_rf_some, r_X6_turn_0, r_X6_turn_1, r_X6_turn_4, r_X6_turn_8, r_X6_turn_11, r_X6_turn_12, r_X6_turn_13, r_X6_turn_40, r_X6_turn_41, r_X6_turn_44, r_X6_turn_47, r_X6_turn_48, r_X6_turn_49, r_X6_turn_50, r_X6_turn_51, r_X6_turn_54, r_X6_turn_57, r_X6_turn_58, r_X6_turn_62, r_X6_turn_63, r_X6_turn_64, r_X6_turn_67, r_X6_turn_68, r_X6_turn_71, r_X6_turn_74, r_X6_turn_78, r_X6_turn_79, r_X6_turn_80, kd0, true_and, pp0_1]
          refine k_X6_turn_5 hk (hasTurn_ok (d := 0) hp _) ?_
          rw [hC.1, hb1]
          simp only [hv_drop_i, hv_drop_r, hv_drop_n, hv_drop_a, hv_rf_some, r_X6_turn_0, r_X6_turn_1, r_X6_turn_4, r_X6_turn_8, r_X6_turn_11, r_X6_turn_12, r_X6_turn_13, r_X6_turn_40, r_X6_turn_41, r_X6_turn_44, r_X6_turn_47, r_X6_turn_48, r_X6_turn_49, r_X6_turn_50, r_X6_turn_51, r_X6_turn_54, r_X6_turn_57, r_X6_turn_58, r_X6_turn_62, r_X6_turn_63, r_X6_turn_64, r_X6_turn_67, r_X6_turn_68, r_X6_turn_71, r_X6_turn_74, r_X6_turn_78, r_X6_turn_79, r_X6_turn_80, show (1 : Int32) ≠ 0 by decide, ne_eq, not_false_eq_true, if_true, show nI 0 = 0 by decide, r_X6_turn_14_0, kd0, hk, true_and, pp0_1, ppT0 hp, lnT1 hp, hv_ix_nI (show t < 6 by omega) (by decide), nI_clamp (n := t) (by omega), hC.2.2.2.1 t ht, hv_okQ_iff, and_self]
        · simp only [hv_drop_i, hv_drop_r, hv_drop_n, hv_drop_a, hv_rf_some, r_X7_turn_0, r_X7_turn_1, r_X7_turn_5, r_X7_turn_8, r_X7_turn_9, r_X7_turn_10, r_X7_turn_14, r_X7_turn_17, r_X7_turn_18, r_X7_turn_19, r_X7_turn_23, r_X7_turn_24, r_X7_turn_27, r_X7_turn_28, r_X7_turn_31, r_X7_turn_32, r_X7_turn_33, r_X7_turn_34, r_X7_turn_35, r_X7_turn_38, r_X7_turn_39, r_X7_turn_40, r_X7_turn_43, r_X7_turn_44, r_X7_turn_47, r_X7_turn_48, r_X7_turn_49, r_X7_turn_52, r_X7_turn_53, r_X7_turn_57]
          refine k_X7_turn_2 kd67 (isTurn_ok (d := 1) (by omega) _) ?_
          rw [hM.1, hb2]
          simp only [hv_drop_i, hv_drop_r, hv_drop_n, hv_drop_a, hv_rf_some, r_X7_turn_0, r_X7_turn_1, r_X7_turn_5, r_X7_turn_8, r_X7_turn_9, r_X7_turn_10, r_X7_turn_14, r_X7_turn_17, r_X7_turn_18, r_X7_turn_19, r_X7_turn_23, r_X7_turn_24, r_X7_turn_27, r_X7_turn_28, r_X7_turn_31, r_X7_turn_32, r_X7_turn_33, r_X7_turn_34, r_X7_turn_35, r_X7_turn_38, r_X7_turn_39, r_X7_turn_40, r_X7_turn_43, r_X7_turn_44, r_X7_turn_47, r_X7_turn_48, r_X7_turn_49, r_X7_turn_52, r_X7_turn_53, r_X7_turn_57, i10, if_false]
          refine k_X7_turn_11 (in_ok (d := 0) _ _ _) ?_
          rw [hin]
          simp only [hv_drop_i, hv_drop_r, hv_drop_n, hv_drop_a, hv_rf_some, r_X7_turn_0, r_X7_turn_1, r_X7_turn_5, r_X7_turn_8, r_X7_turn_9, r_X7_turn_10, r_X7_turn_14, r_X7_turn_17, r_X7_turn_18, r_X7_turn_19, r_X7_turn_23, r_X7_turn_24, r_X7_turn_27, r_X7_turn_28, r_X7_turn_31, r_X7_turn_32, r_X7_turn_33, r_X7_turn_34, r_X7_turn_35, r_X7_turn_38, r_X7_turn_39, r_X7_turn_40, r_X7_turn_43, r_X7_turn_44, r_X7_turn_47, r_X7_turn_48, r_X7_turn_49, r_X7_turn_52, r_X7_turn_53, r_X7_turn_57, i10, ne_eq, not_false_eq_true, if_true]
          refine k_X7_turn_20 kd67 (isNow_ok (d := 0)) ?_
          have e : nowM I 6 69 = I 69 := funext fun j => by simp [nowM]
          simp only [hv_drop_i, hv_drop_r, hv_drop_n, hv_drop_a, hv_rf_some, r_X7_turn_0, r_X7_turn_1, r_X7_turn_5, r_X7_turn_8, r_X7_turn_9, r_X7_turn_10, r_X7_turn_14, r_X7_turn_17, r_X7_turn_18, r_X7_turn_19, r_X7_turn_23, r_X7_turn_24, r_X7_turn_27, r_X7_turn_28, r_X7_turn_31, r_X7_turn_32, r_X7_turn_33, r_X7_turn_34, r_X7_turn_35, r_X7_turn_38, r_X7_turn_39, r_X7_turn_40, r_X7_turn_43, r_X7_turn_44, r_X7_turn_47, r_X7_turn_48, r_X7_turn_49, r_X7_turn_52, r_X7_turn_53, r_X7_turn_57, show nI 0 = 0 by decide, ne_eq, not_true_eq_false, if_false, kd67, true_and, pp67_3, ln69, a_5, hv_ix_nI (show 5 + t < 36 by omega) (by decide), nI_clamp (n := 5 + t) (by omega), e, hM.2.2.2.1 t ht, hv_okQ_iff, and_self]
      · refine ⟨I, nowM I 6, L, L, τ, rW (w t), o_X6_turn ?_, o_X7_turn ?_, nowM_keep hR0⟩
        · simp only [hv_drop_i, hv_drop_r, hv_drop_n, hv_drop_a, hv_rf_some, r_X6_turn_0, r_X6_turn_1, r_X6_turn_4, r_X6_turn_8, r_X6_turn_11, r_X6_turn_12, r_X6_turn_13, r_X6_turn_40, r_X6_turn_41, r_X6_turn_44, r_X6_turn_47, r_X6_turn_48, r_X6_turn_49, r_X6_turn_50, r_X6_turn_51, r_X6_turn_54, r_X6_turn_57, r_X6_turn_58, r_X6_turn_62, r_X6_turn_63, r_X6_turn_64, r_X6_turn_67, r_X6_turn_68, r_X6_turn_71, r_X6_turn_74, r_X6_turn_78, r_X6_turn_79, r_X6_turn_80, kd0, true_and, pp0_1]
          refine k_X6_turn_5 hk (hasTurn_ok (d := 0) hp _) ?_
          rw [hC.1, hb1]
          simp only [hv_drop_i, hv_drop_r, hv_drop_n, hv_drop_a, hv_rf_some, r_X6_turn_0, r_X6_turn_1, r_X6_turn_4, r_X6_turn_8, r_X6_turn_11, r_X6_turn_12, r_X6_turn_13, r_X6_turn_40, r_X6_turn_41, r_X6_turn_44, r_X6_turn_47, r_X6_turn_48, r_X6_turn_49, r_X6_turn_50, r_X6_turn_51, r_X6_turn_54, r_X6_turn_57, r_X6_turn_58, r_X6_turn_62, r_X6_turn_63, r_X6_turn_64, r_X6_turn_67, r_X6_turn_68, r_X6_turn_71, r_X6_turn_74, r_X6_turn_78, r_X6_turn_79, r_X6_turn_80, show (1 : Int32) ≠ 0 by decide, ne_eq, not_false_eq_true, if_true, show nI 1 = 1 by decide, r_X6_turn_14_1, kd0, kd19, true_and, pp0_3, pp19_0, ln20, hv_ix_nI (show t < 6 by omega) (by decide), nI_clamp (n := t) (by omega), wc.2.2.1 t (by omega)]
          refine k_X6_turn_59 (orNone_ok (d := 0) _) ?_
          rw [orN (by omega)]
          simp only [hv_drop_i, hv_drop_r, hv_drop_n, hv_drop_a, hv_rf_some, r_X6_turn_0, r_X6_turn_1, r_X6_turn_4, r_X6_turn_8, r_X6_turn_11, r_X6_turn_12, r_X6_turn_13, r_X6_turn_40, r_X6_turn_41, r_X6_turn_44, r_X6_turn_47, r_X6_turn_48, r_X6_turn_49, r_X6_turn_50, r_X6_turn_51, r_X6_turn_54, r_X6_turn_57, r_X6_turn_58, r_X6_turn_62, r_X6_turn_63, r_X6_turn_64, r_X6_turn_67, r_X6_turn_68, r_X6_turn_71, r_X6_turn_74, r_X6_turn_78, r_X6_turn_79, r_X6_turn_80, hv_okQ_iff, and_self]
        · simp only [hv_drop_i, hv_drop_r, hv_drop_n, hv_drop_a, hv_rf_some, r_X7_turn_0, r_X7_turn_1, r_X7_turn_5, r_X7_turn_8, r_X7_turn_9, r_X7_turn_10, r_X7_turn_14, r_X7_turn_17, r_X7_turn_18, r_X7_turn_19, r_X7_turn_23, r_X7_turn_24, r_X7_turn_27, r_X7_turn_28, r_X7_turn_31, r_X7_turn_32, r_X7_turn_33, r_X7_turn_34, r_X7_turn_35, r_X7_turn_38, r_X7_turn_39, r_X7_turn_40, r_X7_turn_43, r_X7_turn_44, r_X7_turn_47, r_X7_turn_48, r_X7_turn_49, r_X7_turn_52, r_X7_turn_53, r_X7_turn_57]
          refine k_X7_turn_2 kd67 (isTurn_ok (d := 1) (by omega) _) ?_
          rw [hM.1, hb2]
          simp only [hv_drop_i, hv_drop_r, hv_drop_n, hv_drop_a, hv_rf_some, r_X7_turn_0, r_X7_turn_1, r_X7_turn_5, r_X7_turn_8, r_X7_turn_9, r_X7_turn_10, r_X7_turn_14, r_X7_turn_17, r_X7_turn_18, r_X7_turn_19, r_X7_turn_23, r_X7_turn_24, r_X7_turn_27, r_X7_turn_28, r_X7_turn_31, r_X7_turn_32, r_X7_turn_33, r_X7_turn_34, r_X7_turn_35, r_X7_turn_38, r_X7_turn_39, r_X7_turn_40, r_X7_turn_43, r_X7_turn_44, r_X7_turn_47, r_X7_turn_48, r_X7_turn_49, r_X7_turn_52, r_X7_turn_53, r_X7_turn_57, i10, if_false]
          refine k_X7_turn_11 (in_ok (d := 0) _ _ _) ?_
          rw [hin]
          simp only [hv_drop_i, hv_drop_r, hv_drop_n, hv_drop_a, hv_rf_some, r_X7_turn_0, r_X7_turn_1, r_X7_turn_5, r_X7_turn_8, r_X7_turn_9, r_X7_turn_10, r_X7_turn_14, r_X7_turn_17, r_X7_turn_18, r_X7_turn_19, r_X7_turn_23, r_X7_turn_24, r_X7_turn_27, r_X7_turn_28, r_X7_turn_31, r_X7_turn_32, r_X7_turn_33, r_X7_turn_34, r_X7_turn_35, r_X7_turn_38, r_X7_turn_39, r_X7_turn_40, r_X7_turn_43, r_X7_turn_44, r_X7_turn_47, r_X7_turn_48, r_X7_turn_49, r_X7_turn_52, r_X7_turn_53, r_X7_turn_57, i10, ne_eq, not_false_eq_true, if_true]
          refine k_X7_turn_20 kd67 (isNow_ok (d := 0)) ?_
          have e : nowM I 6 71 = I 71 := funext fun j => by simp [nowM]
          simp only [hv_drop_i, hv_drop_r, hv_drop_n, hv_drop_a, hv_rf_some, r_X7_turn_0, r_X7_turn_1, r_X7_turn_5, r_X7_turn_8, r_X7_turn_9, r_X7_turn_10, r_X7_turn_14, r_X7_turn_17, r_X7_turn_18, r_X7_turn_19, r_X7_turn_23, r_X7_turn_24, r_X7_turn_27, r_X7_turn_28, r_X7_turn_31, r_X7_turn_32, r_X7_turn_33, r_X7_turn_34, r_X7_turn_35, r_X7_turn_38, r_X7_turn_39, r_X7_turn_40, r_X7_turn_43, r_X7_turn_44, r_X7_turn_47, r_X7_turn_48, r_X7_turn_49, r_X7_turn_52, r_X7_turn_53, r_X7_turn_57, show ¬ nI 1 = 0 by decide, ne_eq, not_false_eq_true, if_true, show ¬ ¬ nI 1 = 1 by decide, if_false, kd67, true_and, pp67_5, ln71, hv_ix_nI (show t < 199 by omega) (by decide), nI_clamp (n := t) (by omega), e, ws.1 t (by omega), hv_okQ_iff, and_self]
      · refine ⟨I, nowM I 6, L, L, τ, nI (jy T w t), o_X6_turn ?_, o_X7_turn ?_, nowM_keep hR0⟩
        · simp only [hv_drop_i, hv_drop_r, hv_drop_n, hv_drop_a, hv_rf_some, r_X6_turn_0, r_X6_turn_1, r_X6_turn_4, r_X6_turn_8, r_X6_turn_11, r_X6_turn_12, r_X6_turn_13, r_X6_turn_40, r_X6_turn_41, r_X6_turn_44, r_X6_turn_47, r_X6_turn_48, r_X6_turn_49, r_X6_turn_50, r_X6_turn_51, r_X6_turn_54, r_X6_turn_57, r_X6_turn_58, r_X6_turn_62, r_X6_turn_63, r_X6_turn_64, r_X6_turn_67, r_X6_turn_68, r_X6_turn_71, r_X6_turn_74, r_X6_turn_78, r_X6_turn_79, r_X6_turn_80, kd0, true_and, pp0_1]
          refine k_X6_turn_5 hk (hasTurn_ok (d := 0) hp _) ?_
          rw [hC.1, hb1]
          simp only [hv_drop_i, hv_drop_r, hv_drop_n, hv_drop_a, hv_rf_some, r_X6_turn_0, r_X6_turn_1, r_X6_turn_4, r_X6_turn_8, r_X6_turn_11, r_X6_turn_12, r_X6_turn_13, r_X6_turn_40, r_X6_turn_41, r_X6_turn_44, r_X6_turn_47, r_X6_turn_48, r_X6_turn_49, r_X6_turn_50, r_X6_turn_51, r_X6_turn_54, r_X6_turn_57, r_X6_turn_58, r_X6_turn_62, r_X6_turn_63, r_X6_turn_64, r_X6_turn_67, r_X6_turn_68, r_X6_turn_71, r_X6_turn_74, r_X6_turn_78, r_X6_turn_79, r_X6_turn_80, show (1 : Int32) ≠ 0 by decide, ne_eq, not_false_eq_true, if_true, show nI 2 = 2 by decide, r_X6_turn_14_2, kd0, kd19, true_and, pp0_1, pp0_3, pp19_0]
          refine k_X6_turn_75 hk (joyOfTurn_T (d := 2) (by omega) hT hC hp wc ht) ?_
          simp only [hv_drop_i, hv_drop_r, hv_drop_n, hv_drop_a, hv_rf_some, r_X6_turn_0, r_X6_turn_1, r_X6_turn_4, r_X6_turn_8, r_X6_turn_11, r_X6_turn_12, r_X6_turn_13, r_X6_turn_40, r_X6_turn_41, r_X6_turn_44, r_X6_turn_47, r_X6_turn_48, r_X6_turn_49, r_X6_turn_50, r_X6_turn_51, r_X6_turn_54, r_X6_turn_57, r_X6_turn_58, r_X6_turn_62, r_X6_turn_63, r_X6_turn_64, r_X6_turn_67, r_X6_turn_68, r_X6_turn_71, r_X6_turn_74, r_X6_turn_78, r_X6_turn_79, r_X6_turn_80, hv_okQ_iff, and_self]
        · simp only [hv_drop_i, hv_drop_r, hv_drop_n, hv_drop_a, hv_rf_some, r_X7_turn_0, r_X7_turn_1, r_X7_turn_5, r_X7_turn_8, r_X7_turn_9, r_X7_turn_10, r_X7_turn_14, r_X7_turn_17, r_X7_turn_18, r_X7_turn_19, r_X7_turn_23, r_X7_turn_24, r_X7_turn_27, r_X7_turn_28, r_X7_turn_31, r_X7_turn_32, r_X7_turn_33, r_X7_turn_34, r_X7_turn_35, r_X7_turn_38, r_X7_turn_39, r_X7_turn_40, r_X7_turn_43, r_X7_turn_44, r_X7_turn_47, r_X7_turn_48, r_X7_turn_49, r_X7_turn_52, r_X7_turn_53, r_X7_turn_57]
          refine k_X7_turn_2 kd67 (isTurn_ok (d := 1) (by omega) _) ?_
          rw [hM.1, hb2]
          simp only [hv_drop_i, hv_drop_r, hv_drop_n, hv_drop_a, hv_rf_some, r_X7_turn_0, r_X7_turn_1, r_X7_turn_5, r_X7_turn_8, r_X7_turn_9, r_X7_turn_10, r_X7_turn_14, r_X7_turn_17, r_X7_turn_18, r_X7_turn_19, r_X7_turn_23, r_X7_turn_24, r_X7_turn_27, r_X7_turn_28, r_X7_turn_31, r_X7_turn_32, r_X7_turn_33, r_X7_turn_34, r_X7_turn_35, r_X7_turn_38, r_X7_turn_39, r_X7_turn_40, r_X7_turn_43, r_X7_turn_44, r_X7_turn_47, r_X7_turn_48, r_X7_turn_49, r_X7_turn_52, r_X7_turn_53, r_X7_turn_57, i10, if_false]
          refine k_X7_turn_11 (in_ok (d := 0) _ _ _) ?_
          rw [hin]
          simp only [hv_drop_i, hv_drop_r, hv_drop_n, hv_drop_a, hv_rf_some, r_X7_turn_0, r_X7_turn_1, r_X7_turn_5, r_X7_turn_8, r_X7_turn_9, r_X7_turn_10, r_X7_turn_14, r_X7_turn_17, r_X7_turn_18, r_X7_turn_19, r_X7_turn_23, r_X7_turn_24, r_X7_turn_27, r_X7_turn_28, r_X7_turn_31, r_X7_turn_32, r_X7_turn_33, r_X7_turn_34, r_X7_turn_35, r_X7_turn_38, r_X7_turn_39, r_X7_turn_40, r_X7_turn_43, r_X7_turn_44, r_X7_turn_47, r_X7_turn_48, r_X7_turn_49, r_X7_turn_52, r_X7_turn_53, r_X7_turn_57, i10, ne_eq, not_false_eq_true, if_true]
          refine k_X7_turn_20 kd67 (isNow_ok (d := 0)) ?_
          have hM' : TM T (nowM I 6) := TM_congr (fun j => by simp [nowM]) hM
          simp only [hv_drop_i, hv_drop_r, hv_drop_n, hv_drop_a, hv_rf_some, r_X7_turn_0, r_X7_turn_1, r_X7_turn_5, r_X7_turn_8, r_X7_turn_9, r_X7_turn_10, r_X7_turn_14, r_X7_turn_17, r_X7_turn_18, r_X7_turn_19, r_X7_turn_23, r_X7_turn_24, r_X7_turn_27, r_X7_turn_28, r_X7_turn_31, r_X7_turn_32, r_X7_turn_33, r_X7_turn_34, r_X7_turn_35, r_X7_turn_38, r_X7_turn_39, r_X7_turn_40, r_X7_turn_43, r_X7_turn_44, r_X7_turn_47, r_X7_turn_48, r_X7_turn_49, r_X7_turn_52, r_X7_turn_53, r_X7_turn_57, show ¬ nI 2 = 0 by decide, ne_eq, not_false_eq_true, if_true, show ¬ nI 2 = 1 by decide]
          refine k_X7_turn_54 kd67 (joyAt_T (d := 1) (by omega) hT hM' (nowM_W hT ws) ht) ?_
          simp only [hv_drop_i, hv_drop_r, hv_drop_n, hv_drop_a, hv_rf_some, r_X7_turn_0, r_X7_turn_1, r_X7_turn_5, r_X7_turn_8, r_X7_turn_9, r_X7_turn_10, r_X7_turn_14, r_X7_turn_17, r_X7_turn_18, r_X7_turn_19, r_X7_turn_23, r_X7_turn_24, r_X7_turn_27, r_X7_turn_28, r_X7_turn_31, r_X7_turn_32, r_X7_turn_33, r_X7_turn_34, r_X7_turn_35, r_X7_turn_38, r_X7_turn_39, r_X7_turn_40, r_X7_turn_43, r_X7_turn_44, r_X7_turn_47, r_X7_turn_48, r_X7_turn_49, r_X7_turn_52, r_X7_turn_53, r_X7_turn_57, hv_okQ_iff, and_self]
    · have hin : b01 (0 ≤ x ∧ x ≤ 2) = 0 := b01_f (fun q => by
        have h1 := i_le.mp q.1
        have h2 := i_le.mp q.2
        rw [Int32.toInt_zero] at h1
        have h3 : (2 : Int32).toInt = 2 := by decide
        rw [h3] at h2
        omega)
      refine ⟨I, I, L, L, τ, -1, o_X6_turn ?_, o_X7_turn ?_, hR0⟩
      · simp only [hv_drop_i, hv_drop_r, hv_drop_n, hv_drop_a, hv_rf_some, r_X6_turn_0, r_X6_turn_1, r_X6_turn_4, r_X6_turn_8, r_X6_turn_11, r_X6_turn_12, r_X6_turn_13, r_X6_turn_40, r_X6_turn_41, r_X6_turn_44, r_X6_turn_47, r_X6_turn_48, r_X6_turn_49, r_X6_turn_50, r_X6_turn_51, r_X6_turn_54, r_X6_turn_57, r_X6_turn_58, r_X6_turn_62, r_X6_turn_63, r_X6_turn_64, r_X6_turn_67, r_X6_turn_68, r_X6_turn_71, r_X6_turn_74, r_X6_turn_78, r_X6_turn_79, r_X6_turn_80, kd0, true_and, pp0_1]
        refine k_X6_turn_5 hk (hasTurn_ok (d := 0) hp _) ?_
        rw [hC.1, hb1]
        simp only [hv_drop_i, hv_drop_r, hv_drop_n, hv_drop_a, hv_rf_some, r_X6_turn_0, r_X6_turn_1, r_X6_turn_4, r_X6_turn_8, r_X6_turn_11, r_X6_turn_12, r_X6_turn_13, r_X6_turn_40, r_X6_turn_41, r_X6_turn_44, r_X6_turn_47, r_X6_turn_48, r_X6_turn_49, r_X6_turn_50, r_X6_turn_51, r_X6_turn_54, r_X6_turn_57, r_X6_turn_58, r_X6_turn_62, r_X6_turn_63, r_X6_turn_64, r_X6_turn_67, r_X6_turn_68, r_X6_turn_71, r_X6_turn_74, r_X6_turn_78, r_X6_turn_79, r_X6_turn_80, show (1 : Int32) ≠ 0 by decide, ne_eq, not_false_eq_true, if_true, r_X6_turn_14_out h, hv_okQ_iff, and_self]
      · simp only [hv_drop_i, hv_drop_r, hv_drop_n, hv_drop_a, hv_rf_some, r_X7_turn_0, r_X7_turn_1, r_X7_turn_5, r_X7_turn_8, r_X7_turn_9, r_X7_turn_10, r_X7_turn_14, r_X7_turn_17, r_X7_turn_18, r_X7_turn_19, r_X7_turn_23, r_X7_turn_24, r_X7_turn_27, r_X7_turn_28, r_X7_turn_31, r_X7_turn_32, r_X7_turn_33, r_X7_turn_34, r_X7_turn_35, r_X7_turn_38, r_X7_turn_39, r_X7_turn_40, r_X7_turn_43, r_X7_turn_44, r_X7_turn_47, r_X7_turn_48, r_X7_turn_49, r_X7_turn_52, r_X7_turn_53, r_X7_turn_57]
        refine k_X7_turn_2 kd67 (isTurn_ok (d := 1) (by omega) _) ?_
        rw [hM.1, hb2]
        simp only [hv_drop_i, hv_drop_r, hv_drop_n, hv_drop_a, hv_rf_some, r_X7_turn_0, r_X7_turn_1, r_X7_turn_5, r_X7_turn_8, r_X7_turn_9, r_X7_turn_10, r_X7_turn_14, r_X7_turn_17, r_X7_turn_18, r_X7_turn_19, r_X7_turn_23, r_X7_turn_24, r_X7_turn_27, r_X7_turn_28, r_X7_turn_31, r_X7_turn_32, r_X7_turn_33, r_X7_turn_34, r_X7_turn_35, r_X7_turn_38, r_X7_turn_39, r_X7_turn_40, r_X7_turn_43, r_X7_turn_44, r_X7_turn_47, r_X7_turn_48, r_X7_turn_49, r_X7_turn_52, r_X7_turn_53, r_X7_turn_57, i10, if_false]
        refine k_X7_turn_11 (in_ok (d := 0) _ _ _) ?_
        rw [hin]
        simp only [hv_drop_i, hv_drop_r, hv_drop_n, hv_drop_a, hv_rf_some, r_X7_turn_0, r_X7_turn_1, r_X7_turn_5, r_X7_turn_8, r_X7_turn_9, r_X7_turn_10, r_X7_turn_14, r_X7_turn_17, r_X7_turn_18, r_X7_turn_19, r_X7_turn_23, r_X7_turn_24, r_X7_turn_27, r_X7_turn_28, r_X7_turn_31, r_X7_turn_32, r_X7_turn_33, r_X7_turn_34, r_X7_turn_35, r_X7_turn_38, r_X7_turn_39, r_X7_turn_40, r_X7_turn_43, r_X7_turn_44, r_X7_turn_47, r_X7_turn_48, r_X7_turn_49, r_X7_turn_52, r_X7_turn_53, r_X7_turn_57, ne_eq, not_true_eq_false, if_false, hv_okQ_iff, and_self]
  · refine ⟨I, I, L, L, τ, -1, o_X6_turn ?_, o_X7_turn ?_, hR0⟩
    · simp only [hv_drop_i, hv_drop_r, hv_drop_n, hv_drop_a, hv_rf_some, r_X6_turn_0, r_X6_turn_1, r_X6_turn_4, r_X6_turn_8, r_X6_turn_11, r_X6_turn_12, r_X6_turn_13, r_X6_turn_40, r_X6_turn_41, r_X6_turn_44, r_X6_turn_47, r_X6_turn_48, r_X6_turn_49, r_X6_turn_50, r_X6_turn_51, r_X6_turn_54, r_X6_turn_57, r_X6_turn_58, r_X6_turn_62, r_X6_turn_63, r_X6_turn_64, r_X6_turn_67, r_X6_turn_68, r_X6_turn_71, r_X6_turn_74, r_X6_turn_78, r_X6_turn_79, r_X6_turn_80, kd0, true_and, pp0_1]
      refine k_X6_turn_5 hk (hasTurn_ok (d := 0) hp _) ?_
      rw [hC.1, hb1]
      simp only [hv_drop_i, hv_drop_r, hv_drop_n, hv_drop_a, hv_rf_some, r_X6_turn_0, r_X6_turn_1, r_X6_turn_4, r_X6_turn_8, r_X6_turn_11, r_X6_turn_12, r_X6_turn_13, r_X6_turn_40, r_X6_turn_41, r_X6_turn_44, r_X6_turn_47, r_X6_turn_48, r_X6_turn_49, r_X6_turn_50, r_X6_turn_51, r_X6_turn_54, r_X6_turn_57, r_X6_turn_58, r_X6_turn_62, r_X6_turn_63, r_X6_turn_64, r_X6_turn_67, r_X6_turn_68, r_X6_turn_71, r_X6_turn_74, r_X6_turn_78, r_X6_turn_79, r_X6_turn_80, ne_eq, not_true_eq_false, if_false, hv_okQ_iff, and_self]
    · simp only [hv_drop_i, hv_drop_r, hv_drop_n, hv_drop_a, hv_rf_some, r_X7_turn_0, r_X7_turn_1, r_X7_turn_5, r_X7_turn_8, r_X7_turn_9, r_X7_turn_10, r_X7_turn_14, r_X7_turn_17, r_X7_turn_18, r_X7_turn_19, r_X7_turn_23, r_X7_turn_24, r_X7_turn_27, r_X7_turn_28, r_X7_turn_31, r_X7_turn_32, r_X7_turn_33, r_X7_turn_34, r_X7_turn_35, r_X7_turn_38, r_X7_turn_39, r_X7_turn_40, r_X7_turn_43, r_X7_turn_44, r_X7_turn_47, r_X7_turn_48, r_X7_turn_49, r_X7_turn_52, r_X7_turn_53, r_X7_turn_57]
      refine k_X7_turn_2 kd67 (isTurn_ok (d := 1) (by omega) _) ?_
      rw [hM.1, hb2]
      simp only [hv_drop_i, hv_drop_r, hv_drop_n, hv_drop_a, hv_rf_some, r_X7_turn_0, r_X7_turn_1, r_X7_turn_5, r_X7_turn_8, r_X7_turn_9, r_X7_turn_10, r_X7_turn_14, r_X7_turn_17, r_X7_turn_18, r_X7_turn_19, r_X7_turn_23, r_X7_turn_24, r_X7_turn_27, r_X7_turn_28, r_X7_turn_31, r_X7_turn_32, r_X7_turn_33, r_X7_turn_34, r_X7_turn_35, r_X7_turn_38, r_X7_turn_39, r_X7_turn_40, r_X7_turn_43, r_X7_turn_44, r_X7_turn_47, r_X7_turn_48, r_X7_turn_49, r_X7_turn_52, r_X7_turn_53, r_X7_turn_57, if_true, hv_okQ_iff, and_self]
end API2
