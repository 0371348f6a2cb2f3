/-! ===== HermitDues$Told ===== -/
theorem c_0 : (0 : Int32).toNatClampNeg = 0 := by decide
theorem c_1 : (1 : Int32).toNatClampNeg = 1 := by decide
theorem c_2 : (2 : Int32).toNatClampNeg = 2 := by decide
theorem c_3 : (3 : Int32).toNatClampNeg = 3 := by decide
theorem c_4 : (4 : Int32).toNatClampNeg = 4 := by decide
theorem n_0 : (0 : Int32) = nI 0 := by decide
theorem n_1 : (1 : Int32) = nI 1 := by decide
theorem n_2 : (2 : Int32) = nI 2 := by decide
def b01 (c : Prop) [Decidable c] : Int32 := if c then 1 else 0
theorem b01_t {c : Prop} [Decidable c] (h : c) : b01 c = 1 := if_pos h
theorem b01_f {c : Prop} [Decidable c] (h : ¬ c) : b01 c = 0 := if_neg h
theorem i10 : ¬ (1 : Int32) = 0 := by decide
theorem i_ok {v w : Int32} (h : v = w) : (some (Value.int v) : Option Value) = some (Value.int w) ∧ True := by rw [h]; exact ⟨rfl, trivial⟩
section TOLD
variable {xs : hv_X} {I : hI} {L : hL} {τ : Bool} {p : Nat} {T : TD}
theorem kdT (hp : p = 3 ∨ p = 11) : hv_kd hS p = some 4 := by rcases hp with rfl | rfl <;> rfl
theorem ppT0 (hp : p = 3 ∨ p = 11) : hv_PP τ p 0 = some (p + 1) := by rcases hp with rfl | rfl <;> rfl
theorem ppT2 (hp : p = 3 ∨ p = 11) : hv_PP τ p 2 = some (p + 2) := by rcases hp with rfl | rfl <;> rfl
theorem ppTr (hp : p = 3 ∨ p = 11) {f : Nat} (hf : f < 5) : hv_PP τ (p + 2) f = some (p + 3 + f) := by rcases hp with rfl | rfl <;> simp [hv_PP, hf]
theorem lnT1 (hp : p = 3 ∨ p = 11) : hv_ln hS (p + 1) 10 = 6 := by rcases hp with rfl | rfl <;> rfl
theorem lnT2 (hp : p = 3 ∨ p = 11) : hv_ln hS (p + 2) 12 = 5 := by rcases hp with rfl | rfl <;> rfl
theorem lnTr (hp : p = 3 ∨ p = 11) {f : Nat} (hf : f < 5) : hv_ln hS (p + 3 + f) 10 = 5 := by
  have : f = 0 ∨ f = 1 ∨ f = 2 ∨ f = 3 ∨ f = 4 := by omega
  rcases hp with rfl | rfl <;> rcases this with rfl | rfl | rfl | rfl | rfl <;> rfl
theorem hasTurn_ok {d : Nat} (hp : p = 3 ∨ p = 11) (v : Int32) : hv_Ok xs d yX4_hasTurn [.ref p, .int v] hv_SH (I, L, hv_PP τ) (some (.int (b01 (¬ v < 0 ∧ v < I p 1)))) (I, L, hv_PP τ) := by
  apply o_X4_hasTurn
  simp only [hv_drop_i, hv_drop_r, hv_drop_n, hv_drop_a, hv_rf_some, r_X4_hasTurn_0, r_X4_hasTurn_1, r_X4_hasTurn_4, r_X4_hasTurn_5, r_X4_hasTurn_6, r_X4_hasTurn_9, r_X4_hasTurn_12, r_X4_hasTurn_13, r_X4_hasTurn_16, r_X4_hasTurn_17, kdT hp, true_and, hv_okQ_iff]
  by_cases h1 : v < 0
  · simp [h1, b01]
  · by_cases h2 : I p 1 ≤ v
    · have h3 : ¬ v < I p 1 := Int32.not_lt.mpr h2
      simp [h1, h2, h3, b01]
    · have h3 : v < I p 1 := Int32.not_le.mp h2
      simp [h1, h2, h3, b01]
theorem hasFamily_ok {d : Nat} (hp : p = 3 ∨ p = 11) (v : Int32) : hv_Ok xs d yX4_hasFamily [.ref p, .int v] hv_SH (I, L, hv_PP τ) (some (.int (b01 (¬ v < 0 ∧ v < I p 3)))) (I, L, hv_PP τ) := by
  apply o_X4_hasFamily
  simp only [hv_drop_i, hv_drop_r, hv_drop_n, hv_drop_a, hv_rf_some, r_X4_hasFamily_0, r_X4_hasFamily_1, r_X4_hasFamily_4, r_X4_hasFamily_5, r_X4_hasFamily_6, r_X4_hasFamily_9, r_X4_hasFamily_12, r_X4_hasFamily_13, r_X4_hasFamily_16, r_X4_hasFamily_17, kdT hp, true_and, hv_okQ_iff]
  by_cases h1 : v < 0
  · simp [h1, b01]
  · by_cases h2 : I p 3 ≤ v
    · have h3 : ¬ v < I p 3 := Int32.not_lt.mpr h2
      simp [h1, h2, h3, b01]
    · have h3 : v < I p 3 := Int32.not_le.mp h2
      simp [h1, h2, h3, b01]
theorem isWinter_ok {d : Nat} (hp : p = 3 ∨ p = 11) {t : Nat} (ht : t < 6) : hv_Ok xs d yX4_isWinter [.ref p, .int (nI t)] hv_SH (I, L, hv_PP τ) (some (.int (b01 (I (p + 1) t = 2)))) (I, L, hv_PP τ) := by
  apply o_X4_isWinter
  simp only [hv_drop_i, hv_drop_r, hv_drop_n, hv_drop_a, hv_rf_some, r_X4_isWinter_0, r_X4_isWinter_1, r_X4_isWinter_4, r_X4_isWinter_5, r_X4_isWinter_6, r_X4_isWinter_7, r_X4_isWinter_10, r_X4_isWinter_11, r_X4_isWinter_14, r_X4_isWinter_15, kdT hp, true_and, hv_okQ_iff, ppT0 hp, lnT1 hp, hv_ix_nI ht (by decide), nI_clamp (n := t) (by omega)]
  by_cases h1 : I (p + 1) t = 2 <;> simp [h1, b01]
theorem isWinter_T {d : Nat} (hT : tOk T) (hC : TC T I p) (hp : p = 3 ∨ p = 11) {t : Nat} (ht : t < tN T) : hv_Ok xs d yX4_isWinter [.ref p, .int (nI t)] hv_SH (I, L, hv_PP τ) (some (.int (b01 (tS T t = 2)))) (I, L, hv_PP τ) := by
  have h := isWinter_ok (xs := xs) (I := I) (L := L) (τ := τ) (d := d) hp (show t < 6 by have := hT.1; omega)
  have e : b01 (I (p + 1) t = 2) = b01 (tS T t = 2) := by
    have h2 := hT.2.2.1 t ht
    unfold b01
    rw [hC.2.2.2.1 t ht, n_2]
    by_cases hs : tS T t = 2
    · rw [hs]; simp
    · rw [if_neg hs, if_neg]
      rw [nI_eq (by omega) (by omega)]
      exact hs
  rw [e] at h
  exact h
theorem lastWho_T {d : Nat} (hd : 1 ≤ d) (hT : tOk T) (hC : TC T I p) (hp : p = 3 ∨ p = 11) {t : Nat} (ht : t < tN T) : hv_Ok xs d yX4_lastWhoMayBe [.ref p, .int (nI t)] hv_SH (I, L, hv_PP τ) (some (.int (cW (if tS T t = 2 then 0 else tF T)))) (I, L, hv_PP τ) := by
  apply o_X4_lastWhoMayBe
  simp only [hv_drop_i, hv_drop_r, hv_drop_n, hv_drop_a, hv_rf_some, r_X4_lastWhoMayBe_0, r_X4_lastWhoMayBe_1, r_X4_lastWhoMayBe_5, r_X4_lastWhoMayBe_8, r_X4_lastWhoMayBe_9, r_X4_lastWhoMayBe_12, r_X4_lastWhoMayBe_13, r_X4_lastWhoMayBe_16, r_X4_lastWhoMayBe_17, r_X4_lastWhoMayBe_18]
  refine k_X4_lastWhoMayBe_2 (kdT hp) (isWinter_T (d := 0) hT hC hp ht) ?_
  by_cases hs : tS T t = 2
  · simp only [hv_drop_i, hv_drop_r, hv_drop_n, hv_drop_a, hv_rf_some, r_X4_lastWhoMayBe_0, r_X4_lastWhoMayBe_1, r_X4_lastWhoMayBe_5, r_X4_lastWhoMayBe_8, r_X4_lastWhoMayBe_9, r_X4_lastWhoMayBe_12, r_X4_lastWhoMayBe_13, r_X4_lastWhoMayBe_16, r_X4_lastWhoMayBe_17, r_X4_lastWhoMayBe_18, kdT hp, true_and, hv_okQ_iff, b01_t hs, i10, if_false, if_pos hs]
    exact i_ok cW_0.symm
  · simp only [hv_drop_i, hv_drop_r, hv_drop_n, hv_drop_a, hv_rf_some, r_X4_lastWhoMayBe_0, r_X4_lastWhoMayBe_1, r_X4_lastWhoMayBe_5, r_X4_lastWhoMayBe_8, r_X4_lastWhoMayBe_9, r_X4_lastWhoMayBe_12, r_X4_lastWhoMayBe_13, r_X4_lastWhoMayBe_16, r_X4_lastWhoMayBe_17, r_X4_lastWhoMayBe_18, kdT hp, true_and, hv_okQ_iff, b01_f hs, if_true, if_neg hs, hC.2.1]
    exact i_ok rfl
theorem joy_T {d : Nat} (hd : 1 ≤ d) (hT : tOk T) (hC : TC T I p) (hp : p = 3 ∨ p = 11) {t a b : Nat} (ht : t < tN T) (ha : a ≤ tF T) (hb : b ≤ tF T) : hv_Ok xs d yX4_joy [.ref p, .int (nI t), .int (cW a), .int (cW b)] hv_SH (I, L, hv_PP τ) (some (.int (nI (jy1 T t a b)))) (I, L, hv_PP τ) := by
  have h6 : t < 6 := by have := hT.1; omega
  have hF := hT.2.1
  apply o_X4_joy
  simp only [hv_drop_i, hv_drop_r, hv_drop_n, hv_drop_a, hv_rf_some, r_X4_joy_0, r_X4_joy_1, r_X4_joy_5, r_X4_joy_8, r_X4_joy_9, r_X4_joy_13, r_X4_joy_16, r_X4_joy_17, r_X4_joy_18, r_X4_joy_19, r_X4_joy_22, r_X4_joy_23, r_X4_joy_24, r_X4_joy_25, r_X4_joy_28, r_X4_joy_29, r_X4_joy_30, r_X4_joy_33, r_X4_joy_34, r_X4_joy_37, r_X4_joy_38, r_X4_joy_39, r_X4_joy_41, r_X4_joy_42, r_X4_joy_43, r_X4_joy_46, r_X4_joy_48, r_X4_joy_49, r_X4_joy_50, r_X4_joy_53, r_X4_joy_55]
  refine k_X4_joy_2 (kdT hp) (hasFamily_ok (d := 0) hp _) ?_
  cases a with
  | zero =>
    rw [b01_f (by rw [cW_0]; exact fun h => h.1 (by decide))]
    simp only [hv_drop_i, hv_drop_r, hv_drop_n, hv_drop_a, hv_rf_some, r_X4_joy_0, r_X4_joy_1, r_X4_joy_5, r_X4_joy_8, r_X4_joy_9, r_X4_joy_13, r_X4_joy_16, r_X4_joy_17, r_X4_joy_18, r_X4_joy_19, r_X4_joy_22, r_X4_joy_23, r_X4_joy_24, r_X4_joy_25, r_X4_joy_28, r_X4_joy_29, r_X4_joy_30, r_X4_joy_33, r_X4_joy_34, r_X4_joy_37, r_X4_joy_38, r_X4_joy_39, r_X4_joy_41, r_X4_joy_42, r_X4_joy_43, r_X4_joy_46, r_X4_joy_48, r_X4_joy_49, r_X4_joy_50, r_X4_joy_53, r_X4_joy_55, if_true, hv_okQ_iff]
    refine i_ok ?_
    simp [jy1]
    decide
  | succ k =>
    have hk : k < tF T := by omega
    rw [b01_t (by rw [cW_s, hC.2.1]; exact ⟨nI_pos (by omega), nI_lt hk (by omega)⟩)]
    simp only [hv_drop_i, hv_drop_r, hv_drop_n, hv_drop_a, hv_rf_some, r_X4_joy_0, r_X4_joy_1, r_X4_joy_5, r_X4_joy_8, r_X4_joy_9, r_X4_joy_13, r_X4_joy_16, r_X4_joy_17, r_X4_joy_18, r_X4_joy_19, r_X4_joy_22, r_X4_joy_23, r_X4_joy_24, r_X4_joy_25, r_X4_joy_28, r_X4_joy_29, r_X4_joy_30, r_X4_joy_33, r_X4_joy_34, r_X4_joy_37, r_X4_joy_38, r_X4_joy_39, r_X4_joy_41, r_X4_joy_42, r_X4_joy_43, r_X4_joy_46, r_X4_joy_48, r_X4_joy_49, r_X4_joy_50, r_X4_joy_53, r_X4_joy_55, i10, if_false]
    refine k_X4_joy_10 (kdT hp) (isWinter_T (d := 0) hT hC hp ht) ?_
    by_cases hs : tS T t = 2
    · rw [b01_t hs]
      simp only [hv_drop_i, hv_drop_r, hv_drop_n, hv_drop_a, hv_rf_some, r_X4_joy_0, r_X4_joy_1, r_X4_joy_5, r_X4_joy_8, r_X4_joy_9, r_X4_joy_13, r_X4_joy_16, r_X4_joy_17, r_X4_joy_18, r_X4_joy_19, r_X4_joy_22, r_X4_joy_23, r_X4_joy_24, r_X4_joy_25, r_X4_joy_28, r_X4_joy_29, r_X4_joy_30, r_X4_joy_33, r_X4_joy_34, r_X4_joy_37, r_X4_joy_38, r_X4_joy_39, r_X4_joy_41, r_X4_joy_42, r_X4_joy_43, r_X4_joy_46, r_X4_joy_48, r_X4_joy_49, r_X4_joy_50, r_X4_joy_53, r_X4_joy_55, i10, if_false, hv_okQ_iff]
      refine i_ok ?_
      simp [jy1, hs]
      decide
    · rw [b01_f hs]
      have hq := hT.2.2.2.1 k hk
      have hQ : ∀ i, i < 5 → I (p + 3 + k) i = nI (tQ T k i) := fun i hi => hC.2.2.2.2 k i hk hi
      simp only [hv_drop_i, hv_drop_r, hv_drop_n, hv_drop_a, hv_rf_some, r_X4_joy_0, r_X4_joy_1, r_X4_joy_5, r_X4_joy_8, r_X4_joy_9, r_X4_joy_13, r_X4_joy_16, r_X4_joy_17, r_X4_joy_18, r_X4_joy_19, r_X4_joy_22, r_X4_joy_23, r_X4_joy_24, r_X4_joy_25, r_X4_joy_28, r_X4_joy_29, r_X4_joy_30, r_X4_joy_33, r_X4_joy_34, r_X4_joy_37, r_X4_joy_38, r_X4_joy_39, r_X4_joy_41, r_X4_joy_42, r_X4_joy_43, r_X4_joy_46, r_X4_joy_48, r_X4_joy_49, r_X4_joy_50, r_X4_joy_53, r_X4_joy_55, if_true, kdT hp, true_and, ppT2 hp, ppT0 hp, lnT2 hp, lnT1 hp, cW_s, hv_ix_nI (show k < 5 by omega) (by decide), true_or, nI_clamp (n := k) (by omega), ppTr hp (show k < 5 by omega), hv_ix_nI h6 (by decide), nI_clamp (n := t) (by omega), hC.2.2.2.1 t ht, lnTr hp (show k < 5 by omega), c_0, c_1, hQ 0 (by omega), hQ 1 (by omega), show hv_ix 0 5 = true by decide, show hv_ix 1 5 = true by decide, show ¬ (2 : Int32) = 0 by decide, hv_okQ_iff]
      have e1 : nI (tS T t) = 0 ↔ tS T t = 0 := by
        have h2 := hT.2.2.1 t ht
        rw [n_0, nI_eq (by omega) (by omega)]
      have e2 : nI k = cW b ↔ k + 1 = b := by rw [← cW_s, cW_inj (by omega) (by omega)]
      have e3 : ∀ q, q ≤ 20 → nI q / 2 = nI (q / 2) := fun q h => by rw [n_2, pk_div (by omega) (by omega) (by omega)]
      simp only [e1, e2, ne_eq, show ¬ (2 : Int32) = 0 by decide, not_false_iff, true_and, e3 _ hq.1, e3 _ hq.2.1]
      unfold jy1
      by_cases h2 : k + 1 = b
      · subst h2
        by_cases h1 : tS T t = 0 <;> simp [h1, hs]
      · by_cases h1 : tS T t = 0 <;> simp [h1, h2, hs]
theorem aheadOf_ok {d : Nat} {q : Nat} (hq : hv_ln hS q 10 = 6) {t : Nat} (ht : t < 6) : hv_Ok xs d yX4_aheadOf [.ref q, .int (nI t)] hv_SH (I, L, hv_PP τ) (some (.int (if 0 < t then I q (t - 1) else -1))) (I, L, hv_PP τ) := by
  apply o_X4_aheadOf
  cases t with
  | zero =>
    simp only [hv_drop_i, hv_drop_r, hv_drop_n, hv_drop_a, hv_rf_some, r_X4_aheadOf_0, r_X4_aheadOf_1, r_X4_aheadOf_4, r_X4_aheadOf_5, r_X4_aheadOf_6, r_X4_aheadOf_7, r_X4_aheadOf_8, r_X4_aheadOf_9, r_X4_aheadOf_12, r_X4_aheadOf_13, show nI 0 ≤ 0 by decide, if_true, hv_okQ_iff]
    exact i_ok rfl
  | succ t =>
    simp only [hv_drop_i, hv_drop_r, hv_drop_n, hv_drop_a, hv_rf_some, r_X4_aheadOf_0, r_X4_aheadOf_1, r_X4_aheadOf_4, r_X4_aheadOf_5, r_X4_aheadOf_6, r_X4_aheadOf_7, r_X4_aheadOf_8, r_X4_aheadOf_9, r_X4_aheadOf_12, r_X4_aheadOf_13, nI_nle (n := t + 1) (by omega) (by omega), if_false, hv_okQ_iff, nI_pred, hq, hv_ix_nI (show t < 6 by omega) (by decide), nI_clamp (n := t) (by omega), true_and]
    exact i_ok (by simp)
/-- who is IT by a row of six -/
def WC (T : TD) (I : hI) (q : Nat) (w : Nat → Nat) : Prop := hv_kd hS q = some 10 ∧ hv_ln hS q 10 = 6 ∧ (∀ t, t < 6 → I q t = cW (w t)) ∧ ∀ t, w t ≤ tF T
theorem joyOfTurn_T {d : Nat} (hd : 2 ≤ d) (hT : tOk T) (hC : TC T I p) (hp : p = 3 ∨ p = 11) {q t : Nat} {w : Nat → Nat} (hw : WC T I q w) (ht : t < tN T) : hv_Ok xs d yX4_joyOfTurn [.ref p, .ref q, .int (nI t)] hv_SH (I, L, hv_PP τ) (some (.int (nI (jy T w t)))) (I, L, hv_PP τ) := by
  have h6 : t < 6 := by have := hT.1; omega
  apply o_X4_joyOfTurn
  simp only [hv_drop_i, hv_drop_r, hv_drop_n, hv_drop_a, hv_rf_some, r_X4_joyOfTurn_0, r_X4_joyOfTurn_1, r_X4_joyOfTurn_2, r_X4_joyOfTurn_3, r_X4_joyOfTurn_4, r_X4_joyOfTurn_5, r_X4_joyOfTurn_6, r_X4_joyOfTurn_13, hw.2.1, hv_ix_nI h6 (by decide), nI_clamp (n := t) (by omega), true_and, hw.2.2.1 t h6]
  refine k_X4_joyOfTurn_7 (aheadOf_ok (d := 0) hw.2.1 h6) ?_
  have e : (if 0 < t then I q (t - 1) else -1) = cW (jyB w t) := by
    unfold jyB
    by_cases h : 0 < t
    · rw [if_pos h, if_pos h, hw.2.2.1 _ (by omega)]
    · rw [if_neg h, if_neg h, cW_0]
  rw [e]
  refine k_X4_joyOfTurn_10 (kdT hp) (joy_T (d := 1) (by omega) hT hC hp ht (hw.2.2.2 t) (b := jyB w t) (by unfold jyB; split; exact hw.2.2.2 _; omega)) ?_
  simp only [hv_drop_i, hv_drop_r, hv_drop_n, hv_drop_a, hv_rf_some, r_X4_joyOfTurn_0, r_X4_joyOfTurn_1, r_X4_joyOfTurn_2, r_X4_joyOfTurn_3, r_X4_joyOfTurn_4, r_X4_joyOfTurn_5, r_X4_joyOfTurn_6, r_X4_joyOfTurn_13, hv_okQ_iff]
  exact i_ok rfl
theorem joyOfAll_T {d : Nat} (hd : 3 ≤ d) (hT : tOk T) (hC : TC T I p) (hp : p = 3 ∨ p = 11) {q : Nat} {w : Nat → Nat} (hw : WC T I q w) : hv_Ok xs d yX4_joyOfAll [.ref p, .ref q] hv_SH (I, L, hv_PP τ) (some (.int (nI (jyA T w)))) (I, L, hv_PP τ) := by
  have h6 := hT.1
  apply o_X4_joyOfAll
  simp only [hv_drop_i, hv_drop_r, hv_drop_n, hv_drop_a, hv_rf_some, r_X4_joyOfAll_0, r_X4_joyOfAll_1, r_X4_joyOfAll_2, r_X4_joyOfAll_3, r_X4_joyOfAll_5, r_X4_joyOfAll_6, r_X4_joyOfAll_9, r_X4_joyOfAll_12, r_X4_joyOfAll_13, r_X4_joyOfAll_14, r_X4_joyOfAll_15, r_X4_joyOfAll_19, r_X4_joyOfAll_20, r_X4_joyOfAll_21, r_X4_joyOfAll_24, r_X4_joyOfAll_27, r_X4_joyOfAll_28]
  have key : ∀ k t, t + k = tN T → P_X4_joyOfAll xs d (hv_okQ (some (.int (nI (jyA T w)))) hv_SH (I, L, hv_PP τ)) 4 [some (.ref p), some (.ref q), some (.int (nI (sumN (jy T w) t))), some (.int (nI t))] [] (hv_SH, 0, 0) (I, L, hv_PP τ) := by
    intro k
    induction k with
    | zero =>
      intro t ht
      have : t = tN T := by omega
      subst this
      rw [r_X4_joyOfAll_4]
      simp only [hv_drop_i, hv_drop_r, hv_drop_n, hv_drop_a, hv_rf_some, r_X4_joyOfAll_0, r_X4_joyOfAll_1, r_X4_joyOfAll_2, r_X4_joyOfAll_3, r_X4_joyOfAll_5, r_X4_joyOfAll_6, r_X4_joyOfAll_9, r_X4_joyOfAll_12, r_X4_joyOfAll_13, r_X4_joyOfAll_14, r_X4_joyOfAll_15, r_X4_joyOfAll_19, r_X4_joyOfAll_20, r_X4_joyOfAll_21, r_X4_joyOfAll_24, r_X4_joyOfAll_27, r_X4_joyOfAll_28, kdT hp, true_and, hC.1, Int32.le_refl, if_true, hv_okQ_iff]
      exact i_ok rfl
    | succ k ih =>
      intro t ht
      rw [r_X4_joyOfAll_4]
      simp only [hv_drop_i, hv_drop_r, hv_drop_n, hv_drop_a, hv_rf_some, r_X4_joyOfAll_0, r_X4_joyOfAll_1, r_X4_joyOfAll_2, r_X4_joyOfAll_3, r_X4_joyOfAll_5, r_X4_joyOfAll_6, r_X4_joyOfAll_9, r_X4_joyOfAll_12, r_X4_joyOfAll_13, r_X4_joyOfAll_14, r_X4_joyOfAll_15, r_X4_joyOfAll_19, r_X4_joyOfAll_20, r_X4_joyOfAll_21, r_X4_joyOfAll_24, r_X4_joyOfAll_27, r_X4_joyOfAll_28, kdT hp, true_and, hC.1, nI_ge (show t < tN T by omega) (by omega), if_false]
      refine k_X4_joyOfAll_16 (kdT hp) (joyOfTurn_T (d := 2) (by omega) hT hC hp hw (by omega)) ?_
      simp only [hv_drop_i, hv_drop_r, hv_drop_n, hv_drop_a, hv_rf_some, r_X4_joyOfAll_0, r_X4_joyOfAll_1, r_X4_joyOfAll_2, r_X4_joyOfAll_3, r_X4_joyOfAll_5, r_X4_joyOfAll_6, r_X4_joyOfAll_9, r_X4_joyOfAll_12, r_X4_joyOfAll_13, r_X4_joyOfAll_14, r_X4_joyOfAll_15, r_X4_joyOfAll_19, r_X4_joyOfAll_20, r_X4_joyOfAll_21, r_X4_joyOfAll_24, r_X4_joyOfAll_27, r_X4_joyOfAll_28, nI_add, nI_1]
      exact ih (t + 1) (by omega)
  exact key (tN T) 0 (by omega)
theorem joyOfFamily_T {d : Nat} (hd : 3 ≤ d) (hT : tOk T) (hC : TC T I p) (hp : p = 3 ∨ p = 11) {q : Nat} {w : Nat → Nat} (hw : WC T I q w) {f : Nat} (hf : f < tF T) : hv_Ok xs d yX4_joyOfFamily [.ref p, .ref q, .int (nI f)] hv_SH (I, L, hv_PP τ) (some (.int (nI (jyF T w f)))) (I, L, hv_PP τ) := by
  have h6 := hT.1
  have h5 := hT.2.1
  apply o_X4_joyOfFamily
  simp only [hv_drop_i, hv_drop_r, hv_drop_n, hv_drop_a, hv_rf_some, r_X4_joyOfFamily_0, r_X4_joyOfFamily_1, r_X4_joyOfFamily_2, r_X4_joyOfFamily_3, r_X4_joyOfFamily_7, r_X4_joyOfFamily_8, r_X4_joyOfFamily_11, r_X4_joyOfFamily_14, r_X4_joyOfFamily_15, r_X4_joyOfFamily_17, r_X4_joyOfFamily_18, r_X4_joyOfFamily_19, r_X4_joyOfFamily_22, r_X4_joyOfFamily_23, r_X4_joyOfFamily_24, r_X4_joyOfFamily_25, r_X4_joyOfFamily_30, r_X4_joyOfFamily_31, r_X4_joyOfFamily_32, r_X4_joyOfFamily_35, r_X4_joyOfFamily_38, r_X4_joyOfFamily_39]
  have key : ∀ k t, t + k = tN T → P_X4_joyOfFamily xs d (hv_okQ (some (.int (nI (jyF T w f)))) hv_SH (I, L, hv_PP τ)) 5 [some (.ref p), some (.ref q), some (.int (nI f)), some (.int (nI (sumN (fun t => if w t = f + 1 then jy T w t else 0) t))), some (.int (nI t))] [] (hv_SH, 0, 0) (I, L, hv_PP τ) := by
    intro k
    induction k with
    | zero =>
      intro t ht
      have : t = tN T := by omega
      subst this
      rw [r_X4_joyOfFamily_5]
      simp only [hv_drop_i, hv_drop_r, hv_drop_n, hv_drop_a, hv_rf_some, r_X4_joyOfFamily_0, r_X4_joyOfFamily_1, r_X4_joyOfFamily_2, r_X4_joyOfFamily_3, r_X4_joyOfFamily_7, r_X4_joyOfFamily_8, r_X4_joyOfFamily_11, r_X4_joyOfFamily_14, r_X4_joyOfFamily_15, r_X4_joyOfFamily_17, r_X4_joyOfFamily_18, r_X4_joyOfFamily_19, r_X4_joyOfFamily_22, r_X4_joyOfFamily_23, r_X4_joyOfFamily_24, r_X4_joyOfFamily_25, r_X4_joyOfFamily_30, r_X4_joyOfFamily_31, r_X4_joyOfFamily_32, r_X4_joyOfFamily_35, r_X4_joyOfFamily_38, r_X4_joyOfFamily_39, kdT hp, true_and, hC.1, Int32.le_refl, if_true, hv_okQ_iff]
      exact i_ok rfl
    | succ k ih =>
      intro t ht
      have ht6 : t < 6 := by omega
      have hwt := hw.2.2.2 t
      rw [r_X4_joyOfFamily_5]
      have e : cW (w t) = nI f ↔ w t = f + 1 := by rw [← cW_s, cW_inj (by omega) (by omega)]
      simp only [hv_drop_i, hv_drop_r, hv_drop_n, hv_drop_a, hv_rf_some, r_X4_joyOfFamily_0, r_X4_joyOfFamily_1, r_X4_joyOfFamily_2, r_X4_joyOfFamily_3, r_X4_joyOfFamily_7, r_X4_joyOfFamily_8, r_X4_joyOfFamily_11, r_X4_joyOfFamily_14, r_X4_joyOfFamily_15, r_X4_joyOfFamily_17, r_X4_joyOfFamily_18, r_X4_joyOfFamily_19, r_X4_joyOfFamily_22, r_X4_joyOfFamily_23, r_X4_joyOfFamily_24, r_X4_joyOfFamily_25, r_X4_joyOfFamily_30, r_X4_joyOfFamily_31, r_X4_joyOfFamily_32, r_X4_joyOfFamily_35, r_X4_joyOfFamily_38, r_X4_joyOfFamily_39, kdT hp, true_and, hC.1, nI_ge (show t < tN T by omega) (by omega), if_false, hw.2.1, hv_ix_nI ht6 (by decide), nI_clamp (n := t) (by omega), hw.2.2.1 t ht6, ne_eq, e]
      by_cases h : w t = f + 1
      · simp only [h, not_true_eq_false, if_false]
        refine k_X4_joyOfFamily_27 (kdT hp) (joyOfTurn_T (d := 2) (by omega) hT hC hp hw (by omega)) ?_
        simp only [hv_drop_i, hv_drop_r, hv_drop_n, hv_drop_a, hv_rf_some, r_X4_joyOfFamily_0, r_X4_joyOfFamily_1, r_X4_joyOfFamily_2, r_X4_joyOfFamily_3, r_X4_joyOfFamily_7, r_X4_joyOfFamily_8, r_X4_joyOfFamily_11, r_X4_joyOfFamily_14, r_X4_joyOfFamily_15, r_X4_joyOfFamily_17, r_X4_joyOfFamily_18, r_X4_joyOfFamily_19, r_X4_joyOfFamily_22, r_X4_joyOfFamily_23, r_X4_joyOfFamily_24, r_X4_joyOfFamily_25, r_X4_joyOfFamily_30, r_X4_joyOfFamily_31, r_X4_joyOfFamily_32, r_X4_joyOfFamily_35, r_X4_joyOfFamily_38, r_X4_joyOfFamily_39, nI_add, nI_1]
        have := ih (t + 1) (by omega)
        simp only [sumN, h, if_true] at this
        exact this
      · simp only [h, not_false_eq_true, if_true, nI_1]
        have := ih (t + 1) (by omega)
        simp only [sumN, h, if_false, Nat.add_zero] at this
        exact this
  exact key (tN T) 0 (by omega)
/-- LEFT, the least LEFT -/
def lf (T : TD) (w : Nat → Nat) (f : Nat) : Int32 := nI (jyF T w f) - nI (tQ T f 2)
def mnL (T : TD) (w : Nat → Nat) : Nat → Int32
  | 0 => 1000000
  | f + 1 => if lf T w f < mnL T w f then lf T w f else mnL T w f
theorem jyF_le (hT : tOk T) {w : Nat → Nat} (hw : ∀ t, w t ≤ tF T) (f : Nat) : jyF T w f ≤ 120 := by
  have h := sumN_le (f := fun t => if w t = f + 1 then jy T w t else 0) (m := 20) (n := tN T) (fun t _ => by
    show (if w t = f + 1 then jy T w t else 0) ≤ 20
    split
    · exact jy1_le hT (hw t)
    · omega)
  have h6 := hT.1
  unfold jyF
  omega
theorem jyA_le (hT : tOk T) {w : Nat → Nat} (hw : ∀ t, w t ≤ tF T) : jyA T w ≤ 120 := by
  have h := sumN_le (f := jy T w) (m := 20) (n := tN T) (fun t _ => jy1_le hT (hw t))
  have h6 := hT.1
  unfold jyA
  omega
theorem lf_int (hT : tOk T) {w : Nat → Nat} (hw : ∀ t, w t ≤ tF T) {f : Nat} (hf : f < tF T) : (lf T w f).toInt = (jyF T w f : Int) - tQ T f 2 := by
  have h1 := jyF_le hT hw f
  have h2 := (hT.2.2.2.1 f hf).2.2.1
  unfold lf
  rw [pk_sub_toInt (by omega) (by omega)]
theorem mnL_lt (hT : tOk T) {w : Nat → Nat} (hw : ∀ t, w t ≤ tF T) : ∀ {k : Nat}, k + 1 ≤ tF T → (mnL T w (k + 1)).toInt ≤ 120 ∧ -30 ≤ (mnL T w (k + 1)).toInt
  | 0, hk => by
    have h1 := jyF_le hT hw 0
    have h2 := (hT.2.2.2.1 0 (by omega)).2.2.1
    have h3 := lf_int hT hw (f := 0) (by omega)
    have : lf T w 0 < mnL T w 0 := by
      rw [i_lt, h3]
      show _ < (1000000 : Int)
      omega
    show (if lf T w 0 < mnL T w 0 then lf T w 0 else mnL T w 0).toInt ≤ 120 ∧ -30 ≤ (if lf T w 0 < mnL T w 0 then lf T w 0 else mnL T w 0).toInt
    rw [if_pos this, h3]
    omega
  | k + 1, hk => by
    have ih := mnL_lt hT hw (k := k) (by omega)
    have h1 := jyF_le hT hw (k + 1)
    have h2 := (hT.2.2.2.1 (k + 1) (by omega)).2.2.1
    have h3 := lf_int hT hw (f := k + 1) (by omega)
    show (if lf T w (k + 1) < mnL T w (k + 1) then lf T w (k + 1) else mnL T w (k + 1)).toInt ≤ 120 ∧ -30 ≤ (if lf T w (k + 1) < mnL T w (k + 1) then lf T w (k + 1) else mnL T w (k + 1)).toInt
    split
    · rw [h3]; omega
    · exact ih
theorem leftOfFamily_T {d : Nat} (hd : 4 ≤ d) (hT : tOk T) (hC : TC T I p) (hp : p = 3 ∨ p = 11) {q : Nat} {w : Nat → Nat} (hw : WC T I q w) {f : Nat} (hf : f < tF T) : hv_Ok xs d yX4_leftOfFamily [.ref p, .ref q, .int (nI f)] hv_SH (I, L, hv_PP τ) (some (.int (lf T w f))) (I, L, hv_PP τ) := by
  have h5 := hT.2.1
  apply o_X4_leftOfFamily
  simp only [hv_drop_i, hv_drop_r, hv_drop_n, hv_drop_a, hv_rf_some, r_X4_leftOfFamily_0, r_X4_leftOfFamily_1, r_X4_leftOfFamily_2, r_X4_leftOfFamily_6, r_X4_leftOfFamily_7, r_X4_leftOfFamily_10, r_X4_leftOfFamily_11, r_X4_leftOfFamily_12, r_X4_leftOfFamily_13, r_X4_leftOfFamily_14, r_X4_leftOfFamily_15]
  refine k_X4_leftOfFamily_3 (kdT hp) (joyOfFamily_T (d := 3) (by omega) hT hC hp hw hf) ?_
  simp only [hv_drop_i, hv_drop_r, hv_drop_n, hv_drop_a, hv_rf_some, r_X4_leftOfFamily_0, r_X4_leftOfFamily_1, r_X4_leftOfFamily_2, r_X4_leftOfFamily_6, r_X4_leftOfFamily_7, r_X4_leftOfFamily_10, r_X4_leftOfFamily_11, r_X4_leftOfFamily_12, r_X4_leftOfFamily_13, r_X4_leftOfFamily_14, r_X4_leftOfFamily_15, kdT hp, true_and, ppT2 hp, lnT2 hp, hv_ix_nI (show f < 5 by omega) (by decide), true_or, nI_clamp (n := f) (by omega), ppTr hp (show f < 5 by omega), lnTr hp (show f < 5 by omega), show hv_ix 2 5 = true by decide, c_2, hC.2.2.2.2 f 2 hf (by omega), hv_okQ_iff]
  exact i_ok rfl
theorem min_ok {d : Nat} {sh : hv_Sh} {μ : hv_M} (a b : Int32) : hv_Ok xs d yJ9_min_7cf53 [.int a, .int b] sh μ (some (.int (if b < a then b else a))) μ := by
  apply o_J9_min_7cf53
  simp only [hv_drop_i, hv_drop_r, hv_drop_n, hv_drop_a, hv_rf_some, r_J9_min_7cf53_0, r_J9_min_7cf53_1, r_J9_min_7cf53_2, r_J9_min_7cf53_5, r_J9_min_7cf53_6, r_J9_min_7cf53_9, r_J9_min_7cf53_10, hv_okQ_iff]
  by_cases h : b < a <;> simp [h]
theorem leastLeft_T {d : Nat} (hd : 5 ≤ d) (hT : tOk T) (hC : TC T I p) (hp : p = 3 ∨ p = 11) {q : Nat} {w : Nat → Nat} (hw : WC T I q w) : hv_Ok xs d yX4_leastLeft [.ref p, .ref q] hv_SH (I, L, hv_PP τ) (some (.int (if tF T = 0 then -1000000 else mnL T w (tF T)))) (I, L, hv_PP τ) := by
  have h5 := hT.2.1
  apply o_X4_leastLeft
  simp only [hv_drop_i, hv_drop_r, hv_drop_n, hv_drop_a, hv_rf_some, r_X4_leastLeft_0, r_X4_leastLeft_2, r_X4_leastLeft_3, r_X4_leastLeft_4, r_X4_leastLeft_6, r_X4_leastLeft_7, r_X4_leastLeft_10, r_X4_leastLeft_13, r_X4_leastLeft_14, r_X4_leastLeft_15, r_X4_leastLeft_19, r_X4_leastLeft_21, r_X4_leastLeft_22, r_X4_leastLeft_25, r_X4_leastLeft_27, r_X4_leastLeft_30, r_X4_leastLeft_31, r_X4_leastLeft_36, r_X4_leastLeft_37, r_X4_leastLeft_40, r_X4_leastLeft_43, r_X4_leastLeft_44]
  have key : ∀ k f x, f + k = tF T → P_X4_leastLeft xs d (hv_okQ (some (.int (if tF T = 0 then -1000000 else mnL T w (tF T)))) hv_SH (I, L, hv_PP τ)) 5 [some (.ref p), some (.ref q), some (.int (if f = 0 then -1000000 else mnL T w f)), some (.int (nI f)), x] [] (hv_SH, 0, 0) (I, L, hv_PP τ) := by
    intro k
    induction k with
    | zero =>
      intro f x hf
      have : f = tF T := by omega
      subst this
      rw [r_X4_leastLeft_5]
      simp only [hv_drop_i, hv_drop_r, hv_drop_n, hv_drop_a, hv_rf_some, r_X4_leastLeft_0, r_X4_leastLeft_2, r_X4_leastLeft_3, r_X4_leastLeft_4, r_X4_leastLeft_6, r_X4_leastLeft_7, r_X4_leastLeft_10, r_X4_leastLeft_13, r_X4_leastLeft_14, r_X4_leastLeft_15, r_X4_leastLeft_19, r_X4_leastLeft_21, r_X4_leastLeft_22, r_X4_leastLeft_25, r_X4_leastLeft_27, r_X4_leastLeft_30, r_X4_leastLeft_31, r_X4_leastLeft_36, r_X4_leastLeft_37, r_X4_leastLeft_40, r_X4_leastLeft_43, r_X4_leastLeft_44, kdT hp, true_and, hC.2.1, Int32.le_refl, if_true, hv_okQ_iff]
    | succ k ih =>
      intro f x hf
      rw [r_X4_leastLeft_5]
      simp only [hv_drop_i, hv_drop_r, hv_drop_n, hv_drop_a, hv_rf_some, r_X4_leastLeft_0, r_X4_leastLeft_2, r_X4_leastLeft_3, r_X4_leastLeft_4, r_X4_leastLeft_6, r_X4_leastLeft_7, r_X4_leastLeft_10, r_X4_leastLeft_13, r_X4_leastLeft_14, r_X4_leastLeft_15, r_X4_leastLeft_19, r_X4_leastLeft_21, r_X4_leastLeft_22, r_X4_leastLeft_25, r_X4_leastLeft_27, r_X4_leastLeft_30, r_X4_leastLeft_31, r_X4_leastLeft_36, r_X4_leastLeft_37, r_X4_leastLeft_40, r_X4_leastLeft_43, r_X4_leastLeft_44, kdT hp, true_and, hC.2.1, nI_ge (show f < tF T by omega) (by omega), if_false]
      refine k_X4_leastLeft_16 (kdT hp) (leftOfFamily_T (d := 4) (by omega) hT hC hp hw (by omega)) ?_
      cases f with
      | zero =>
        simp only [hv_drop_i, hv_drop_r, hv_drop_n, hv_drop_a, hv_rf_some, r_X4_leastLeft_0, r_X4_leastLeft_2, r_X4_leastLeft_3, r_X4_leastLeft_4, r_X4_leastLeft_6, r_X4_leastLeft_7, r_X4_leastLeft_10, r_X4_leastLeft_13, r_X4_leastLeft_14, r_X4_leastLeft_15, r_X4_leastLeft_19, r_X4_leastLeft_21, r_X4_leastLeft_22, r_X4_leastLeft_25, r_X4_leastLeft_27, r_X4_leastLeft_30, r_X4_leastLeft_31, r_X4_leastLeft_36, r_X4_leastLeft_37, r_X4_leastLeft_40, r_X4_leastLeft_43, r_X4_leastLeft_44, show ¬ (nI 0 ≠ 0) by decide, if_false, nI_1]
        have h3 := lf_int hT hw.2.2.2 (f := 0) (by omega)
        have h1 := jyF_le hT hw.2.2.2 0
        have e : (if 0 + 1 = 0 then (-1000000 : Int32) else mnL T w (0 + 1)) = lf T w 0 := by
          show (if lf T w 0 < (1000000 : Int32) then lf T w 0 else 1000000) = _
          rw [if_pos]
          rw [i_lt, h3]
          show _ < (1000000 : Int)
          omega
        have := ih (0 + 1) (some (.int (lf T w 0))) (by omega)
        rw [e] at this
        exact this
      | succ f =>
        simp only [hv_drop_i, hv_drop_r, hv_drop_n, hv_drop_a, hv_rf_some, r_X4_leastLeft_0, r_X4_leastLeft_2, r_X4_leastLeft_3, r_X4_leastLeft_4, r_X4_leastLeft_6, r_X4_leastLeft_7, r_X4_leastLeft_10, r_X4_leastLeft_13, r_X4_leastLeft_14, r_X4_leastLeft_15, r_X4_leastLeft_19, r_X4_leastLeft_21, r_X4_leastLeft_22, r_X4_leastLeft_25, r_X4_leastLeft_27, r_X4_leastLeft_30, r_X4_leastLeft_31, r_X4_leastLeft_36, r_X4_leastLeft_37, r_X4_leastLeft_40, r_X4_leastLeft_43, r_X4_leastLeft_44, ne_eq, nI_ne0 (n := f + 1) (by omega) (by omega), not_false_eq_true, if_true, show ¬ (f + 1 = 0) by omega, if_false]
        refine k_X4_leastLeft_33 (min_ok (d := 0) _ _) ?_
        simp only [hv_drop_i, hv_drop_r, hv_drop_n, hv_drop_a, hv_rf_some, r_X4_leastLeft_0, r_X4_leastLeft_2, r_X4_leastLeft_3, r_X4_leastLeft_4, r_X4_leastLeft_6, r_X4_leastLeft_7, r_X4_leastLeft_10, r_X4_leastLeft_13, r_X4_leastLeft_14, r_X4_leastLeft_15, r_X4_leastLeft_19, r_X4_leastLeft_21, r_X4_leastLeft_22, r_X4_leastLeft_25, r_X4_leastLeft_27, r_X4_leastLeft_30, r_X4_leastLeft_31, r_X4_leastLeft_36, r_X4_leastLeft_37, r_X4_leastLeft_40, r_X4_leastLeft_43, r_X4_leastLeft_44, nI_1]
        have := ih (f + 1 + 1) (some (.int (lf T w (f + 1)))) (by omega)
        simp only [show ¬ (f + 1 + 1 = 0) by omega, if_false] at this
        exact this
  exact key (tF T) 0 none (by omega)
end TOLD
