/-! ===== HermitDues$Told ===== -/
section TOLD
variable {xs : hv_X} {I : hI} {L : hL} {τ : Bool} {p : Nat}
theorem kdT (hp : p = 3 ∨ p = 11) : hv_kd hS p = some 4 := by rcases hp with rfl | rfl <;> rfl
theorem ppT0 (hp : p = 3 ∨ p = 11) : hv_PP τ p 0 = some (p + 1) := by rcases hp with rfl | rfl <;> rfl
theorem ppT2 (hp : p = 3 ∨ p = 11) : hv_PP τ p 2 = some (p + 2) := by rcases hp with rfl | rfl <;> rfl
theorem ppTr (hp : p = 3 ∨ p = 11) {f : Nat} (hf : f < 5) : hv_PP τ (p + 2) f = some (p + 3 + f) := by rcases hp with rfl | rfl <;> simp [hv_PP, hf]
theorem lnT1 (hp : p = 3 ∨ p = 11) : hv_ln hS (p + 1) 10 = 6 := by rcases hp with rfl | rfl <;> rfl
theorem lnT2 (hp : p = 3 ∨ p = 11) : hv_ln hS (p + 2) 12 = 5 := by rcases hp with rfl | rfl <;> rfl
theorem lnTr (hp : p = 3 ∨ p = 11) {f : Nat} (hf : f < 5) : hv_ln hS (p + 3 + f) 10 = 5 := by
  have : f = 0 ∨ f = 1 ∨ f = 2 ∨ f = 3 ∨ f = 4 := by omega
  rcases hp with rfl | rfl <;> rcases this with rfl | rfl | rfl | rfl | rfl <;> rfl
def b01 (c : Prop) [Decidable c] : Int32 := if c then 1 else 0
theorem b01_t {c : Prop} [Decidable c] (h : c) : b01 c = 1 := if_pos h
theorem b01_f {c : Prop} [Decidable c] (h : ¬ c) : b01 c = 0 := if_neg h
theorem hasTurn_ok {d : Nat} (hp : p = 3 ∨ p = 11) (v : Int32) : hv_Ok xs d yX4_hasTurn [.ref p, .int v] hv_SH (I, L, hv_PP τ) (some (.int (b01 (¬ v < 0 ∧ v < I p 1)))) (I, L, hv_PP τ) := by
  apply o_X4_hasTurn
  simp only [hv_drop_i, hv_drop_r, hv_drop_n, hv_drop_a, hv_rf_some, r_X4_hasTurn_0, r_X4_hasTurn_1, r_X4_hasTurn_4, r_X4_hasTurn_5, r_X4_hasTurn_6, r_X4_hasTurn_9, r_X4_hasTurn_12, r_X4_hasTurn_13, r_X4_hasTurn_16, r_X4_hasTurn_17, kdT hp, true_and, hv_okQ_iff]
  by_cases h1 : v < 0
  · simp [h1, b01]
  · by_cases h2 : I p 1 ≤ v
    · have h3 : ¬ v < I p 1 := Int32.not_lt.mpr h2
      simp [h1, h2, h3, b01]
    · have h3 : v < I p 1 := Int32.not_le.mp h2
      simp [h1, h2, h3, b01]
end TOLD
