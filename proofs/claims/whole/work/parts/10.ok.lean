/-! ===== methods that make nothing and answer one thing ===== -/
def hv_Ok (xs : hv_X) (d : Nat) (y : MethodName) (av : List Value) (sh : hv_Sh) (μ : hv_M) (r : Option Value) (μ' : hv_M) : Prop := hv_Does xs d 0 0 y av sh μ (fun r' sh' μ'' => r' = r ∧ sh' = sh ∧ μ'' = μ')
def hv_okQ (r : Option Value) (sh : hv_Sh) (μ' : hv_M) : hv_Q := fun r' S μ'' => (r' = r ∧ S.1 = sh ∧ μ'' = μ') ∧ S.2.1 ≤ 0 ∧ S.2.2 ≤ 0
theorem hv_okQ_iff {r r' : Option Value} {sh : hv_Sh} {μ' μ'' : hv_M} : hv_okQ r sh μ' r' (sh, 0, 0) μ'' ↔ r' = r ∧ μ'' = μ' := by
  unfold hv_okQ
  constructor
  · rintro ⟨⟨h1, -, h2⟩, -⟩
    exact ⟨h1, h2⟩
  · rintro ⟨h1, h2⟩
    exact ⟨⟨h1, rfl, h2⟩, Nat.le_refl _, Nat.le_refl _⟩
theorem hv_drop_i {v : Int32} : hv_drop (some (.int v)) = some (.int v) := rfl
theorem hv_drop_r {v : Nat} : hv_drop (some (.ref v)) = some (.ref v) := rfl
theorem hv_drop_a {v : Nat} : hv_drop (some (.retAddr v)) = some (.retAddr v) := rfl
theorem hv_drop_l {v : Int64} : hv_drop (some (.long v)) = none := rfl
theorem hv_drop_n : hv_drop none = none := rfl
theorem hv_rf_some {k : Nat} : va_rf (some k) = .ref k := rfl
theorem hv_lsw_out {dflt : Int} (v : Int32) : ∀ {ps : List (Int × Int)}, (∀ q ∈ ps, q.1 ≠ v.toInt) → Op.lookupswitch.offset ps dflt v.toInt = dflt
  | [], _ => rfl
  | (a, o) :: r, h => by
    have h1 : ¬ a = v.toInt := h (a, o) List.mem_cons_self
    show (if a = v.toInt then o else Op.lookupswitch.offset r dflt v.toInt) = dflt
    rw [if_neg h1]
    exact hv_lsw_out v (fun q hq => h q (List.mem_cons_of_mem _ hq))
