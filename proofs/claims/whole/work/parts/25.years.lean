/-! ===== bits of TURNS; a YEAR in the class ===== -/
def bsT (w : Nat → Nat) (x : Nat) : Nat → Int32
  | 0 => 0
  | t + 1 => if w t = x then bsT w x t ||| (1 <<< (nI t &&& 31)) else bsT w x t
theorem or_0 (x : Int32) : x ||| 0 = x := by simp
theorem bsT_ext {w : Nat → Nat} {x n : Nat} : ∀ {m : Nat}, (∀ t, n ≤ t → w t ≠ x) → n ≤ m → bsT w x m = bsT w x n
  | 0, _, h => by rw [show n = 0 by omega]
  | m + 1, hw, h => by
    by_cases e : n = m + 1
    · rw [e]
    · show (if w m = x then _ else bsT w x m) = _
      rw [if_neg (hw m (by omega)), bsT_ext hw (by omega)]
theorem bsT_congr {w w' : Nat → Nat} {x : Nat} : ∀ {n : Nat}, (∀ t, t < n → w t = w' t) → bsT w x n = bsT w' x n
  | 0, _ => rfl
  | n + 1, h => by
    show (if w n = x then bsT w x n ||| _ else bsT w x n) = (if w' n = x then bsT w' x n ||| _ else bsT w' x n)
    rw [h n (by omega), bsT_congr (n := n) (fun t ht => h t (by omega))]
theorem TC_congr {T : TD} {I I' : hI} {p : Nat} (hp : p = 3 ∨ p = 11) (hF : tF T ≤ 5) (h : ∀ k j, 3 ≤ k → k ≤ 18 → I' k j = I k j) (hC : TC T I p) : TC T I' p := by
  obtain ⟨h1, h2, h3, h4, h5⟩ := hC
  refine ⟨?_, ?_, ?_, fun t ht => ?_, fun f i hf hi => ?_⟩
  · rw [h _ _ (by omega) (by omega)]; exact h1
  · rw [h _ _ (by omega) (by omega)]; exact h2
  · rw [h _ _ (by omega) (by omega)]; exact h3
  · rw [h _ _ (by omega) (by omega)]; exact h4 t ht
  · rw [h _ _ (by omega) (by omega)]; exact h5 f i hf hi
theorem TM_congr {T : TD} {I I' : hI} (h : ∀ j, I' 69 j = I 69 j) (hM : TM T I) : TM T I' := by
  obtain ⟨h1, h2, h3, h4, h5⟩ := hM
  refine ⟨?_, ?_, ?_, fun t ht => ?_, fun f i hf hi => ?_⟩
  · rw [h]; exact h1
  · rw [h]; exact h2
  · rw [h]; exact h3
  · rw [h]; exact h4 t ht
  · rw [h]; exact h5 f i hf hi
theorem WC_congr {T : TD} {I I' : hI} {q : Nat} {w : Nat → Nat} (h : ∀ j, I' q j = I q j) (hw : WC T I q w) : WC T I' q w := ⟨hw.1, hw.2.1, fun t ht => by rw [h]; exact hw.2.2.1 t ht, hw.2.2.2⟩
section YEARS
variable {xs : hv_X} {I : hI} {L : hL} {τ : Bool} {T : TD}
theorem turnsOf_T {d : Nat} {w : Nat → Nat} (hw : WC T I 20 w) (hF : tF T ≤ 5) {f : Nat} (hf : f < 2 ^ 29) : hv_Ok xs d yX0_turnsOf [.ref 19, .int (nI f)] hv_SH (I, L, hv_PP τ) (some (.int (bsT w (f + 1) 6))) (I, L, hv_PP τ) := by
  apply o_X0_turnsOf
  simp only [hv_drop_i, hv_drop_r, hv_drop_n, hv_drop_a, hv_rf_some, r_X0_turnsOf_0, r_X0_turnsOf_1, r_X0_turnsOf_2, r_X0_turnsOf_3, r_X0_turnsOf_5, r_X0_turnsOf_7, r_X0_turnsOf_10, r_X0_turnsOf_11, r_X0_turnsOf_14, r_X0_turnsOf_15, r_X0_turnsOf_16, r_X0_turnsOf_17, r_X0_turnsOf_20, r_X0_turnsOf_21, r_X0_turnsOf_22, r_X0_turnsOf_23, r_X0_turnsOf_24, r_X0_turnsOf_25, r_X0_turnsOf_26, r_X0_turnsOf_29, r_X0_turnsOf_32, r_X0_turnsOf_33]
  have key : ∀ k t, t + k = 6 → P_X0_turnsOf xs d (hv_okQ (some (.int (bsT w (f + 1) 6))) hv_SH (I, L, hv_PP τ)) 4 [some (.ref 19), some (.int (nI f)), some (.int (bsT w (f + 1) t)), some (.int (nI t))] [] (hv_SH, 0, 0) (I, L, hv_PP τ) := by
    intro k
    induction k with
    | zero =>
      intro t ht
      have : t = 6 := by omega
      subst this
      rw [r_X0_turnsOf_4]
      simp only [hv_drop_i, hv_drop_r, hv_drop_n, hv_drop_a, hv_rf_some, r_X0_turnsOf_0, r_X0_turnsOf_1, r_X0_turnsOf_2, r_X0_turnsOf_3, r_X0_turnsOf_5, r_X0_turnsOf_7, r_X0_turnsOf_10, r_X0_turnsOf_11, r_X0_turnsOf_14, r_X0_turnsOf_15, r_X0_turnsOf_16, r_X0_turnsOf_17, r_X0_turnsOf_20, r_X0_turnsOf_21, r_X0_turnsOf_22, r_X0_turnsOf_23, r_X0_turnsOf_24, r_X0_turnsOf_25, r_X0_turnsOf_26, r_X0_turnsOf_29, r_X0_turnsOf_32, r_X0_turnsOf_33, show (6 : Int32) ≤ nI 6 by decide, if_true, hv_okQ_iff, and_self]
    | succ k ih =>
      intro t ht
      have hwt := hw.2.2.2 t
      have e : cW (w t) = nI f ↔ w t = f + 1 := by rw [← cW_s, cW_inj (by omega) (by omega)]
      have e6 : ¬ (6 : Int32) ≤ nI t := by rw [show (6 : Int32) = nI 6 by decide]; exact nI_ge (by omega) (by omega)
      rw [r_X0_turnsOf_4]
      simp only [hv_drop_i, hv_drop_r, hv_drop_n, hv_drop_a, hv_rf_some, r_X0_turnsOf_0, r_X0_turnsOf_1, r_X0_turnsOf_2, r_X0_turnsOf_3, r_X0_turnsOf_5, r_X0_turnsOf_7, r_X0_turnsOf_10, r_X0_turnsOf_11, r_X0_turnsOf_14, r_X0_turnsOf_15, r_X0_turnsOf_16, r_X0_turnsOf_17, r_X0_turnsOf_20, r_X0_turnsOf_21, r_X0_turnsOf_22, r_X0_turnsOf_23, r_X0_turnsOf_24, r_X0_turnsOf_25, r_X0_turnsOf_26, r_X0_turnsOf_29, r_X0_turnsOf_32, r_X0_turnsOf_33, kd19, true_and, pp19_0, ln20, e6, if_false, hv_ix_nI (show t < 6 by omega) (by decide), nI_clamp (n := t) (by omega), hw.2.2.1 t (by omega), ne_eq, e, nI_1]
      have hi := ih (t + 1) (by omega)
      by_cases h : w t = f + 1
      · simp only [h, not_true_eq_false, if_false]
        simp only [bsT, h, if_true] at hi
        exact hi
      · simp only [h, not_false_eq_true, if_true]
        simp only [bsT, h, if_false] at hi
        exact hi
  exact key 6 0 (by omega)
def fz (w : Nat → Nat) (f : Nat) : Int32 := if bsT w (f + 1) 6 = 0 then 1 else 0
def sumI (g : Nat → Int32) : Nat → Int32
  | 0 => 0
  | n + 1 => sumI g n + g n
def pyI (T : TD) (w : Nat → Nat) (I : hI) (n : Nat) : hI := fun k j => if k = 21 ∧ j < n then I 21 j + lf T w j else if k = 22 ∧ j < n then I 22 j + fz w j else if k = 19 ∧ j = 3 then I 19 3 + sumI (fun f => nI (tQ T f 2)) n else I k j
theorem pyI_step {w : Nat → Nat} {f : Nat} : (if bsT w (f + 1) 6 = 0 then iU (iU (iU (pyI T w I f) 21 f (I 21 f + lf T w f)) 19 3 (I 19 3 + sumI (fun f => nI (tQ T f 2)) f + nI (tQ T f 2))) 22 f (I 22 f + 1) else iU (iU (pyI T w I f) 21 f (I 21 f + lf T w f)) 19 3 (I 19 3 + sumI (fun f => nI (tQ T f 2)) f + nI (tQ T f 2))) = pyI T w I (f + 1) := by
  funext k' j'
  by_cases h1 : k' = 21
  · subst h1
    by_cases hz : bsT w (f + 1) 6 = 0
    · simp only [hz, if_true, iU, pyI, Nat.reduceEqDiff, false_and, true_and, if_false]
      by_cases h2 : j' = f
      · subst h2; simp
      · rw [if_neg h2]
        by_cases h3 : j' < f
        · rw [if_pos h3, if_pos (by omega)]
        · rw [if_neg h3, if_neg (by omega)]
    · simp only [hz, iU, pyI, Nat.reduceEqDiff, false_and, true_and, if_false]
      by_cases h2 : j' = f
      · subst h2; simp
      · rw [if_neg h2]
        by_cases h3 : j' < f
        · rw [if_pos h3, if_pos (by omega)]
        · rw [if_neg h3, if_neg (by omega)]
  · by_cases h2 : k' = 22
    · subst h2
      by_cases hz : bsT w (f + 1) 6 = 0
      · simp only [hz, if_true, iU, pyI, Nat.reduceEqDiff, false_and, true_and, if_false]
        by_cases h2 : j' = f
        · subst h2; simp [fz, hz]
        · rw [if_neg h2]
          by_cases h3 : j' < f
          · rw [if_pos h3, if_pos (by omega)]
          · rw [if_neg h3, if_neg (by omega)]
      · simp only [hz, iU, pyI, Nat.reduceEqDiff, false_and, true_and, if_false]
        by_cases h2 : j' = f
        · subst h2; simp [fz, hz]
        · by_cases h3 : j' < f
          · rw [if_pos h3, if_pos (by omega)]
          · rw [if_neg h3, if_neg (by omega)]
    · by_cases h3 : k' = 19 ∧ j' = 3
      · obtain ⟨rfl, rfl⟩ := h3
        by_cases hz : bsT w (f + 1) 6 = 0 <;> simp [hz, iU, pyI, sumI, Int32.add_assoc]
      · by_cases hz : bsT w (f + 1) 6 = 0 <;> simp [hz, iU, pyI, h1, h2, h3]
theorem passYear_T {d : Nat} (hd : 5 ≤ d) (hT : tOk T) {p : Nat} (hC : TC T I p) (hp : p = 3 ∨ p = 11) {w : Nat → Nat} (hw : WC T I 20 w) : hv_Ok xs d yX0_passYear [.ref 19, .ref p] hv_SH (I, L, hv_PP τ) (some (.int (sumI (fz w) (tF T)))) (iU (pyI T w I (tF T)) 19 4 (I 19 4 + 1), L, hv_PP τ) := by
  have h5 := hT.2.1
  apply o_X0_passYear
  simp only [hv_drop_i, hv_drop_r, hv_drop_n, hv_drop_a, hv_rf_some, r_X0_passYear_0, r_X0_passYear_1, r_X0_passYear_2, r_X0_passYear_3, r_X0_passYear_5, r_X0_passYear_6, r_X0_passYear_9, r_X0_passYear_12, r_X0_passYear_13, r_X0_passYear_16, r_X0_passYear_17, r_X0_passYear_18, r_X0_passYear_19, r_X0_passYear_20, r_X0_passYear_21, r_X0_passYear_24, r_X0_passYear_28, r_X0_passYear_29, r_X0_passYear_30, r_X0_passYear_31, r_X0_passYear_31i, r_X0_passYear_32, r_X0_passYear_35, r_X0_passYear_36, r_X0_passYear_39, r_X0_passYear_40, r_X0_passYear_41, r_X0_passYear_42, r_X0_passYear_43, r_X0_passYear_44, r_X0_passYear_47, r_X0_passYear_48, r_X0_passYear_52, r_X0_passYear_55, r_X0_passYear_56, r_X0_passYear_59, r_X0_passYear_60, r_X0_passYear_61, r_X0_passYear_62, r_X0_passYear_63, r_X0_passYear_64, r_X0_passYear_65, r_X0_passYear_68, r_X0_passYear_71, r_X0_passYear_74, r_X0_passYear_75, r_X0_passYear_75i, r_X0_passYear_76, r_X0_passYear_79, r_X0_passYear_80, r_X0_passYear_81, r_X0_passYear_84, r_X0_passYear_85]
  have key : ∀ k f I', f + k = tF T → I' = pyI T w I f → P_X0_passYear xs d (hv_okQ (some (.int (sumI (fz w) (tF T)))) hv_SH (iU (pyI T w I (tF T)) 19 4 (I 19 4 + 1), L, hv_PP τ)) 4 [some (.ref 19), some (.ref p), some (.int (sumI (fz w) f)), some (.int (nI f))] [] (hv_SH, 0, 0) (I', L, hv_PP τ) := by
    intro k
    induction k with
    | zero =>
      intro f I' hf hI
      have : f = tF T := by omega
      subst this
      subst hI
      have e4 : pyI T w I (tF T) 19 4 = I 19 4 := by simp [pyI]
      rw [r_X0_passYear_4]
      have hC' : TC T (pyI T w I (tF T)) p := TC_congr hp h5 (fun k j h1 h2 => by simp only [pyI]; rw [if_neg (by omega), if_neg (by omega), if_neg (by omega)]) hC
      simp only [hv_drop_i, hv_drop_r, hv_drop_n, hv_drop_a, hv_rf_some, r_X0_passYear_0, r_X0_passYear_1, r_X0_passYear_2, r_X0_passYear_3, r_X0_passYear_5, r_X0_passYear_6, r_X0_passYear_9, r_X0_passYear_12, r_X0_passYear_13, r_X0_passYear_16, r_X0_passYear_17, r_X0_passYear_18, r_X0_passYear_19, r_X0_passYear_20, r_X0_passYear_21, r_X0_passYear_24, r_X0_passYear_28, r_X0_passYear_29, r_X0_passYear_30, r_X0_passYear_31, r_X0_passYear_31i, r_X0_passYear_32, r_X0_passYear_35, r_X0_passYear_36, r_X0_passYear_39, r_X0_passYear_40, r_X0_passYear_41, r_X0_passYear_42, r_X0_passYear_43, r_X0_passYear_44, r_X0_passYear_47, r_X0_passYear_48, r_X0_passYear_52, r_X0_passYear_55, r_X0_passYear_56, r_X0_passYear_59, r_X0_passYear_60, r_X0_passYear_61, r_X0_passYear_62, r_X0_passYear_63, r_X0_passYear_64, r_X0_passYear_65, r_X0_passYear_68, r_X0_passYear_71, r_X0_passYear_74, r_X0_passYear_75, r_X0_passYear_75i, r_X0_passYear_76, r_X0_passYear_79, r_X0_passYear_80, r_X0_passYear_81, r_X0_passYear_84, r_X0_passYear_85, kdT hp, kd19, true_and, hC'.2.1, Int32.le_refl, if_true, t_uI, e4, hv_okQ_iff, and_self]
    | succ k ih =>
      intro f I' hf hI
      have hC' : TC T I' p := by
        subst hI
        exact TC_congr hp h5 (fun k j h1 h2 => by simp only [pyI]; rw [if_neg (by omega), if_neg (by omega), if_neg (by omega)]) hC
      have hw' : WC T I' 20 w := by
        subst hI
        exact WC_congr (fun j => by simp [pyI]) hw
      have hQ : I' (p + 3 + f) 2 = nI (tQ T f 2) := hC'.2.2.2.2 f 2 (by omega) (by omega)
      rw [r_X0_passYear_4]
      simp only [hv_drop_i, hv_drop_r, hv_drop_n, hv_drop_a, hv_rf_some, r_X0_passYear_0, r_X0_passYear_1, r_X0_passYear_2, r_X0_passYear_3, r_X0_passYear_5, r_X0_passYear_6, r_X0_passYear_9, r_X0_passYear_12, r_X0_passYear_13, r_X0_passYear_16, r_X0_passYear_17, r_X0_passYear_18, r_X0_passYear_19, r_X0_passYear_20, r_X0_passYear_21, r_X0_passYear_24, r_X0_passYear_28, r_X0_passYear_29, r_X0_passYear_30, r_X0_passYear_31, r_X0_passYear_31i, r_X0_passYear_32, r_X0_passYear_35, r_X0_passYear_36, r_X0_passYear_39, r_X0_passYear_40, r_X0_passYear_41, r_X0_passYear_42, r_X0_passYear_43, r_X0_passYear_44, r_X0_passYear_47, r_X0_passYear_48, r_X0_passYear_52, r_X0_passYear_55, r_X0_passYear_56, r_X0_passYear_59, r_X0_passYear_60, r_X0_passYear_61, r_X0_passYear_62, r_X0_passYear_63, r_X0_passYear_64, r_X0_passYear_65, r_X0_passYear_68, r_X0_passYear_71, r_X0_passYear_74, r_X0_passYear_75, r_X0_passYear_75i, r_X0_passYear_76, r_X0_passYear_79, r_X0_passYear_80, r_X0_passYear_81, r_X0_passYear_84, r_X0_passYear_85, kdT hp, kd19, true_and, hC'.2.1, nI_ge (show f < tF T by omega) (by omega), if_false, pp19_0, pp19_1, pp19_2, ln21, hv_ix_nI (show f < 5 by omega) (by decide), nI_clamp (n := f) (by omega)]
      refine k_X0_passYear_25 (kdT hp) (leftOfFamily_T (d := 4) (by omega) hT hC' hp hw' (by omega)) ?_
      have e3 : I' 19 3 = I 19 3 + sumI (fun f => nI (tQ T f 2)) f := by subst hI; simp [pyI]
      have e21 : I' 21 f = I 21 f := by subst hI; simp [pyI]
      have e22 : I' 22 f = I 22 f := by subst hI; simp [pyI]
      simp only [hv_drop_i, hv_drop_r, hv_drop_n, hv_drop_a, hv_rf_some, r_X0_passYear_0, r_X0_passYear_1, r_X0_passYear_2, r_X0_passYear_3, r_X0_passYear_5, r_X0_passYear_6, r_X0_passYear_9, r_X0_passYear_12, r_X0_passYear_13, r_X0_passYear_16, r_X0_passYear_17, r_X0_passYear_18, r_X0_passYear_19, r_X0_passYear_20, r_X0_passYear_21, r_X0_passYear_24, r_X0_passYear_28, r_X0_passYear_29, r_X0_passYear_30, r_X0_passYear_31, r_X0_passYear_31i, r_X0_passYear_32, r_X0_passYear_35, r_X0_passYear_36, r_X0_passYear_39, r_X0_passYear_40, r_X0_passYear_41, r_X0_passYear_42, r_X0_passYear_43, r_X0_passYear_44, r_X0_passYear_47, r_X0_passYear_48, r_X0_passYear_52, r_X0_passYear_55, r_X0_passYear_56, r_X0_passYear_59, r_X0_passYear_60, r_X0_passYear_61, r_X0_passYear_62, r_X0_passYear_63, r_X0_passYear_64, r_X0_passYear_65, r_X0_passYear_68, r_X0_passYear_71, r_X0_passYear_74, r_X0_passYear_75, r_X0_passYear_75i, r_X0_passYear_76, r_X0_passYear_79, r_X0_passYear_80, r_X0_passYear_81, r_X0_passYear_84, r_X0_passYear_85, kdT hp, kd19, true_and, ppT2 hp, lnT2 hp, ln21, hv_ix_nI (show f < 5 by omega) (by decide), true_or, nI_clamp (n := f) (by omega), ppTr hp (show f < 5 by omega), lnTr hp (show f < 5 by omega), show hv_ix 2 5 = true by decide, c_2, t_uI, u_r (show p + 3 + f ≠ 21 by omega), u_r (show (19 : Nat) ≠ 21 by decide), hQ, e3, e21]
      generalize hI2 : iU (iU I' 21 f (I 21 f + lf T w f)) 19 3 (I 19 3 + sumI (fun f => nI (tQ T f 2)) f + nI (tQ T f 2)) = I2
      have hw2 : WC T I2 20 w := by
        subst hI2
        exact WC_congr (fun j => by simp [iU]) hw'
      have e22' : I2 22 f = I 22 f := by rw [← hI2, ← e22]; simp [iU]
      refine k_X0_passYear_49 kd19 (turnsOf_T (d := 0) hw2 h5 (by omega)) ?_
      have hn : (if bsT w (f + 1) 6 = 0 then iU I2 22 f (I 22 f + 1) else I2) = pyI T w I (f + 1) := by
        subst hI2
        subst hI
        exact pyI_step
      have hi := ih (f + 1) _ (by omega) hn
      by_cases hz : bsT w (f + 1) 6 = 0
      · simp only [hv_drop_i, hv_drop_r, hv_drop_n, hv_drop_a, hv_rf_some, r_X0_passYear_0, r_X0_passYear_1, r_X0_passYear_2, r_X0_passYear_3, r_X0_passYear_5, r_X0_passYear_6, r_X0_passYear_9, r_X0_passYear_12, r_X0_passYear_13, r_X0_passYear_16, r_X0_passYear_17, r_X0_passYear_18, r_X0_passYear_19, r_X0_passYear_20, r_X0_passYear_21, r_X0_passYear_24, r_X0_passYear_28, r_X0_passYear_29, r_X0_passYear_30, r_X0_passYear_31, r_X0_passYear_31i, r_X0_passYear_32, r_X0_passYear_35, r_X0_passYear_36, r_X0_passYear_39, r_X0_passYear_40, r_X0_passYear_41, r_X0_passYear_42, r_X0_passYear_43, r_X0_passYear_44, r_X0_passYear_47, r_X0_passYear_48, r_X0_passYear_52, r_X0_passYear_55, r_X0_passYear_56, r_X0_passYear_59, r_X0_passYear_60, r_X0_passYear_61, r_X0_passYear_62, r_X0_passYear_63, r_X0_passYear_64, r_X0_passYear_65, r_X0_passYear_68, r_X0_passYear_71, r_X0_passYear_74, r_X0_passYear_75, r_X0_passYear_75i, r_X0_passYear_76, r_X0_passYear_79, r_X0_passYear_80, r_X0_passYear_81, r_X0_passYear_84, r_X0_passYear_85, kd19, true_and, hz, ne_eq, not_true_eq_false, if_false, pp19_2, ln22, hv_ix_nI (show f < 5 by omega) (by decide), nI_clamp (n := f) (by omega), t_uI, e22', nI_1]
        simp only [hz, if_true, sumI, fz] at hi
        exact hi
      · simp only [hv_drop_i, hv_drop_r, hv_drop_n, hv_drop_a, hv_rf_some, r_X0_passYear_0, r_X0_passYear_1, r_X0_passYear_2, r_X0_passYear_3, r_X0_passYear_5, r_X0_passYear_6, r_X0_passYear_9, r_X0_passYear_12, r_X0_passYear_13, r_X0_passYear_16, r_X0_passYear_17, r_X0_passYear_18, r_X0_passYear_19, r_X0_passYear_20, r_X0_passYear_21, r_X0_passYear_24, r_X0_passYear_28, r_X0_passYear_29, r_X0_passYear_30, r_X0_passYear_31, r_X0_passYear_31i, r_X0_passYear_32, r_X0_passYear_35, r_X0_passYear_36, r_X0_passYear_39, r_X0_passYear_40, r_X0_passYear_41, r_X0_passYear_42, r_X0_passYear_43, r_X0_passYear_44, r_X0_passYear_47, r_X0_passYear_48, r_X0_passYear_52, r_X0_passYear_55, r_X0_passYear_56, r_X0_passYear_59, r_X0_passYear_60, r_X0_passYear_61, r_X0_passYear_62, r_X0_passYear_63, r_X0_passYear_64, r_X0_passYear_65, r_X0_passYear_68, r_X0_passYear_71, r_X0_passYear_74, r_X0_passYear_75, r_X0_passYear_75i, r_X0_passYear_76, r_X0_passYear_79, r_X0_passYear_80, r_X0_passYear_81, r_X0_passYear_84, r_X0_passYear_85, hz, ne_eq, not_false_eq_true, if_true, nI_1]
        simp only [hz, if_false, sumI, fz] at hi
        rw [show sumI (fz w) f + 0 = sumI (fz w) f by simp] at hi
        exact hi
  exact key (tF T) 0 I (by omega) (by
    funext k j
    simp [pyI, sumI]
    intro h1 h2
    subst h1
    subst h2
    rfl)
end YEARS
