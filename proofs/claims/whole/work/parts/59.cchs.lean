/-! ===== CHEESE of the class ===== -/
theorem gOk_mono {d own : Nat → Nat} {W j : Nat} : ∀ {k : Nat}, gOk d own W (j + k) = true → gOk d own W j = true
  | 0, h => h
  | k + 1, h => by
    have h' : (gOk d own W (j + k) && (decide (d (j + k) = 6) || (hrBit (own (j + k)) (d (j + k)) && !hrBit (tkG d W (j + k)) (d (j + k))))) = true := h
    rw [Bool.and_eq_true] at h'
    exact gOk_mono h'.1
theorem tk_ch {f q h W : Nat} (hh : h < 7) : tkG (hP (f + 1) (q * 7 + h)) W (f + 1) = if h = 6 then tkG (hP f q) W f else tkG (hP f q) W f ||| 2 ^ h := by
  show (if hP (f + 1) (q * 7 + h) f = 6 then tkG _ W f else tkG _ W f ||| 2 ^ hP (f + 1) (q * 7 + h) f) = _
  rw [hP_t hh, tkG_c (d' := hP f q) (fun u hu => hP_s hh hu)]
theorem cG_ch {f q h : Nat} (hh : h < 7) : cG (hP (f + 1) (q * 7 + h)) (f + 1) = cG (hP f q) f + if h = 6 then 0 else 1 := by
  rw [cG_s, hP_t hh, cG_c (d' := hP f q) (fun u hu => hP_s hh hu)]
theorem gOk_ch {f q h W : Nat} {own : Nat → Nat} (hh : h < 7) : gOk (hP (f + 1) (q * 7 + h)) own W (f + 1) = (gOk (hP f q) own W f && (decide (h = 6) || (hrBit (own f) h && !hrBit (tkG (hP f q) W f) h))) := by
  show (gOk _ own W f && (decide (hP (f + 1) (q * 7 + h) f = 6) || (hrBit (own f) (hP (f + 1) (q * 7 + h) f) && !hrBit (tkG (hP (f + 1) (q * 7 + h)) W f) (hP (f + 1) (q * 7 + h) f)))) = _
  rw [hP_t hh, tkG_c (d' := hP f q) (fun u hu => hP_s hh hu), gOk_c (d' := hP f q) (fun u hu => hP_s hh hu)]
theorem hr_blk {T : TD} {f k q r u : Nat} (hk : f + k = tF T) (hr' : r < 7 ^ k) (hu : u < f) : hr T (q * 7 ^ k + r) u = hP f q u := by
  rw [hr_hP (by omega), ← hk]
  exact hP_blk hr' hu
/-- codes that begin so are no codes -/
theorem blk_bad {T : TD} (hT : tOk T) {f k q i : Nat} (hk : f + k = tF T) (hb : ¬ gOk (hP f q) (fun u => tQ T u 4) (tW T) f = true) (h1 : q * 7 ^ k ≤ i) (h2 : i < q * 7 ^ k + 7 ^ k) : ¬ hrOk T i = true := fun z => by
  obtain ⟨r, hr'⟩ : ∃ r, i = q * 7 ^ k + r := ⟨i - q * 7 ^ k, by omega⟩
  subst hr'
  rw [hrOk_g hT, ← hk] at z
  have z2 := gOk_mono z
  rw [gOk_c (d' := hP f q) (fun u hu => hr_blk hk (by omega) hu)] at z2
  exact hb z2
theorem blk_cnt {T : TD} {f k q i : Nat} (hk : f + k = tF T) (h1 : q * 7 ^ k ≤ i) (h2 : i < q * 7 ^ k + 7 ^ k) : hrC T i ≤ cG (hP f q) f + k := by
  obtain ⟨r, hr'⟩ : ∃ r, i = q * 7 ^ k + r := ⟨i - q * 7 ^ k, by omega⟩
  subst hr'
  rw [hrC_g, ← hk]
  have := cG_grow (hr T (q * 7 ^ k + r)) f k
  rw [cG_c (d' := hP f q) (fun u hu => hr_blk hk (by omega) hu)] at this
  exact this
def VE (T : TD) (I : hI) (c : Nat) : Prop := I 63 1 = (crC T c).1 ∧ ((crC T c).1 ≠ -1000000 → ∀ f, f < tF T → I 64 f = hE (hr T (crC T c).2 f))
theorem VE_c {T : TD} {I I' : hI} {c : Nat} (h1 : I' 63 1 = I 63 1) (h2 : ∀ f, I' 64 f = I 64 f) (h : VE T I c) : VE T I' c := ⟨h1.trans h.1, fun z f hf => by rw [h2]; exact h.2 z f hf⟩
theorem VE_skip {T : TD} {I : hI} {c m : Nat} (hs : ∀ i, c ≤ i → i < c + m → hrOk T i = true → ¬ (crC T c).1 < nI (hrC T i)) (h : VE T I c) : VE T I (c + m) := by
  unfold VE
  rw [crC_skip hs]
  exact h
def VF (I I' : hI) : Prop := ∀ k j, ¬ (k = 63 ∧ j = 1) → k ≠ 64 → k ≠ 65 → I' k j = I k j
theorem VF_trans {I I1 I2 : hI} (h1 : VF I I1) (h2 : VF I1 I2) : VF I I2 := fun k j a b c => by rw [h2 k j a b c, h1 k j a b c]
section CCHS
variable {xs : hv_X} {L : hL} {τ : Bool} {T : TD}
theorem tryV_ok {p : Nat} (hp : p = 3 ∨ p = 11) (hT : tOk T) : ∀ k f q (I : hI), f + k = tF T → gOk (hP f q) (fun u => tQ T u 4) (tW T) f = true → TC T I p → (∀ u, u < f → I 65 u = hE (hP f q u)) → VE T I (q * 7 ^ k) →
    ∃ I' : hI, hv_Ok xs (1 + k) yX5_tryFrom [.ref 63, .ref p, .int (nI f), .int (nI (tkG (hP f q) (tW T) f)), .int (nI (cG (hP f q) f))] hv_SH (I, L, hv_PP τ) none (I', L, hv_PP τ) ∧ VE T I' ((q + 1) * 7 ^ k) ∧ VF I I' ∧ ∀ u, u < f → I' 65 u = I 65 u := by
  have h5 := hT.2.1
  have hW := hT.2.2.2.2
  intro k
  induction k with
  | zero =>
    intro f q I hk hg hC h65 hv
    have : f = tF T := by omega
    subst this
    have hcl := cG_le (hP (tF T) q) (tF T)
    have c5 : ¬ (5 : Int32) < nI (tF T) := Int32.not_lt.mpr (nI_le (a := tF T) (b := 5) h5 (by decide))
    have hc : nI (cG (hP (tF T) q) (tF T)) + nI (tF T) - nI (tF T) = nI (cG (hP (tF T) q) (tF T)) := by rw [nI_add, pk_sub (by omega)]; exact congrArg nI (by omega)
    have ehr : ∀ u, u < tF T → hr T q u = hP (tF T) q u := fun u hu => hr_hP hu
    have eC : hrC T q = cG (hP (tF T) q) (tF T) := by rw [hrC_g]; exact cG_c ehr
    have eO : hrOk T q = true := by rw [hrOk_g hT, gOk_c ehr]; exact hg
    rw [Nat.pow_zero, Nat.mul_one] at hv
    rw [Nat.pow_zero, Nat.mul_one]
    by_cases hb : I 63 1 < nI (cG (hP (tF T) q) (tF T))
    · obtain ⟨I1, hI1⟩ : ∃ I1 : hI, I1 = iR I 64 (va_cpy (I 65) (I 64) 0 0 5) := ⟨_, rfl⟩
      have f1 : ∀ k j, k ≠ 64 → I1 k j = I k j := fun k j h => by rw [hI1, r_n h]
      have em : crC T (q + 1) = (nI (hrC T q), q) := by
        show (if _ then _ else _) = _
        rw [if_pos]
        refine ⟨eO, ?_⟩
        rw [← hv.1, eC]
        exact hb
      refine ⟨iU I1 63 1 (nI (cG (hP (tF T) q) (tF T))), o_X5_tryFrom ?_, ⟨?_, fun _ f hf => ?_⟩, fun k j a b c => ?_, fun u hu => ?_⟩
      · simp only [hv_drop_i, hv_drop_r, hv_drop_n, hv_drop_a, hv_rf_some, r_X5_tryFrom_0, r_X5_tryFrom_1, r_X5_tryFrom_2, r_X5_tryFrom_5, r_X5_tryFrom_7, r_X5_tryFrom_8, r_X5_tryFrom_11, r_X5_tryFrom_12, r_X5_tryFrom_13, r_X5_tryFrom_14, r_X5_tryFrom_15, r_X5_tryFrom_18, r_X5_tryFrom_21, r_X5_tryFrom_22, r_X5_tryFrom_23, r_X5_tryFrom_24, r_X5_tryFrom_27, r_X5_tryFrom_30, r_X5_tryFrom_31, r_X5_tryFrom_34, r_X5_tryFrom_35, r_X5_tryFrom_36, r_X5_tryFrom_39, r_X5_tryFrom_40, r_X5_tryFrom_41, r_X5_tryFrom_44, r_X5_tryFrom_45, r_X5_tryFrom_47, r_X5_tryFrom_50, kd0, kd1, kd2, ln2, kd3, kd4, ln4, kd5, ln5, ln5_13, kd6, ln6, kd7, ln7, kd8, ln8, kd9, ln9, kd10, ln10, kd11, kd12, ln12, kd13, ln13, ln13_13, kd14, ln14, kd15, ln15, kd16, ln16, kd17, ln17, kd18, ln18, kd19, kd20, ln20, kd21, ln21, kd22, ln22, kd23, ln23, kd24, ln24, ln24_12, kd25, kd26, ln26, kd27, ln27, kd28, ln28, kd29, ln29, kd30, kd31, ln31, kd32, ln32, kd33, ln33, kd34, ln34, kd35, ln35, kd36, kd37, ln37, kd38, ln38, kd39, ln39, kd40, ln40, kd41, kd42, ln42, ln42_13, kd43, ln43, kd44, ln44, kd45, ln45, kd46, ln46, kd47, ln47, kd48, ln48, kd49, ln49, kd50, ln50, kd51, ln51, kd52, ln52, kd53, ln53, kd54, ln54, kd55, ln55, ln55_13, kd56, ln56, kd57, ln57, kd58, ln58, kd59, ln59, kd60, ln60, kd61, ln61, kd62, ln62, kd63, kd64, ln64, kd65, ln65, kd66, ln66, kd67, kd68, ln68, kd69, ln69, kd70, ln70, kd71, ln71, kd72, ln72, kd73, ln73, kd74, ln74, kd75, ln75, pp0_0, pp0_3, pp0_4, pp0_5, pp0_6, pp0_7, pp0_8, pp0_9, pp1_0, pp3_0, pp3_2, pp11_0, pp11_2, pp19_0, pp19_1, pp19_2, pp19_5, pp24_0, pp24_1, pp25_0, pp25_1, pp25_2, pp25_5, pp30_0, pp30_1, pp30_2, pp30_5, pp36_0, pp36_1, pp36_3, pp36_4, pp41_0, pp41_1, pp41_3, pp41_7, pp41_8, pp41_9, pp41_10, pp63_0, pp63_3, pp67_1, pp67_3, pp67_4, pp67_5, pp67_6, pp67_7, pp67_8, pp67_14, pp0_1, pp0_2, cx_0, cx_1, cx_2, cx_3, cx_4, cx_5, cx_6, cx_7, cx_8, cx_9, cx_10, cx_11, cx_12, cx_13, cx_14, cx_15, cx_16, cx_17, cx_18, cx_19, cx_20, cx_21, cx_22, cx_23, cx_24, cx_25, cx_26, cx_27, cx_28, cx_29, cx_30, cx_31, cx_32, cx_33, cx_34, cx_35, cx_36, cx_37, cx_38, cx_39, cx_40, cx_99, cx_63, cx_162, hx_0_5, hx_1_5, hx_2_5, hx_3_5, hx_4_5, hx_0_6, hx_1_6, hx_2_6, hx_3_6, hx_4_6, hx_5_6, hx_0_36, hx_1_36, hx_2_36, hx_3_36, hx_4_36, hx_5_36, hx_6_36, hx_7_36, hx_8_36, hx_9_36, hx_10_36, hx_11_36, hx_12_36, hx_13_36, hx_14_36, hx_15_36, hx_16_36, hx_17_36, hx_18_36, hx_19_36, hx_20_36, hx_21_36, hx_22_36, hx_23_36, hx_24_36, hx_25_36, hx_26_36, hx_27_36, hx_28_36, hx_29_36, hx_30_36, hx_31_36, hx_32_36, hx_33_36, hx_34_36, hx_35_36, hx_0_199, hx_1_199, hx_2_199, hx_3_199, hx_4_199, hx_5_199, hx_6_199, hx_7_199, hx_8_199, hx_9_199, hx_10_199, hx_11_199, hx_12_199, hx_13_199, hx_14_199, hx_15_199, hx_16_199, hx_17_199, hx_18_199, true_or, or_true, true_and, and_self, and_true, if_true, if_false, ne_eq, not_true_eq_false, not_false_eq_true, i10, t_uI, t_rI, hv_okQ_iff, c5, kdT hp, hC.2.1, hc, hb, Int32.lt_irrefl, show hv_al.contains (hv_kx 5 39) = true by decide, show 1 ≤ 1 + 0 by omega, hv_cat0, z_0, z_5, c_5, show 0 + 5 ≤ 5 by decide]
        rw [← hI1]
      · rw [u_s, em, eC]
      · rw [u_n (by omega), em, hI1, r_s, pk_cpy_in (by omega) (by omega), show 0 + (f - 0) = f by omega, h65 f hf, ehr f hf]
      · rw [u_n a, f1 k j b]
      · rw [u_n (by omega), f1 _ _ (by omega)]
    · refine ⟨I, o_X5_tryFrom ?_, ?_, fun _ _ _ _ _ => rfl, fun _ _ => rfl⟩
      · simp only [hv_drop_i, hv_drop_r, hv_drop_n, hv_drop_a, hv_rf_some, r_X5_tryFrom_0, r_X5_tryFrom_1, r_X5_tryFrom_2, r_X5_tryFrom_5, r_X5_tryFrom_7, r_X5_tryFrom_8, r_X5_tryFrom_11, r_X5_tryFrom_12, r_X5_tryFrom_13, r_X5_tryFrom_14, r_X5_tryFrom_15, r_X5_tryFrom_18, r_X5_tryFrom_21, kd0, kd1, kd2, ln2, kd3, kd4, ln4, kd5, ln5, ln5_13, kd6, ln6, kd7, ln7, kd8, ln8, kd9, ln9, kd10, ln10, kd11, kd12, ln12, kd13, ln13, ln13_13, kd14, ln14, kd15, ln15, kd16, ln16, kd17, ln17, kd18, ln18, kd19, kd20, ln20, kd21, ln21, kd22, ln22, kd23, ln23, kd24, ln24, ln24_12, kd25, kd26, ln26, kd27, ln27, kd28, ln28, kd29, ln29, kd30, kd31, ln31, kd32, ln32, kd33, ln33, kd34, ln34, kd35, ln35, kd36, kd37, ln37, kd38, ln38, kd39, ln39, kd40, ln40, kd41, kd42, ln42, ln42_13, kd43, ln43, kd44, ln44, kd45, ln45, kd46, ln46, kd47, ln47, kd48, ln48, kd49, ln49, kd50, ln50, kd51, ln51, kd52, ln52, kd53, ln53, kd54, ln54, kd55, ln55, ln55_13, kd56, ln56, kd57, ln57, kd58, ln58, kd59, ln59, kd60, ln60, kd61, ln61, kd62, ln62, kd63, kd64, ln64, kd65, ln65, kd66, ln66, kd67, kd68, ln68, kd69, ln69, kd70, ln70, kd71, ln71, kd72, ln72, kd73, ln73, kd74, ln74, kd75, ln75, pp0_0, pp0_3, pp0_4, pp0_5, pp0_6, pp0_7, pp0_8, pp0_9, pp1_0, pp3_0, pp3_2, pp11_0, pp11_2, pp19_0, pp19_1, pp19_2, pp19_5, pp24_0, pp24_1, pp25_0, pp25_1, pp25_2, pp25_5, pp30_0, pp30_1, pp30_2, pp30_5, pp36_0, pp36_1, pp36_3, pp36_4, pp41_0, pp41_1, pp41_3, pp41_7, pp41_8, pp41_9, pp41_10, pp63_0, pp63_3, pp67_1, pp67_3, pp67_4, pp67_5, pp67_6, pp67_7, pp67_8, pp67_14, pp0_1, pp0_2, cx_0, cx_1, cx_2, cx_3, cx_4, cx_5, cx_6, cx_7, cx_8, cx_9, cx_10, cx_11, cx_12, cx_13, cx_14, cx_15, cx_16, cx_17, cx_18, cx_19, cx_20, cx_21, cx_22, cx_23, cx_24, cx_25, cx_26, cx_27, cx_28, cx_29, cx_30, cx_31, cx_32, cx_33, cx_34, cx_35, cx_36, cx_37, cx_38, cx_39, cx_40, cx_99, cx_63, cx_162, hx_0_5, hx_1_5, hx_2_5, hx_3_5, hx_4_5, hx_0_6, hx_1_6, hx_2_6, hx_3_6, hx_4_6, hx_5_6, hx_0_36, hx_1_36, hx_2_36, hx_3_36, hx_4_36, hx_5_36, hx_6_36, hx_7_36, hx_8_36, hx_9_36, hx_10_36, hx_11_36, hx_12_36, hx_13_36, hx_14_36, hx_15_36, hx_16_36, hx_17_36, hx_18_36, hx_19_36, hx_20_36, hx_21_36, hx_22_36, hx_23_36, hx_24_36, hx_25_36, hx_26_36, hx_27_36, hx_28_36, hx_29_36, hx_30_36, hx_31_36, hx_32_36, hx_33_36, hx_34_36, hx_35_36, hx_0_199, hx_1_199, hx_2_199, hx_3_199, hx_4_199, hx_5_199, hx_6_199, hx_7_199, hx_8_199, hx_9_199, hx_10_199, hx_11_199, hx_12_199, hx_13_199, hx_14_199, hx_15_199, hx_16_199, hx_17_199, hx_18_199, true_or, or_true, true_and, and_self, and_true, if_true, if_false, ne_eq, not_true_eq_false, not_false_eq_true, i10, t_uI, t_rI, hv_okQ_iff, c5, kdT hp, hC.2.1, hc, hb]
      · refine VE_skip (m := 1) (fun i z1 z2 z3 z4 => hb ?_) hv
        have : i = q := by omega
        subst this
        rw [hv.1, ← eC]
        exact z4
  | succ k ih =>
    intro f q I hk hg hC h65 hv
    have hf : f < tF T := by omega
    have hcl := cG_le (hP f q) f
    have c5 : ¬ (5 : Int32) < nI f := Int32.not_lt.mpr (nI_le (a := f) (b := 5) (by omega) (by decide))
    have hc : nI (cG (hP f q) f) + nI (tF T) - nI f = nI (cG (hP f q) f + (k + 1)) := by rw [nI_add, pk_sub (by omega)]; exact congrArg nI (by omega)
    have hpow : (q + 1) * 7 ^ (k + 1) = q * 7 ^ (k + 1) + 7 ^ (k + 1) := by rw [Nat.add_mul, Nat.one_mul]
    by_cases hb : I 63 1 < nI (cG (hP f q) f + (k + 1))
    · have tl := tkG_lt (d := hP f q) hW (j := f) (fun u _ => hP_lt f q u)
      generalize htk : tkG (hP f q) (tW T) f = tk at tl
      have ol : tQ T f 4 < 64 := by have := (hT.2.2.2.1 f hf).2.2.2.2; omega
      have qB : ∀ h, (q * 7 + h) * 7 ^ k = q * 7 ^ (k + 1) + h * 7 ^ k := fun h => by
        rw [Nat.add_mul, Nat.pow_succ, Nat.mul_assoc, Nat.mul_comm 7 (7 ^ k)]
      have opl := and_lt ⟨tQ T f 4, ol⟩ ⟨tk, tl⟩
      have eo : nI (tQ T f 4) &&& (nI tk ^^^ (-1)) = nI (tQ T f 4 &&& (63 ^^^ tk)) := and_not ⟨tQ T f 4, ol⟩ ⟨tk, tl⟩
      have hbit : ∀ h, h < 6 → hrBit (tQ T f 4 &&& (63 ^^^ tk)) h = (hrBit (tQ T f 4) h && !hrBit tk h) := fun h hh => hb_and _ _ h hh
      generalize hop : tQ T f 4 &&& (63 ^^^ tk) = op at opl eo hbit
      have opl' : op < 64 := opl
      have hgc : ∀ h, h < 7 → (gOk (hP (f + 1) (q * 7 + h)) (fun u => tQ T u 4) (tW T) (f + 1) = true ↔ h = 6 ∨ hrBit op h = true) := fun h hh => by
        rw [gOk_ch hh, hg, htk, Bool.true_and, Bool.or_eq_true, decide_eq_true_eq]
        by_cases z : h = 6
        · exact ⟨fun _ => Or.inl z, fun _ => Or.inl z⟩
        · rw [hbit h (by omega)]
      have hch65 : ∀ (I2 : hI) h, h < 7 → (∀ u, u < f → I2 65 u = I 65 u) → I2 65 f = hE h → ∀ u, u < f + 1 → I2 65 u = hE (hP (f + 1) (q * 7 + h) u) := fun I2 h hh z1 z2 u hu => by
        by_cases e : u = f
        · subst e; rw [z2, hP_t hh]
        · rw [z1 u (by omega), hP_s hh (by omega), h65 u (by omega)]
      have loop : ∀ m h (I' : hI), h + m = 6 → VE T I' ((q * 7 + h) * 7 ^ k) → VF I I' → (∀ u, u < f → I' 65 u = I 65 u) →
          ∃ If : hI, P_X5_tryFrom xs (1 + (k + 1)) (hv_okQ none hv_SH (If, L, hv_PP τ)) 68 [some (.ref 63), some (.ref p), some (.int (nI f)), some (.int (nI tk)), some (.int (nI (cG (hP f q) f))), some (.int (nI op)), some (.int (nI h))] [] (hv_SH, 0, 0) (I', L, hv_PP τ) ∧ VE T If ((q + 1) * 7 ^ (k + 1)) ∧ VF I If ∧ ∀ u, u < f → If 65 u = I 65 u := by
        intro m
        induction m with
        | zero =>
          intro h I' hm h1 h2 h3
          have : h = 6 := by omega
          subst this
          obtain ⟨I2, hI2⟩ : ∃ I2 : hI, I2 = iU I' 65 f (-1) := ⟨_, rfl⟩
          have f2 : VF I' I2 := fun k j a b c => by rw [hI2, u_n (by omega)]
          have u2 : ∀ u, u < f → I2 65 u = I 65 u := fun u hu => by rw [hI2, u_n (by omega)]; exact h3 u hu
          obtain ⟨I3, ok3, o1, o2, o3⟩ := ih (f + 1) (q * 7 + 6) I2 (by omega) ((hgc 6 (by omega)).mpr (Or.inl rfl)) (TC_congr hp h5 (fun k j _ _ => VF_trans h2 f2 _ _ (by omega) (by omega) (by omega)) hC) (hch65 I2 6 (by omega) u2 (by rw [hI2, u_s]; rfl)) (VE_c (by rw [hI2, u_n (by omega)]) (fun u => by rw [hI2, u_n (by omega)]) h1)
          rw [tk_ch (by omega), cG_ch (by omega), if_pos rfl, if_pos rfl, htk, Nat.add_zero] at ok3
          refine ⟨I3, ?_, ?_, VF_trans h2 (VF_trans f2 o2), fun u hu => by rw [o3 u (by omega)]; exact u2 u hu⟩
          · have c6 : (6 : Int32) ≤ nI 6 := by decide
            simp only [hv_drop_i, hv_drop_r, hv_drop_n, hv_drop_a, hv_rf_some, r_X5_tryFrom_68, r_X5_tryFrom_70, r_X5_tryFrom_72, hv_drop_i, hv_drop_r, hv_drop_n, hv_drop_a, hv_rf_some, r_X5_tryFrom_117, r_X5_tryFrom_118, r_X5_tryFrom_121, r_X5_tryFrom_122, r_X5_tryFrom_123, r_X5_tryFrom_124, r_X5_tryFrom_125, r_X5_tryFrom_126, r_X5_tryFrom_127, r_X5_tryFrom_128, r_X5_tryFrom_129, r_X5_tryFrom_130, kd0, kd1, kd2, ln2, kd3, kd4, ln4, kd5, ln5, ln5_13, kd6, ln6, kd7, ln7, kd8, ln8, kd9, ln9, kd10, ln10, kd11, kd12, ln12, kd13, ln13, ln13_13, kd14, ln14, kd15, ln15, kd16, ln16, kd17, ln17, kd18, ln18, kd19, kd20, ln20, kd21, ln21, kd22, ln22, kd23, ln23, kd24, ln24, ln24_12, kd25, kd26, ln26, kd27, ln27, kd28, ln28, kd29, ln29, kd30, kd31, ln31, kd32, ln32, kd33, ln33, kd34, ln34, kd35, ln35, kd36, kd37, ln37, kd38, ln38, kd39, ln39, kd40, ln40, kd41, kd42, ln42, ln42_13, kd43, ln43, kd44, ln44, kd45, ln45, kd46, ln46, kd47, ln47, kd48, ln48, kd49, ln49, kd50, ln50, kd51, ln51, kd52, ln52, kd53, ln53, kd54, ln54, kd55, ln55, ln55_13, kd56, ln56, kd57, ln57, kd58, ln58, kd59, ln59, kd60, ln60, kd61, ln61, kd62, ln62, kd63, kd64, ln64, kd65, ln65, kd66, ln66, kd67, kd68, ln68, kd69, ln69, kd70, ln70, kd71, ln71, kd72, ln72, kd73, ln73, kd74, ln74, kd75, ln75, pp0_0, pp0_3, pp0_4, pp0_5, pp0_6, pp0_7, pp0_8, pp0_9, pp1_0, pp3_0, pp3_2, pp11_0, pp11_2, pp19_0, pp19_1, pp19_2, pp19_5, pp24_0, pp24_1, pp25_0, pp25_1, pp25_2, pp25_5, pp30_0, pp30_1, pp30_2, pp30_5, pp36_0, pp36_1, pp36_3, pp36_4, pp41_0, pp41_1, pp41_3, pp41_7, pp41_8, pp41_9, pp41_10, pp63_0, pp63_3, pp67_1, pp67_3, pp67_4, pp67_5, pp67_6, pp67_7, pp67_8, pp67_14, pp0_1, pp0_2, cx_0, cx_1, cx_2, cx_3, cx_4, cx_5, cx_6, cx_7, cx_8, cx_9, cx_10, cx_11, cx_12, cx_13, cx_14, cx_15, cx_16, cx_17, cx_18, cx_19, cx_20, cx_21, cx_22, cx_23, cx_24, cx_25, cx_26, cx_27, cx_28, cx_29, cx_30, cx_31, cx_32, cx_33, cx_34, cx_35, cx_36, cx_37, cx_38, cx_39, cx_40, cx_99, cx_63, cx_162, hx_0_5, hx_1_5, hx_2_5, hx_3_5, hx_4_5, hx_0_6, hx_1_6, hx_2_6, hx_3_6, hx_4_6, hx_5_6, hx_0_36, hx_1_36, hx_2_36, hx_3_36, hx_4_36, hx_5_36, hx_6_36, hx_7_36, hx_8_36, hx_9_36, hx_10_36, hx_11_36, hx_12_36, hx_13_36, hx_14_36, hx_15_36, hx_16_36, hx_17_36, hx_18_36, hx_19_36, hx_20_36, hx_21_36, hx_22_36, hx_23_36, hx_24_36, hx_25_36, hx_26_36, hx_27_36, hx_28_36, hx_29_36, hx_30_36, hx_31_36, hx_32_36, hx_33_36, hx_34_36, hx_35_36, hx_0_199, hx_1_199, hx_2_199, hx_3_199, hx_4_199, hx_5_199, hx_6_199, hx_7_199, hx_8_199, hx_9_199, hx_10_199, hx_11_199, hx_12_199, hx_13_199, hx_14_199, hx_15_199, hx_16_199, hx_17_199, hx_18_199, true_or, or_true, true_and, and_self, and_true, if_true, if_false, ne_eq, not_true_eq_false, not_false_eq_true, i10, t_uI, t_rI, hv_okQ_iff, c6, hv_ix_nI (show f < 5 by omega) (by decide), nI_clamp (n := f) (by omega), nI_1]
            rw [← hI2]
            refine k_X5_tryFrom_132 kd63 ok3 ?_
            simp only [hv_drop_i, hv_drop_r, hv_drop_n, hv_drop_a, hv_rf_some, r_X5_tryFrom_135, kd0, kd1, kd2, ln2, kd3, kd4, ln4, kd5, ln5, ln5_13, kd6, ln6, kd7, ln7, kd8, ln8, kd9, ln9, kd10, ln10, kd11, kd12, ln12, kd13, ln13, ln13_13, kd14, ln14, kd15, ln15, kd16, ln16, kd17, ln17, kd18, ln18, kd19, kd20, ln20, kd21, ln21, kd22, ln22, kd23, ln23, kd24, ln24, ln24_12, kd25, kd26, ln26, kd27, ln27, kd28, ln28, kd29, ln29, kd30, kd31, ln31, kd32, ln32, kd33, ln33, kd34, ln34, kd35, ln35, kd36, kd37, ln37, kd38, ln38, kd39, ln39, kd40, ln40, kd41, kd42, ln42, ln42_13, kd43, ln43, kd44, ln44, kd45, ln45, kd46, ln46, kd47, ln47, kd48, ln48, kd49, ln49, kd50, ln50, kd51, ln51, kd52, ln52, kd53, ln53, kd54, ln54, kd55, ln55, ln55_13, kd56, ln56, kd57, ln57, kd58, ln58, kd59, ln59, kd60, ln60, kd61, ln61, kd62, ln62, kd63, kd64, ln64, kd65, ln65, kd66, ln66, kd67, kd68, ln68, kd69, ln69, kd70, ln70, kd71, ln71, kd72, ln72, kd73, ln73, kd74, ln74, kd75, ln75, pp0_0, pp0_3, pp0_4, pp0_5, pp0_6, pp0_7, pp0_8, pp0_9, pp1_0, pp3_0, pp3_2, pp11_0, pp11_2, pp19_0, pp19_1, pp19_2, pp19_5, pp24_0, pp24_1, pp25_0, pp25_1, pp25_2, pp25_5, pp30_0, pp30_1, pp30_2, pp30_5, pp36_0, pp36_1, pp36_3, pp36_4, pp41_0, pp41_1, pp41_3, pp41_7, pp41_8, pp41_9, pp41_10, pp63_0, pp63_3, pp67_1, pp67_3, pp67_4, pp67_5, pp67_6, pp67_7, pp67_8, pp67_14, pp0_1, pp0_2, cx_0, cx_1, cx_2, cx_3, cx_4, cx_5, cx_6, cx_7, cx_8, cx_9, cx_10, cx_11, cx_12, cx_13, cx_14, cx_15, cx_16, cx_17, cx_18, cx_19, cx_20, cx_21, cx_22, cx_23, cx_24, cx_25, cx_26, cx_27, cx_28, cx_29, cx_30, cx_31, cx_32, cx_33, cx_34, cx_35, cx_36, cx_37, cx_38, cx_39, cx_40, cx_99, cx_63, cx_162, hx_0_5, hx_1_5, hx_2_5, hx_3_5, hx_4_5, hx_0_6, hx_1_6, hx_2_6, hx_3_6, hx_4_6, hx_5_6, hx_0_36, hx_1_36, hx_2_36, hx_3_36, hx_4_36, hx_5_36, hx_6_36, hx_7_36, hx_8_36, hx_9_36, hx_10_36, hx_11_36, hx_12_36, hx_13_36, hx_14_36, hx_15_36, hx_16_36, hx_17_36, hx_18_36, hx_19_36, hx_20_36, hx_21_36, hx_22_36, hx_23_36, hx_24_36, hx_25_36, hx_26_36, hx_27_36, hx_28_36, hx_29_36, hx_30_36, hx_31_36, hx_32_36, hx_33_36, hx_34_36, hx_35_36, hx_0_199, hx_1_199, hx_2_199, hx_3_199, hx_4_199, hx_5_199, hx_6_199, hx_7_199, hx_8_199, hx_9_199, hx_10_199, hx_11_199, hx_12_199, hx_13_199, hx_14_199, hx_15_199, hx_16_199, hx_17_199, hx_18_199, true_or, or_true, true_and, and_self, and_true, if_true, if_false, ne_eq, not_true_eq_false, not_false_eq_true, i10, t_uI, t_rI, hv_okQ_iff]
          · have e : (q * 7 + 6 + 1) * 7 ^ k = (q + 1) * 7 ^ (k + 1) := by
              rw [Nat.pow_succ, Nat.mul_comm (7 ^ k) 7, ← Nat.mul_assoc]
              congr 1
              omega
            rw [← e]
            exact o1
        | succ m ihm =>
          intro h I' hm h1 h2 h3
          have hh : h < 6 := by omega
          have c6 : ¬ (6 : Int32) ≤ nI h := by
            rw [show (6 : Int32) = nI 6 by decide]
            exact nI_ge hh (by decide)
          have az : nI op &&& ((1 : Int32) <<< (nI h &&& 31)) = 0 ↔ hrBit op h = false := and_shl ⟨op, opl'⟩ ⟨h, hh⟩
          by_cases z : hrBit op h = true
          · have hz : ¬ nI op &&& ((1 : Int32) <<< (nI h &&& 31)) = 0 := fun y => by rw [az, z] at y; exact absurd y (by decide)
            obtain ⟨I2, hI2⟩ : ∃ I2 : hI, I2 = iU I' 65 f (nI h) := ⟨_, rfl⟩
            have f2 : VF I' I2 := fun k j a b c => by rw [hI2, u_n (by omega)]
            have u2 : ∀ u, u < f → I2 65 u = I 65 u := fun u hu => by rw [hI2, u_n (by omega)]; exact h3 u hu
            have eh : hE h = nI h := by unfold hE; rw [if_neg (by omega)]
            obtain ⟨I3, ok3, o1, o2, o3⟩ := ih (f + 1) (q * 7 + h) I2 (by omega) ((hgc h (by omega)).mpr (Or.inr z)) (TC_congr hp h5 (fun k j _ _ => VF_trans h2 f2 _ _ (by omega) (by omega) (by omega)) hC) (hch65 I2 h (by omega) u2 (by rw [hI2, u_s, eh])) (VE_c (by rw [hI2, u_n (by omega)]) (fun u => by rw [hI2, u_n (by omega)]) h1)
            rw [tk_ch (by omega), cG_ch (by omega), if_neg (show ¬ h = 6 by omega), if_neg (show ¬ h = 6 by omega), htk] at ok3
            obtain ⟨If, g1, g2⟩ := ihm (h + 1) I3 (by omega) o1 (VF_trans h2 (VF_trans f2 o2)) (fun u hu => by rw [o3 u (by omega)]; exact u2 u hu)
            refine ⟨If, ?_, g2⟩
            have eor : nI tk ||| ((1 : Int32) <<< (nI h &&& 31)) = nI (tk ||| 2 ^ h) := or_shl ⟨tk, tl⟩ ⟨h, hh⟩
            rw [r_X5_tryFrom_68]
            simp only [hv_drop_i, hv_drop_r, hv_drop_n, hv_drop_a, hv_rf_some, r_X5_tryFrom_70, r_X5_tryFrom_72, r_X5_tryFrom_75, r_X5_tryFrom_77, r_X5_tryFrom_78, r_X5_tryFrom_80, r_X5_tryFrom_81, r_X5_tryFrom_82, r_X5_tryFrom_85, r_X5_tryFrom_86, r_X5_tryFrom_89, r_X5_tryFrom_90, r_X5_tryFrom_92, r_X5_tryFrom_93, r_X5_tryFrom_94, r_X5_tryFrom_95, r_X5_tryFrom_96, r_X5_tryFrom_97, r_X5_tryFrom_98, r_X5_tryFrom_99, r_X5_tryFrom_100, r_X5_tryFrom_102, r_X5_tryFrom_103, r_X5_tryFrom_104, r_X5_tryFrom_106, r_X5_tryFrom_107, kd0, kd1, kd2, ln2, kd3, kd4, ln4, kd5, ln5, ln5_13, kd6, ln6, kd7, ln7, kd8, ln8, kd9, ln9, kd10, ln10, kd11, kd12, ln12, kd13, ln13, ln13_13, kd14, ln14, kd15, ln15, kd16, ln16, kd17, ln17, kd18, ln18, kd19, kd20, ln20, kd21, ln21, kd22, ln22, kd23, ln23, kd24, ln24, ln24_12, kd25, kd26, ln26, kd27, ln27, kd28, ln28, kd29, ln29, kd30, kd31, ln31, kd32, ln32, kd33, ln33, kd34, ln34, kd35, ln35, kd36, kd37, ln37, kd38, ln38, kd39, ln39, kd40, ln40, kd41, kd42, ln42, ln42_13, kd43, ln43, kd44, ln44, kd45, ln45, kd46, ln46, kd47, ln47, kd48, ln48, kd49, ln49, kd50, ln50, kd51, ln51, kd52, ln52, kd53, ln53, kd54, ln54, kd55, ln55, ln55_13, kd56, ln56, kd57, ln57, kd58, ln58, kd59, ln59, kd60, ln60, kd61, ln61, kd62, ln62, kd63, kd64, ln64, kd65, ln65, kd66, ln66, kd67, kd68, ln68, kd69, ln69, kd70, ln70, kd71, ln71, kd72, ln72, kd73, ln73, kd74, ln74, kd75, ln75, pp0_0, pp0_3, pp0_4, pp0_5, pp0_6, pp0_7, pp0_8, pp0_9, pp1_0, pp3_0, pp3_2, pp11_0, pp11_2, pp19_0, pp19_1, pp19_2, pp19_5, pp24_0, pp24_1, pp25_0, pp25_1, pp25_2, pp25_5, pp30_0, pp30_1, pp30_2, pp30_5, pp36_0, pp36_1, pp36_3, pp36_4, pp41_0, pp41_1, pp41_3, pp41_7, pp41_8, pp41_9, pp41_10, pp63_0, pp63_3, pp67_1, pp67_3, pp67_4, pp67_5, pp67_6, pp67_7, pp67_8, pp67_14, pp0_1, pp0_2, cx_0, cx_1, cx_2, cx_3, cx_4, cx_5, cx_6, cx_7, cx_8, cx_9, cx_10, cx_11, cx_12, cx_13, cx_14, cx_15, cx_16, cx_17, cx_18, cx_19, cx_20, cx_21, cx_22, cx_23, cx_24, cx_25, cx_26, cx_27, cx_28, cx_29, cx_30, cx_31, cx_32, cx_33, cx_34, cx_35, cx_36, cx_37, cx_38, cx_39, cx_40, cx_99, cx_63, cx_162, hx_0_5, hx_1_5, hx_2_5, hx_3_5, hx_4_5, hx_0_6, hx_1_6, hx_2_6, hx_3_6, hx_4_6, hx_5_6, hx_0_36, hx_1_36, hx_2_36, hx_3_36, hx_4_36, hx_5_36, hx_6_36, hx_7_36, hx_8_36, hx_9_36, hx_10_36, hx_11_36, hx_12_36, hx_13_36, hx_14_36, hx_15_36, hx_16_36, hx_17_36, hx_18_36, hx_19_36, hx_20_36, hx_21_36, hx_22_36, hx_23_36, hx_24_36, hx_25_36, hx_26_36, hx_27_36, hx_28_36, hx_29_36, hx_30_36, hx_31_36, hx_32_36, hx_33_36, hx_34_36, hx_35_36, hx_0_199, hx_1_199, hx_2_199, hx_3_199, hx_4_199, hx_5_199, hx_6_199, hx_7_199, hx_8_199, hx_9_199, hx_10_199, hx_11_199, hx_12_199, hx_13_199, hx_14_199, hx_15_199, hx_16_199, hx_17_199, hx_18_199, true_or, or_true, true_and, and_self, and_true, if_true, if_false, ne_eq, not_true_eq_false, not_false_eq_true, i10, t_uI, t_rI, hv_okQ_iff, c6, hz, eor, hv_ix_nI (show f < 5 by omega) (by decide), nI_clamp (n := f) (by omega), nI_1]
            rw [← hI2]
            refine k_X5_tryFrom_108 kd63 ok3 ?_
            simp only [hv_drop_i, hv_drop_r, hv_drop_n, hv_drop_a, hv_rf_some, r_X5_tryFrom_111, r_X5_tryFrom_114, kd0, kd1, kd2, ln2, kd3, kd4, ln4, kd5, ln5, ln5_13, kd6, ln6, kd7, ln7, kd8, ln8, kd9, ln9, kd10, ln10, kd11, kd12, ln12, kd13, ln13, ln13_13, kd14, ln14, kd15, ln15, kd16, ln16, kd17, ln17, kd18, ln18, kd19, kd20, ln20, kd21, ln21, kd22, ln22, kd23, ln23, kd24, ln24, ln24_12, kd25, kd26, ln26, kd27, ln27, kd28, ln28, kd29, ln29, kd30, kd31, ln31, kd32, ln32, kd33, ln33, kd34, ln34, kd35, ln35, kd36, kd37, ln37, kd38, ln38, kd39, ln39, kd40, ln40, kd41, kd42, ln42, ln42_13, kd43, ln43, kd44, ln44, kd45, ln45, kd46, ln46, kd47, ln47, kd48, ln48, kd49, ln49, kd50, ln50, kd51, ln51, kd52, ln52, kd53, ln53, kd54, ln54, kd55, ln55, ln55_13, kd56, ln56, kd57, ln57, kd58, ln58, kd59, ln59, kd60, ln60, kd61, ln61, kd62, ln62, kd63, kd64, ln64, kd65, ln65, kd66, ln66, kd67, kd68, ln68, kd69, ln69, kd70, ln70, kd71, ln71, kd72, ln72, kd73, ln73, kd74, ln74, kd75, ln75, pp0_0, pp0_3, pp0_4, pp0_5, pp0_6, pp0_7, pp0_8, pp0_9, pp1_0, pp3_0, pp3_2, pp11_0, pp11_2, pp19_0, pp19_1, pp19_2, pp19_5, pp24_0, pp24_1, pp25_0, pp25_1, pp25_2, pp25_5, pp30_0, pp30_1, pp30_2, pp30_5, pp36_0, pp36_1, pp36_3, pp36_4, pp41_0, pp41_1, pp41_3, pp41_7, pp41_8, pp41_9, pp41_10, pp63_0, pp63_3, pp67_1, pp67_3, pp67_4, pp67_5, pp67_6, pp67_7, pp67_8, pp67_14, pp0_1, pp0_2, cx_0, cx_1, cx_2, cx_3, cx_4, cx_5, cx_6, cx_7, cx_8, cx_9, cx_10, cx_11, cx_12, cx_13, cx_14, cx_15, cx_16, cx_17, cx_18, cx_19, cx_20, cx_21, cx_22, cx_23, cx_24, cx_25, cx_26, cx_27, cx_28, cx_29, cx_30, cx_31, cx_32, cx_33, cx_34, cx_35, cx_36, cx_37, cx_38, cx_39, cx_40, cx_99, cx_63, cx_162, hx_0_5, hx_1_5, hx_2_5, hx_3_5, hx_4_5, hx_0_6, hx_1_6, hx_2_6, hx_3_6, hx_4_6, hx_5_6, hx_0_36, hx_1_36, hx_2_36, hx_3_36, hx_4_36, hx_5_36, hx_6_36, hx_7_36, hx_8_36, hx_9_36, hx_10_36, hx_11_36, hx_12_36, hx_13_36, hx_14_36, hx_15_36, hx_16_36, hx_17_36, hx_18_36, hx_19_36, hx_20_36, hx_21_36, hx_22_36, hx_23_36, hx_24_36, hx_25_36, hx_26_36, hx_27_36, hx_28_36, hx_29_36, hx_30_36, hx_31_36, hx_32_36, hx_33_36, hx_34_36, hx_35_36, hx_0_199, hx_1_199, hx_2_199, hx_3_199, hx_4_199, hx_5_199, hx_6_199, hx_7_199, hx_8_199, hx_9_199, hx_10_199, hx_11_199, hx_12_199, hx_13_199, hx_14_199, hx_15_199, hx_16_199, hx_17_199, hx_18_199, true_or, or_true, true_and, and_self, and_true, if_true, if_false, ne_eq, not_true_eq_false, not_false_eq_true, i10, t_uI, t_rI, hv_okQ_iff, nI_1]
            exact g1
          · have z' : hrBit op h = false := Bool.eq_false_iff.mpr z
            have hz : nI op &&& ((1 : Int32) <<< (nI h &&& 31)) = 0 := az.mpr z'
            have bad : ¬ gOk (hP (f + 1) (q * 7 + h)) (fun u => tQ T u 4) (tW T) (f + 1) = true := fun y => by
              rcases (hgc h (by omega)).mp y with y | y
              · omega
              · exact z y
            have ve : VE T I' ((q * 7 + (h + 1)) * 7 ^ k) := by
              rw [show q * 7 + (h + 1) = q * 7 + h + 1 by omega, Nat.add_mul (q * 7 + h) 1, Nat.one_mul]
              exact VE_skip (fun i z1 z2 z3 => absurd z3 (blk_bad hT (f := f + 1) (by omega) bad z1 z2)) h1
            obtain ⟨If, g1, g2⟩ := ihm (h + 1) I' (by omega) ve h2 h3
            refine ⟨If, ?_, g2⟩
            rw [r_X5_tryFrom_68]
            simp only [hv_drop_i, hv_drop_r, hv_drop_n, hv_drop_a, hv_rf_some, r_X5_tryFrom_70, r_X5_tryFrom_72, r_X5_tryFrom_75, r_X5_tryFrom_77, r_X5_tryFrom_78, r_X5_tryFrom_80, r_X5_tryFrom_81, r_X5_tryFrom_82, hv_drop_i, hv_drop_r, hv_drop_n, hv_drop_a, hv_rf_some, r_X5_tryFrom_111, r_X5_tryFrom_114, kd0, kd1, kd2, ln2, kd3, kd4, ln4, kd5, ln5, ln5_13, kd6, ln6, kd7, ln7, kd8, ln8, kd9, ln9, kd10, ln10, kd11, kd12, ln12, kd13, ln13, ln13_13, kd14, ln14, kd15, ln15, kd16, ln16, kd17, ln17, kd18, ln18, kd19, kd20, ln20, kd21, ln21, kd22, ln22, kd23, ln23, kd24, ln24, ln24_12, kd25, kd26, ln26, kd27, ln27, kd28, ln28, kd29, ln29, kd30, kd31, ln31, kd32, ln32, kd33, ln33, kd34, ln34, kd35, ln35, kd36, kd37, ln37, kd38, ln38, kd39, ln39, kd40, ln40, kd41, kd42, ln42, ln42_13, kd43, ln43, kd44, ln44, kd45, ln45, kd46, ln46, kd47, ln47, kd48, ln48, kd49, ln49, kd50, ln50, kd51, ln51, kd52, ln52, kd53, ln53, kd54, ln54, kd55, ln55, ln55_13, kd56, ln56, kd57, ln57, kd58, ln58, kd59, ln59, kd60, ln60, kd61, ln61, kd62, ln62, kd63, kd64, ln64, kd65, ln65, kd66, ln66, kd67, kd68, ln68, kd69, ln69, kd70, ln70, kd71, ln71, kd72, ln72, kd73, ln73, kd74, ln74, kd75, ln75, pp0_0, pp0_3, pp0_4, pp0_5, pp0_6, pp0_7, pp0_8, pp0_9, pp1_0, pp3_0, pp3_2, pp11_0, pp11_2, pp19_0, pp19_1, pp19_2, pp19_5, pp24_0, pp24_1, pp25_0, pp25_1, pp25_2, pp25_5, pp30_0, pp30_1, pp30_2, pp30_5, pp36_0, pp36_1, pp36_3, pp36_4, pp41_0, pp41_1, pp41_3, pp41_7, pp41_8, pp41_9, pp41_10, pp63_0, pp63_3, pp67_1, pp67_3, pp67_4, pp67_5, pp67_6, pp67_7, pp67_8, pp67_14, pp0_1, pp0_2, cx_0, cx_1, cx_2, cx_3, cx_4, cx_5, cx_6, cx_7, cx_8, cx_9, cx_10, cx_11, cx_12, cx_13, cx_14, cx_15, cx_16, cx_17, cx_18, cx_19, cx_20, cx_21, cx_22, cx_23, cx_24, cx_25, cx_26, cx_27, cx_28, cx_29, cx_30, cx_31, cx_32, cx_33, cx_34, cx_35, cx_36, cx_37, cx_38, cx_39, cx_40, cx_99, cx_63, cx_162, hx_0_5, hx_1_5, hx_2_5, hx_3_5, hx_4_5, hx_0_6, hx_1_6, hx_2_6, hx_3_6, hx_4_6, hx_5_6, hx_0_36, hx_1_36, hx_2_36, hx_3_36, hx_4_36, hx_5_36, hx_6_36, hx_7_36, hx_8_36, hx_9_36, hx_10_36, hx_11_36, hx_12_36, hx_13_36, hx_14_36, hx_15_36, hx_16_36, hx_17_36, hx_18_36, hx_19_36, hx_20_36, hx_21_36, hx_22_36, hx_23_36, hx_24_36, hx_25_36, hx_26_36, hx_27_36, hx_28_36, hx_29_36, hx_30_36, hx_31_36, hx_32_36, hx_33_36, hx_34_36, hx_35_36, hx_0_199, hx_1_199, hx_2_199, hx_3_199, hx_4_199, hx_5_199, hx_6_199, hx_7_199, hx_8_199, hx_9_199, hx_10_199, hx_11_199, hx_12_199, hx_13_199, hx_14_199, hx_15_199, hx_16_199, hx_17_199, hx_18_199, true_or, or_true, true_and, and_self, and_true, if_true, if_false, ne_eq, not_true_eq_false, not_false_eq_true, i10, t_uI, t_rI, hv_okQ_iff, c6, hz, nI_1]
            exact g1
      obtain ⟨If, g1, g2, g3, g4⟩ := loop 6 0 I (by omega) (by rw [qB, Nat.zero_mul, Nat.add_zero]; exact hv) (fun _ _ _ _ _ => rfl) (fun _ _ => rfl)
      refine ⟨If, o_X5_tryFrom ?_, g2, g3, g4⟩
      have e4 : I (p + 3 + f) 4 = nI (tQ T f 4) := hC.2.2.2.2 f 4 hf (by omega)
      simp only [hv_drop_i, hv_drop_r, hv_drop_n, hv_drop_a, hv_rf_some, r_X5_tryFrom_0, r_X5_tryFrom_1, r_X5_tryFrom_2, r_X5_tryFrom_5, r_X5_tryFrom_7, r_X5_tryFrom_8, r_X5_tryFrom_11, r_X5_tryFrom_12, r_X5_tryFrom_13, r_X5_tryFrom_14, r_X5_tryFrom_15, r_X5_tryFrom_18, r_X5_tryFrom_21, r_X5_tryFrom_22, r_X5_tryFrom_23, r_X5_tryFrom_24, r_X5_tryFrom_27, hv_drop_i, hv_drop_r, hv_drop_n, hv_drop_a, hv_rf_some, r_X5_tryFrom_51, r_X5_tryFrom_52, r_X5_tryFrom_55, r_X5_tryFrom_56, r_X5_tryFrom_57, r_X5_tryFrom_58, r_X5_tryFrom_59, r_X5_tryFrom_60, r_X5_tryFrom_61, r_X5_tryFrom_62, r_X5_tryFrom_63, r_X5_tryFrom_65, r_X5_tryFrom_66, kd0, kd1, kd2, ln2, kd3, kd4, ln4, kd5, ln5, ln5_13, kd6, ln6, kd7, ln7, kd8, ln8, kd9, ln9, kd10, ln10, kd11, kd12, ln12, kd13, ln13, ln13_13, kd14, ln14, kd15, ln15, kd16, ln16, kd17, ln17, kd18, ln18, kd19, kd20, ln20, kd21, ln21, kd22, ln22, kd23, ln23, kd24, ln24, ln24_12, kd25, kd26, ln26, kd27, ln27, kd28, ln28, kd29, ln29, kd30, kd31, ln31, kd32, ln32, kd33, ln33, kd34, ln34, kd35, ln35, kd36, kd37, ln37, kd38, ln38, kd39, ln39, kd40, ln40, kd41, kd42, ln42, ln42_13, kd43, ln43, kd44, ln44, kd45, ln45, kd46, ln46, kd47, ln47, kd48, ln48, kd49, ln49, kd50, ln50, kd51, ln51, kd52, ln52, kd53, ln53, kd54, ln54, kd55, ln55, ln55_13, kd56, ln56, kd57, ln57, kd58, ln58, kd59, ln59, kd60, ln60, kd61, ln61, kd62, ln62, kd63, kd64, ln64, kd65, ln65, kd66, ln66, kd67, kd68, ln68, kd69, ln69, kd70, ln70, kd71, ln71, kd72, ln72, kd73, ln73, kd74, ln74, kd75, ln75, pp0_0, pp0_3, pp0_4, pp0_5, pp0_6, pp0_7, pp0_8, pp0_9, pp1_0, pp3_0, pp3_2, pp11_0, pp11_2, pp19_0, pp19_1, pp19_2, pp19_5, pp24_0, pp24_1, pp25_0, pp25_1, pp25_2, pp25_5, pp30_0, pp30_1, pp30_2, pp30_5, pp36_0, pp36_1, pp36_3, pp36_4, pp41_0, pp41_1, pp41_3, pp41_7, pp41_8, pp41_9, pp41_10, pp63_0, pp63_3, pp67_1, pp67_3, pp67_4, pp67_5, pp67_6, pp67_7, pp67_8, pp67_14, pp0_1, pp0_2, cx_0, cx_1, cx_2, cx_3, cx_4, cx_5, cx_6, cx_7, cx_8, cx_9, cx_10, cx_11, cx_12, cx_13, cx_14, cx_15, cx_16, cx_17, cx_18, cx_19, cx_20, cx_21, cx_22, cx_23, cx_24, cx_25, cx_26, cx_27, cx_28, cx_29, cx_30, cx_31, cx_32, cx_33, cx_34, cx_35, cx_36, cx_37, cx_38, cx_39, cx_40, cx_99, cx_63, cx_162, hx_0_5, hx_1_5, hx_2_5, hx_3_5, hx_4_5, hx_0_6, hx_1_6, hx_2_6, hx_3_6, hx_4_6, hx_5_6, hx_0_36, hx_1_36, hx_2_36, hx_3_36, hx_4_36, hx_5_36, hx_6_36, hx_7_36, hx_8_36, hx_9_36, hx_10_36, hx_11_36, hx_12_36, hx_13_36, hx_14_36, hx_15_36, hx_16_36, hx_17_36, hx_18_36, hx_19_36, hx_20_36, hx_21_36, hx_22_36, hx_23_36, hx_24_36, hx_25_36, hx_26_36, hx_27_36, hx_28_36, hx_29_36, hx_30_36, hx_31_36, hx_32_36, hx_33_36, hx_34_36, hx_35_36, hx_0_199, hx_1_199, hx_2_199, hx_3_199, hx_4_199, hx_5_199, hx_6_199, hx_7_199, hx_8_199, hx_9_199, hx_10_199, hx_11_199, hx_12_199, hx_13_199, hx_14_199, hx_15_199, hx_16_199, hx_17_199, hx_18_199, true_or, or_true, true_and, and_self, and_true, if_true, if_false, ne_eq, not_true_eq_false, not_false_eq_true, i10, t_uI, t_rI, hv_okQ_iff, c5, kdT hp, hC.2.1, hc, hb, nI_lt hf (by omega), ppT2 hp, lnT2 hp, hv_ix_nI (show f < 5 by omega) (by decide), nI_clamp (n := f) (by omega), ppTr hp (show f < 5 by omega), lnTr hp (show f < 5 by omega), e4, eo]
      exact g1
    · refine ⟨I, o_X5_tryFrom ?_, ?_, fun _ _ _ _ _ => rfl, fun _ _ => rfl⟩
      · simp only [hv_drop_i, hv_drop_r, hv_drop_n, hv_drop_a, hv_rf_some, r_X5_tryFrom_0, r_X5_tryFrom_1, r_X5_tryFrom_2, r_X5_tryFrom_5, r_X5_tryFrom_7, r_X5_tryFrom_8, r_X5_tryFrom_11, r_X5_tryFrom_12, r_X5_tryFrom_13, r_X5_tryFrom_14, r_X5_tryFrom_15, r_X5_tryFrom_18, r_X5_tryFrom_21, kd0, kd1, kd2, ln2, kd3, kd4, ln4, kd5, ln5, ln5_13, kd6, ln6, kd7, ln7, kd8, ln8, kd9, ln9, kd10, ln10, kd11, kd12, ln12, kd13, ln13, ln13_13, kd14, ln14, kd15, ln15, kd16, ln16, kd17, ln17, kd18, ln18, kd19, kd20, ln20, kd21, ln21, kd22, ln22, kd23, ln23, kd24, ln24, ln24_12, kd25, kd26, ln26, kd27, ln27, kd28, ln28, kd29, ln29, kd30, kd31, ln31, kd32, ln32, kd33, ln33, kd34, ln34, kd35, ln35, kd36, kd37, ln37, kd38, ln38, kd39, ln39, kd40, ln40, kd41, kd42, ln42, ln42_13, kd43, ln43, kd44, ln44, kd45, ln45, kd46, ln46, kd47, ln47, kd48, ln48, kd49, ln49, kd50, ln50, kd51, ln51, kd52, ln52, kd53, ln53, kd54, ln54, kd55, ln55, ln55_13, kd56, ln56, kd57, ln57, kd58, ln58, kd59, ln59, kd60, ln60, kd61, ln61, kd62, ln62, kd63, kd64, ln64, kd65, ln65, kd66, ln66, kd67, kd68, ln68, kd69, ln69, kd70, ln70, kd71, ln71, kd72, ln72, kd73, ln73, kd74, ln74, kd75, ln75, pp0_0, pp0_3, pp0_4, pp0_5, pp0_6, pp0_7, pp0_8, pp0_9, pp1_0, pp3_0, pp3_2, pp11_0, pp11_2, pp19_0, pp19_1, pp19_2, pp19_5, pp24_0, pp24_1, pp25_0, pp25_1, pp25_2, pp25_5, pp30_0, pp30_1, pp30_2, pp30_5, pp36_0, pp36_1, pp36_3, pp36_4, pp41_0, pp41_1, pp41_3, pp41_7, pp41_8, pp41_9, pp41_10, pp63_0, pp63_3, pp67_1, pp67_3, pp67_4, pp67_5, pp67_6, pp67_7, pp67_8, pp67_14, pp0_1, pp0_2, cx_0, cx_1, cx_2, cx_3, cx_4, cx_5, cx_6, cx_7, cx_8, cx_9, cx_10, cx_11, cx_12, cx_13, cx_14, cx_15, cx_16, cx_17, cx_18, cx_19, cx_20, cx_21, cx_22, cx_23, cx_24, cx_25, cx_26, cx_27, cx_28, cx_29, cx_30, cx_31, cx_32, cx_33, cx_34, cx_35, cx_36, cx_37, cx_38, cx_39, cx_40, cx_99, cx_63, cx_162, hx_0_5, hx_1_5, hx_2_5, hx_3_5, hx_4_5, hx_0_6, hx_1_6, hx_2_6, hx_3_6, hx_4_6, hx_5_6, hx_0_36, hx_1_36, hx_2_36, hx_3_36, hx_4_36, hx_5_36, hx_6_36, hx_7_36, hx_8_36, hx_9_36, hx_10_36, hx_11_36, hx_12_36, hx_13_36, hx_14_36, hx_15_36, hx_16_36, hx_17_36, hx_18_36, hx_19_36, hx_20_36, hx_21_36, hx_22_36, hx_23_36, hx_24_36, hx_25_36, hx_26_36, hx_27_36, hx_28_36, hx_29_36, hx_30_36, hx_31_36, hx_32_36, hx_33_36, hx_34_36, hx_35_36, hx_0_199, hx_1_199, hx_2_199, hx_3_199, hx_4_199, hx_5_199, hx_6_199, hx_7_199, hx_8_199, hx_9_199, hx_10_199, hx_11_199, hx_12_199, hx_13_199, hx_14_199, hx_15_199, hx_16_199, hx_17_199, hx_18_199, true_or, or_true, true_and, and_self, and_true, if_true, if_false, ne_eq, not_true_eq_false, not_false_eq_true, i10, t_uI, t_rI, hv_okQ_iff, c5, kdT hp, hC.2.1, hc, hb]
      · rw [hpow]
        refine VE_skip (fun i z1 z2 z3 z4 => hb ?_) hv
        have b1 := blk_cnt hk z1 z2
        rw [hv.1]
        rw [i_lt] at z4 ⊢
        rw [nI_toInt (by omega)] at z4 ⊢
        omega
end CCHS
