/-! ===== memory while it is made: references by a list, rows of -1; the small constructors ===== -/
def rfL : List (Nat × Nat × Nat) → Nat → Nat → Option Nat
  | [], _, _ => none
  | e :: l, k, j => if k = e.1 ∧ j = e.2.1 then some e.2.2 else rfL l k j
def iLm (ps : List Nat) : hI := fun k j => if k ∈ ps ∧ j < 6 then -1 else 0
def zLm : hL := fun _ _ => 0
def mmL (ps : List Nat) (l : List (Nat × Nat × Nat)) : hv_M := (iLm ps, zLm, rfL l)
def bdL (ps : List Nat) (l : List (Nat × Nat × Nat)) (n : Nat) : Bool := ps.all (fun q => decide (q < n)) && l.all (fun e => decide (e.1 < n))
section INITS
variable {ps : List Nat} {l : List (Nat × Nat × Nat)} {n m k j v : Nat}
theorem bd_p (h : bdL ps l n = true) : (∀ q ∈ ps, q < n) ∧ ∀ e ∈ l, e.1 < n := by
  unfold bdL at h
  rw [Bool.and_eq_true, List.all_eq_true, List.all_eq_true] at h
  exact ⟨fun q hq => of_decide_eq_true (h.1 q hq), fun q hq => of_decide_eq_true (h.2 q hq)⟩
theorem bd_i (h : (∀ q ∈ ps, q < n) ∧ ∀ e ∈ l, e.1 < n) : bdL ps l n = true := by
  unfold bdL
  rw [Bool.and_eq_true, List.all_eq_true, List.all_eq_true]
  exact ⟨fun q hq => decide_eq_true (h.1 q hq), fun q hq => decide_eq_true (h.2 q hq)⟩
theorem bd_u (h : bdL ps l n = true) (hm : n ≤ m) : bdL ps l m = true :=
  bd_i ⟨fun q hq => Nat.lt_of_lt_of_le ((bd_p h).1 q hq) hm, fun q hq => Nat.lt_of_lt_of_le ((bd_p h).2 q hq) hm⟩
theorem bd_c (h : bdL ps l n = true) (hk : k < n) : bdL ps ((k, j, v) :: l) n = true :=
  bd_i ⟨(bd_p h).1, fun q hq => by
    rcases List.mem_cons.mp hq with e | e
    · rw [e]; exact hk
    · exact (bd_p h).2 q e⟩
theorem bd_n (h : bdL ps l n = true) (hk : k < n) : bdL (k :: ps) l n = true :=
  bd_i ⟨fun q hq => by
    rcases List.mem_cons.mp hq with e | e
    · rw [e]; exact hk
    · exact (bd_p h).1 q e, (bd_p h).2⟩
theorem rfL_no : ∀ {l : List (Nat × Nat × Nat)}, (∀ e ∈ l, e.1 < n) → n ≤ k → rfL l k j = none
  | [], _, _ => rfl
  | e :: l, h, hk => by
    have h1 := h e List.mem_cons_self
    show (if k = e.1 ∧ j = e.2.1 then some e.2.2 else rfL l k j) = none
    rw [if_neg (fun z => by omega)]
    exact rfL_no (fun q hq => h q (List.mem_cons_of_mem _ hq)) hk
theorem iLm_no (h : ∀ q ∈ ps, q < n) (hk : n ≤ k) : iLm ps k j = 0 := if_neg (fun z => by have := h k z.1; omega)
theorem uP_mm : hv_uP (mmL ps l) k j (some v) = mmL ps ((k, j, v) :: l) := rfl
theorem zz_mm (h : bdL ps l n = true) : hv_zz (mmL ps l) n = mmL ps l := by
  have h' := bd_p h
  have e1 : (fun k' j => if k' < n then iLm ps k' j else 0) = iLm ps := by
    funext k j
    by_cases w : k < n
    · rw [if_pos w]
    · rw [if_neg w, iLm_no h'.1 (by omega)]
  have e2 : (fun k' j => if k' < n then zLm k' j else 0) = zLm := by
    funext k j
    by_cases w : k < n
    · rw [if_pos w]
    · rw [if_neg w]; rfl
  have e3 : (fun k' j => if k' < n then rfL l k' j else none) = rfL l := by
    funext k j
    by_cases w : k < n
    · rw [if_pos w]
    · rw [if_neg w, rfL_no h'.2 (by omega)]
  show ((fun k' j => if k' < n then iLm ps k' j else 0), (fun k' j => if k' < n then zLm k' j else 0), (fun k' j => if k' < n then rfL l k' j else none)) = _
  rw [e1, e2, e3]
  rfl
theorem mm_mm (h : bdL ps l n = true) (r : List (Nat × Nat × Nat)) (hr : ∀ k j, rfL (r ++ l) k j = if k = n ∧ j < m then some (n + 1 + j) else rfL l k j) : hv_mm (mmL ps l) n m = mmL ps (r ++ l) := by
  have e3 : (fun k' j => if k' < n then rfL l k' j else if k' = n ∧ j < m then some (n + 1 + j) else none) = rfL (r ++ l) := by
    funext k j
    rw [hr]
    by_cases w : k < n
    · rw [if_pos w, if_neg (fun z => by omega)]
    · rw [if_neg w, rfL_no (bd_p h).2 (by omega)]
  have z := zz_mm h
  show ((hv_zz (mmL ps l) n).1, (hv_zz (mmL ps l) n).2.1, (fun k' j => if k' < n then rfL l k' j else if k' = n ∧ j < m then some (n + 1 + j) else none)) = _
  rw [z, e3]
  rfl
theorem mm5 (h : bdL ps l n = true) : hv_mm (mmL ps l) n 5 = mmL ps ([(n, 0, n + 1), (n, 1, n + 2), (n, 2, n + 3), (n, 3, n + 4), (n, 4, n + 5)] ++ l) := by
  refine mm_mm h _ (fun k j => ?_)
  by_cases hk : k = n
  · subst hk
    rcases j with _ | _ | _ | _ | _ | j <;> simp [rfL] <;> omega
  · simp [rfL, hk]
theorem mm7 (h : bdL ps l n = true) : hv_mm (mmL ps l) n 7 = mmL ps ([(n, 0, n + 1), (n, 1, n + 2), (n, 2, n + 3), (n, 3, n + 4), (n, 4, n + 5), (n, 5, n + 6), (n, 6, n + 7)] ++ l) := by
  refine mm_mm h _ (fun k j => ?_)
  by_cases hk : k = n
  · subst hk
    rcases j with _ | _ | _ | _ | _ | _ | _ | j <;> simp [rfL] <;> omega
  · simp [rfL, hk]
theorem six_mm (h : bdL ps l n = true) : hv_uI (hv_uI (hv_uI (hv_uI (hv_uI (hv_uI (mmL ps l) n 0 (-1)) n 1 (-1)) n 2 (-1)) n 3 (-1)) n 4 (-1)) n 5 (-1) = mmL (n :: ps) l := by
  have e : iU (iU (iU (iU (iU (iU (iLm ps) n 0 (-1)) n 1 (-1)) n 2 (-1)) n 3 (-1)) n 4 (-1)) n 5 (-1) = iLm (n :: ps) := by
    funext k j
    by_cases hk : k = n
    · subst hk
      rcases j with _ | _ | _ | _ | _ | _ | j <;> simp [iU, iLm]
      rw [if_neg (fun z => by omega), if_neg (by omega)]
    · have : (k ∈ n :: ps) ↔ k ∈ ps := by simp [hk]
      simp [iU, iLm, hk]
  unfold mmL
  simp only [t_uI]
  rw [e]
theorem kd_app {sh t : hv_Sh} {p c a b : Nat} (h : sh[p]? = some (c, 0)) : hv_kd (sh ++ t, a, b) p = some c := by
  unfold hv_kd
  show ((sh ++ t)[p]?).map (fun s => s.1) = some c
  rw [List.getElem?_append_left (List.getElem?_eq_some_iff.mp h).1, h]
  rfl
theorem ln_app {sh t : hv_Sh} {x a b : Nat} (hn : sh.length = n) : hv_ln (sh ++ (x, m) :: t, a, b) n x = m := by
  unfold hv_ln
  have : (sh ++ (x, m) :: t)[n]? = some (x, m) := by
    rw [List.getElem?_append_right (by omega), hn, Nat.sub_self]
    rfl
  show (match (sh ++ (x, m) :: t)[n]? with
    | some s => if s.1 = x then s.2 else 0
    | none => 0) = m
  rw [this]
  simp
theorem rep55 : List.replicate 5 ((10, 5) : Nat × Nat) = [(10, 5), (10, 5), (10, 5), (10, 5), (10, 5)] := rfl
theorem rep76 : List.replicate 7 ((10, 6) : Nat × Nat) = [(10, 6), (10, 6), (10, 6), (10, 6), (10, 6), (10, 6), (10, 6)] := rfl
theorem rep75 : List.replicate 7 ((10, 5) : Nat × Nat) = [(10, 5), (10, 5), (10, 5), (10, 5), (10, 5), (10, 5), (10, 5)] := rfl
theorem z_2 : ¬ (2 : Int32) < 0 := by decide
theorem z_7 : ¬ (7 : Int32) < 0 := by decide
theorem z_36 : ¬ (36 : Int32) < 0 := by decide
theorem z_150 : ¬ (150 : Int32) < 0 := by decide
theorem z_180 : ¬ (180 : Int32) < 0 := by decide
theorem z_199 : ¬ (199 : Int32) < 0 := by decide
theorem z_398 : ¬ (398 : Int32) < 0 := by decide
theorem c_150 : (150 : Int32).toNatClampNeg = 150 := by decide
theorem c_180 : (180 : Int32).toNatClampNeg = 180 := by decide
theorem c_199 : (199 : Int32).toNatClampNeg = 199 := by decide
theorem c_398 : (398 : Int32).toNatClampNeg = 398 := by decide
variable {xs : hv_X} {sh : hv_Sh} {p d : Nat}
theorem iX3 (hd : 1 ≤ d) (hn : sh.length = n) (hk : sh[p]? = some (3, 0)) (hb : bdL ps l n = true) : hv_Does xs d 1 150 yX3_init [.ref p] sh (mmL ps l) (fun r sh' μ' => r = none ∧ sh' = sh ++ [(10, 150)] ∧ μ' = mmL ps ((p, 0, n) :: l)) := by
  apply o_X3_init
  have kk : ∀ t a b, hv_kd (sh ++ t, a, b) p = some 3 := fun t a b => kd_app hk
  simp only [hv_drop_i, hv_drop_r, hv_drop_n, hv_drop_a, hv_rf_some, r_X3_init_0, r_X3_init_1, r_X3_init_4, r_X3_init_5, r_X3_init_8, r_X3_init_10, r_X3_init_13, kd0, kd1, kd2, ln2, kd3, kd4, ln4, kd5, ln5, ln5_13, kd6, ln6, kd7, ln7, kd8, ln8, kd9, ln9, kd10, ln10, kd11, kd12, ln12, kd13, ln13, ln13_13, kd14, ln14, kd15, ln15, kd16, ln16, kd17, ln17, kd18, ln18, kd19, kd20, ln20, kd21, ln21, kd22, ln22, kd23, ln23, kd24, ln24, ln24_12, kd25, kd26, ln26, kd27, ln27, kd28, ln28, kd29, ln29, kd30, kd31, ln31, kd32, ln32, kd33, ln33, kd34, ln34, kd35, ln35, kd36, kd37, ln37, kd38, ln38, kd39, ln39, kd40, ln40, kd41, kd42, ln42, ln42_13, kd43, ln43, kd44, ln44, kd45, ln45, kd46, ln46, kd47, ln47, kd48, ln48, kd49, ln49, kd50, ln50, kd51, ln51, kd52, ln52, kd53, ln53, kd54, ln54, kd55, ln55, ln55_13, kd56, ln56, kd57, ln57, kd58, ln58, kd59, ln59, kd60, ln60, kd61, ln61, kd62, ln62, kd63, kd64, ln64, kd65, ln65, kd66, ln66, kd67, kd68, ln68, kd69, ln69, kd70, ln70, kd71, ln71, kd72, ln72, kd73, ln73, kd74, ln74, kd75, ln75, pp0_0, pp0_3, pp0_4, pp0_5, pp0_6, pp0_7, pp0_8, pp0_9, pp1_0, pp3_0, pp3_2, pp11_0, pp11_2, pp19_0, pp19_1, pp19_2, pp19_5, pp24_0, pp24_1, pp25_0, pp25_1, pp25_2, pp25_5, pp30_0, pp30_1, pp30_2, pp30_5, pp36_0, pp36_1, pp36_3, pp36_4, pp41_0, pp41_1, pp41_3, pp41_7, pp41_8, pp41_9, pp41_10, pp63_0, pp63_3, pp67_1, pp67_3, pp67_4, pp67_5, pp67_6, pp67_7, pp67_8, pp67_14, pp0_1, pp0_2, cx_0, cx_1, cx_2, cx_3, cx_4, cx_5, cx_6, cx_7, cx_8, cx_9, cx_10, cx_11, cx_12, cx_13, cx_14, cx_15, cx_16, cx_17, cx_18, cx_19, cx_20, cx_21, cx_22, cx_23, cx_24, cx_25, cx_26, cx_27, cx_28, cx_29, cx_30, cx_31, cx_32, cx_33, cx_34, cx_35, cx_36, cx_37, cx_38, cx_39, cx_40, cx_99, cx_63, cx_162, hx_0_5, hx_1_5, hx_2_5, hx_3_5, hx_4_5, hx_0_6, hx_1_6, hx_2_6, hx_3_6, hx_4_6, hx_5_6, hx_0_36, hx_1_36, hx_2_36, hx_3_36, hx_4_36, hx_5_36, hx_6_36, hx_7_36, hx_8_36, hx_9_36, hx_10_36, hx_11_36, hx_12_36, hx_13_36, hx_14_36, hx_15_36, hx_16_36, hx_17_36, hx_18_36, hx_19_36, hx_20_36, hx_21_36, hx_22_36, hx_23_36, hx_24_36, hx_25_36, hx_26_36, hx_27_36, hx_28_36, hx_29_36, hx_30_36, hx_31_36, hx_32_36, hx_33_36, hx_34_36, hx_35_36, hx_0_199, hx_1_199, hx_2_199, hx_3_199, hx_4_199, hx_5_199, hx_6_199, hx_7_199, hx_8_199, hx_9_199, hx_10_199, hx_11_199, hx_12_199, hx_13_199, hx_14_199, hx_15_199, hx_16_199, hx_17_199, hx_18_199, true_or, or_true, true_and, and_self, and_true, if_true, if_false, ne_eq, not_true_eq_false, not_false_eq_true, i10, t_uI, t_rI, hv_okQ_iff, show hv_ol.contains (hv_kx 3 3) = true by decide, hd, hv_cat0, z_150, c_150, hn, zz_mm hb, kk, uP_mm, Nat.reduceAdd, Nat.reduceLeDiff]
theorem iX5 (hd : 1 ≤ d) (hn : sh.length = n) (hk : sh[p]? = some (5, 0)) (hb : bdL ps l n = true) : hv_Does xs d 2 10 yX5_init [.ref p] sh (mmL ps l) (fun r sh' μ' => r = none ∧ sh' = sh ++ [(10, 5), (10, 5)] ∧ μ' = mmL ps ((p, 3, n + 1) :: (p, 0, n) :: l)) := by
  apply o_X5_init
  have hp : p < n := by rw [← hn]; exact (List.getElem?_eq_some_iff.mp hk).1
  have kk : ∀ t a b, hv_kd (sh ++ t, a, b) p = some 5 := fun t a b => kd_app hk
  have b1 : bdL ps ((p, 0, n) :: l) (n + 1) = true := bd_c (bd_u hb (by omega)) (by omega)
  simp only [hv_drop_i, hv_drop_r, hv_drop_n, hv_drop_a, hv_rf_some, r_X5_init_0, r_X5_init_1, r_X5_init_4, r_X5_init_5, r_X5_init_6, r_X5_init_8, r_X5_init_11, r_X5_init_12, r_X5_init_13, r_X5_init_15, r_X5_init_18, kd0, kd1, kd2, ln2, kd3, kd4, ln4, kd5, ln5, ln5_13, kd6, ln6, kd7, ln7, kd8, ln8, kd9, ln9, kd10, ln10, kd11, kd12, ln12, kd13, ln13, ln13_13, kd14, ln14, kd15, ln15, kd16, ln16, kd17, ln17, kd18, ln18, kd19, kd20, ln20, kd21, ln21, kd22, ln22, kd23, ln23, kd24, ln24, ln24_12, kd25, kd26, ln26, kd27, ln27, kd28, ln28, kd29, ln29, kd30, kd31, ln31, kd32, ln32, kd33, ln33, kd34, ln34, kd35, ln35, kd36, kd37, ln37, kd38, ln38, kd39, ln39, kd40, ln40, kd41, kd42, ln42, ln42_13, kd43, ln43, kd44, ln44, kd45, ln45, kd46, ln46, kd47, ln47, kd48, ln48, kd49, ln49, kd50, ln50, kd51, ln51, kd52, ln52, kd53, ln53, kd54, ln54, kd55, ln55, ln55_13, kd56, ln56, kd57, ln57, kd58, ln58, kd59, ln59, kd60, ln60, kd61, ln61, kd62, ln62, kd63, kd64, ln64, kd65, ln65, kd66, ln66, kd67, kd68, ln68, kd69, ln69, kd70, ln70, kd71, ln71, kd72, ln72, kd73, ln73, kd74, ln74, kd75, ln75, pp0_0, pp0_3, pp0_4, pp0_5, pp0_6, pp0_7, pp0_8, pp0_9, pp1_0, pp3_0, pp3_2, pp11_0, pp11_2, pp19_0, pp19_1, pp19_2, pp19_5, pp24_0, pp24_1, pp25_0, pp25_1, pp25_2, pp25_5, pp30_0, pp30_1, pp30_2, pp30_5, pp36_0, pp36_1, pp36_3, pp36_4, pp41_0, pp41_1, pp41_3, pp41_7, pp41_8, pp41_9, pp41_10, pp63_0, pp63_3, pp67_1, pp67_3, pp67_4, pp67_5, pp67_6, pp67_7, pp67_8, pp67_14, pp0_1, pp0_2, cx_0, cx_1, cx_2, cx_3, cx_4, cx_5, cx_6, cx_7, cx_8, cx_9, cx_10, cx_11, cx_12, cx_13, cx_14, cx_15, cx_16, cx_17, cx_18, cx_19, cx_20, cx_21, cx_22, cx_23, cx_24, cx_25, cx_26, cx_27, cx_28, cx_29, cx_30, cx_31, cx_32, cx_33, cx_34, cx_35, cx_36, cx_37, cx_38, cx_39, cx_40, cx_99, cx_63, cx_162, hx_0_5, hx_1_5, hx_2_5, hx_3_5, hx_4_5, hx_0_6, hx_1_6, hx_2_6, hx_3_6, hx_4_6, hx_5_6, hx_0_36, hx_1_36, hx_2_36, hx_3_36, hx_4_36, hx_5_36, hx_6_36, hx_7_36, hx_8_36, hx_9_36, hx_10_36, hx_11_36, hx_12_36, hx_13_36, hx_14_36, hx_15_36, hx_16_36, hx_17_36, hx_18_36, hx_19_36, hx_20_36, hx_21_36, hx_22_36, hx_23_36, hx_24_36, hx_25_36, hx_26_36, hx_27_36, hx_28_36, hx_29_36, hx_30_36, hx_31_36, hx_32_36, hx_33_36, hx_34_36, hx_35_36, hx_0_199, hx_1_199, hx_2_199, hx_3_199, hx_4_199, hx_5_199, hx_6_199, hx_7_199, hx_8_199, hx_9_199, hx_10_199, hx_11_199, hx_12_199, hx_13_199, hx_14_199, hx_15_199, hx_16_199, hx_17_199, hx_18_199, true_or, or_true, true_and, and_self, and_true, if_true, if_false, ne_eq, not_true_eq_false, not_false_eq_true, i10, t_uI, t_rI, hv_okQ_iff, show hv_ol.contains (hv_kx 5 3) = true by decide, hd, hv_cat0, z_5, List.length_append, List.length_cons, List.length_nil, List.append_assoc, List.cons_append, List.nil_append, hn, zz_mm hb, zz_mm b1, kk, uP_mm, Nat.reduceAdd, Nat.reduceLeDiff]
theorem iX2 (hd : 1 ≤ d) (hn : sh.length = n) (hk : sh[p]? = some (2, 0)) (hb : bdL ps l n = true) : hv_Does xs d 4 24 yX2_init [.ref p] sh (mmL ps l) (fun r sh' μ' => r = none ∧ sh' = sh ++ [(10, 6), (10, 6), (10, 6), (10, 6)] ∧ μ' = mmL ps ((p, 4, n + 3) :: (p, 3, n + 2) :: (p, 1, n + 1) :: (p, 0, n) :: l)) := by
  apply o_X2_init
  have hp : p < n := by rw [← hn]; exact (List.getElem?_eq_some_iff.mp hk).1
  have kk : ∀ t a b, hv_kd (sh ++ t, a, b) p = some 2 := fun t a b => kd_app hk
  have b1 : bdL ps ((p, 0, n) :: l) (n + 1) = true := bd_c (bd_u hb (by omega)) (by omega)
  have b2 : bdL ps ((p, 1, n + 1) :: (p, 0, n) :: l) (n + 2) = true := bd_c (bd_u b1 (by omega)) (by omega)
  have b3 : bdL ps ((p, 3, n + 2) :: (p, 1, n + 1) :: (p, 0, n) :: l) (n + 3) = true := bd_c (bd_u b2 (by omega)) (by omega)
  simp only [hv_drop_i, hv_drop_r, hv_drop_n, hv_drop_a, hv_rf_some, r_X2_init_0, r_X2_init_1, r_X2_init_4, r_X2_init_5, r_X2_init_7, r_X2_init_9, r_X2_init_12, r_X2_init_13, r_X2_init_15, r_X2_init_17, r_X2_init_20, r_X2_init_21, r_X2_init_23, r_X2_init_25, r_X2_init_28, r_X2_init_29, r_X2_init_31, r_X2_init_33, r_X2_init_36, kd0, kd1, kd2, ln2, kd3, kd4, ln4, kd5, ln5, ln5_13, kd6, ln6, kd7, ln7, kd8, ln8, kd9, ln9, kd10, ln10, kd11, kd12, ln12, kd13, ln13, ln13_13, kd14, ln14, kd15, ln15, kd16, ln16, kd17, ln17, kd18, ln18, kd19, kd20, ln20, kd21, ln21, kd22, ln22, kd23, ln23, kd24, ln24, ln24_12, kd25, kd26, ln26, kd27, ln27, kd28, ln28, kd29, ln29, kd30, kd31, ln31, kd32, ln32, kd33, ln33, kd34, ln34, kd35, ln35, kd36, kd37, ln37, kd38, ln38, kd39, ln39, kd40, ln40, kd41, kd42, ln42, ln42_13, kd43, ln43, kd44, ln44, kd45, ln45, kd46, ln46, kd47, ln47, kd48, ln48, kd49, ln49, kd50, ln50, kd51, ln51, kd52, ln52, kd53, ln53, kd54, ln54, kd55, ln55, ln55_13, kd56, ln56, kd57, ln57, kd58, ln58, kd59, ln59, kd60, ln60, kd61, ln61, kd62, ln62, kd63, kd64, ln64, kd65, ln65, kd66, ln66, kd67, kd68, ln68, kd69, ln69, kd70, ln70, kd71, ln71, kd72, ln72, kd73, ln73, kd74, ln74, kd75, ln75, pp0_0, pp0_3, pp0_4, pp0_5, pp0_6, pp0_7, pp0_8, pp0_9, pp1_0, pp3_0, pp3_2, pp11_0, pp11_2, pp19_0, pp19_1, pp19_2, pp19_5, pp24_0, pp24_1, pp25_0, pp25_1, pp25_2, pp25_5, pp30_0, pp30_1, pp30_2, pp30_5, pp36_0, pp36_1, pp36_3, pp36_4, pp41_0, pp41_1, pp41_3, pp41_7, pp41_8, pp41_9, pp41_10, pp63_0, pp63_3, pp67_1, pp67_3, pp67_4, pp67_5, pp67_6, pp67_7, pp67_8, pp67_14, pp0_1, pp0_2, cx_0, cx_1, cx_2, cx_3, cx_4, cx_5, cx_6, cx_7, cx_8, cx_9, cx_10, cx_11, cx_12, cx_13, cx_14, cx_15, cx_16, cx_17, cx_18, cx_19, cx_20, cx_21, cx_22, cx_23, cx_24, cx_25, cx_26, cx_27, cx_28, cx_29, cx_30, cx_31, cx_32, cx_33, cx_34, cx_35, cx_36, cx_37, cx_38, cx_39, cx_40, cx_99, cx_63, cx_162, hx_0_5, hx_1_5, hx_2_5, hx_3_5, hx_4_5, hx_0_6, hx_1_6, hx_2_6, hx_3_6, hx_4_6, hx_5_6, hx_0_36, hx_1_36, hx_2_36, hx_3_36, hx_4_36, hx_5_36, hx_6_36, hx_7_36, hx_8_36, hx_9_36, hx_10_36, hx_11_36, hx_12_36, hx_13_36, hx_14_36, hx_15_36, hx_16_36, hx_17_36, hx_18_36, hx_19_36, hx_20_36, hx_21_36, hx_22_36, hx_23_36, hx_24_36, hx_25_36, hx_26_36, hx_27_36, hx_28_36, hx_29_36, hx_30_36, hx_31_36, hx_32_36, hx_33_36, hx_34_36, hx_35_36, hx_0_199, hx_1_199, hx_2_199, hx_3_199, hx_4_199, hx_5_199, hx_6_199, hx_7_199, hx_8_199, hx_9_199, hx_10_199, hx_11_199, hx_12_199, hx_13_199, hx_14_199, hx_15_199, hx_16_199, hx_17_199, hx_18_199, true_or, or_true, true_and, and_self, and_true, if_true, if_false, ne_eq, not_true_eq_false, not_false_eq_true, i10, t_uI, t_rI, hv_okQ_iff, show hv_ol.contains (hv_kx 2 3) = true by decide, hd, hv_cat0, z_6, List.length_append, List.length_cons, List.length_nil, List.append_assoc, List.cons_append, List.nil_append, hn, zz_mm hb, zz_mm b1, zz_mm b2, zz_mm b3, kk, uP_mm, Nat.reduceAdd, Nat.reduceLeDiff]
theorem iX0 (hd : 1 ≤ d) (hn : sh.length = n) (hk : sh[p]? = some (0, 0)) (hb : bdL ps l n = true) : hv_Does xs d 4 196 yX0_init [.ref p] sh (mmL ps l) (fun r sh' μ' => r = none ∧ sh' = sh ++ [(10, 6), (10, 5), (10, 5), (10, 180)] ∧ μ' = mmL (n :: ps) ((p, 5, n + 3) :: (p, 2, n + 2) :: (p, 1, n + 1) :: (p, 0, n) :: l)) := by
  apply o_X0_init
  have hp : p < n := by rw [← hn]; exact (List.getElem?_eq_some_iff.mp hk).1
  have kk : ∀ t a b, hv_kd (sh ++ t, a, b) p = some 0 := fun t a b => kd_app hk
  have l1 : ∀ a b, hv_ln (sh ++ [(10, 6)], a, b) n 10 = 6 := fun a b => ln_app hn
  have b1 : bdL (n :: ps) ((p, 0, n) :: l) (n + 1) = true := bd_n (bd_c (bd_u hb (by omega)) (by omega)) (by omega)
  have b2 : bdL (n :: ps) ((p, 1, n + 1) :: (p, 0, n) :: l) (n + 2) = true := bd_c (bd_u b1 (by omega)) (by omega)
  have b3 : bdL (n :: ps) ((p, 2, n + 2) :: (p, 1, n + 1) :: (p, 0, n) :: l) (n + 3) = true := bd_c (bd_u b2 (by omega)) (by omega)
  simp only [hv_drop_i, hv_drop_r, hv_drop_n, hv_drop_a, hv_rf_some, r_X0_init_0, r_X0_init_1, r_X0_init_4, r_X0_init_5, r_X0_init_7, r_X0_init_9, r_X0_init_9i, r_X0_init_10, r_X0_init_11, r_X0_init_12, r_X0_init_13, r_X0_init_13i, r_X0_init_14, r_X0_init_15, r_X0_init_16, r_X0_init_17, r_X0_init_17i, r_X0_init_18, r_X0_init_19, r_X0_init_20, r_X0_init_21, r_X0_init_21i, r_X0_init_22, r_X0_init_23, r_X0_init_24, r_X0_init_25, r_X0_init_25i, r_X0_init_26, r_X0_init_27, r_X0_init_28, r_X0_init_29, r_X0_init_29i, r_X0_init_30, r_X0_init_31, r_X0_init_32, kd0, kd1, kd2, ln2, kd3, kd4, ln4, kd5, ln5, ln5_13, kd6, ln6, kd7, ln7, kd8, ln8, kd9, ln9, kd10, ln10, kd11, kd12, ln12, kd13, ln13, ln13_13, kd14, ln14, kd15, ln15, kd16, ln16, kd17, ln17, kd18, ln18, kd19, kd20, ln20, kd21, ln21, kd22, ln22, kd23, ln23, kd24, ln24, ln24_12, kd25, kd26, ln26, kd27, ln27, kd28, ln28, kd29, ln29, kd30, kd31, ln31, kd32, ln32, kd33, ln33, kd34, ln34, kd35, ln35, kd36, kd37, ln37, kd38, ln38, kd39, ln39, kd40, ln40, kd41, kd42, ln42, ln42_13, kd43, ln43, kd44, ln44, kd45, ln45, kd46, ln46, kd47, ln47, kd48, ln48, kd49, ln49, kd50, ln50, kd51, ln51, kd52, ln52, kd53, ln53, kd54, ln54, kd55, ln55, ln55_13, kd56, ln56, kd57, ln57, kd58, ln58, kd59, ln59, kd60, ln60, kd61, ln61, kd62, ln62, kd63, kd64, ln64, kd65, ln65, kd66, ln66, kd67, kd68, ln68, kd69, ln69, kd70, ln70, kd71, ln71, kd72, ln72, kd73, ln73, kd74, ln74, kd75, ln75, pp0_0, pp0_3, pp0_4, pp0_5, pp0_6, pp0_7, pp0_8, pp0_9, pp1_0, pp3_0, pp3_2, pp11_0, pp11_2, pp19_0, pp19_1, pp19_2, pp19_5, pp24_0, pp24_1, pp25_0, pp25_1, pp25_2, pp25_5, pp30_0, pp30_1, pp30_2, pp30_5, pp36_0, pp36_1, pp36_3, pp36_4, pp41_0, pp41_1, pp41_3, pp41_7, pp41_8, pp41_9, pp41_10, pp63_0, pp63_3, pp67_1, pp67_3, pp67_4, pp67_5, pp67_6, pp67_7, pp67_8, pp67_14, pp0_1, pp0_2, cx_0, cx_1, cx_2, cx_3, cx_4, cx_5, cx_6, cx_7, cx_8, cx_9, cx_10, cx_11, cx_12, cx_13, cx_14, cx_15, cx_16, cx_17, cx_18, cx_19, cx_20, cx_21, cx_22, cx_23, cx_24, cx_25, cx_26, cx_27, cx_28, cx_29, cx_30, cx_31, cx_32, cx_33, cx_34, cx_35, cx_36, cx_37, cx_38, cx_39, cx_40, cx_99, cx_63, cx_162, hx_0_5, hx_1_5, hx_2_5, hx_3_5, hx_4_5, hx_0_6, hx_1_6, hx_2_6, hx_3_6, hx_4_6, hx_5_6, hx_0_36, hx_1_36, hx_2_36, hx_3_36, hx_4_36, hx_5_36, hx_6_36, hx_7_36, hx_8_36, hx_9_36, hx_10_36, hx_11_36, hx_12_36, hx_13_36, hx_14_36, hx_15_36, hx_16_36, hx_17_36, hx_18_36, hx_19_36, hx_20_36, hx_21_36, hx_22_36, hx_23_36, hx_24_36, hx_25_36, hx_26_36, hx_27_36, hx_28_36, hx_29_36, hx_30_36, hx_31_36, hx_32_36, hx_33_36, hx_34_36, hx_35_36, hx_0_199, hx_1_199, hx_2_199, hx_3_199, hx_4_199, hx_5_199, hx_6_199, hx_7_199, hx_8_199, hx_9_199, hx_10_199, hx_11_199, hx_12_199, hx_13_199, hx_14_199, hx_15_199, hx_16_199, hx_17_199, hx_18_199, true_or, or_true, true_and, and_self, and_true, if_true, if_false, ne_eq, not_true_eq_false, not_false_eq_true, i10, t_uI, t_rI, hv_okQ_iff, show hv_ol.contains (hv_kx 0 5) = true by decide, hd, hv_cat0, z_6, hn, zz_mm hb, l1, Nat.reduceAdd, Nat.reduceLeDiff]
  rw [six_mm hb]
  simp only [hv_drop_i, hv_drop_r, hv_drop_n, hv_drop_a, hv_rf_some, r_X0_init_33, r_X0_init_36, r_X0_init_37, r_X0_init_38, r_X0_init_40, r_X0_init_43, r_X0_init_44, r_X0_init_45, r_X0_init_47, r_X0_init_50, r_X0_init_51, r_X0_init_54, r_X0_init_56, r_X0_init_59, kd0, kd1, kd2, ln2, kd3, kd4, ln4, kd5, ln5, ln5_13, kd6, ln6, kd7, ln7, kd8, ln8, kd9, ln9, kd10, ln10, kd11, kd12, ln12, kd13, ln13, ln13_13, kd14, ln14, kd15, ln15, kd16, ln16, kd17, ln17, kd18, ln18, kd19, kd20, ln20, kd21, ln21, kd22, ln22, kd23, ln23, kd24, ln24, ln24_12, kd25, kd26, ln26, kd27, ln27, kd28, ln28, kd29, ln29, kd30, kd31, ln31, kd32, ln32, kd33, ln33, kd34, ln34, kd35, ln35, kd36, kd37, ln37, kd38, ln38, kd39, ln39, kd40, ln40, kd41, kd42, ln42, ln42_13, kd43, ln43, kd44, ln44, kd45, ln45, kd46, ln46, kd47, ln47, kd48, ln48, kd49, ln49, kd50, ln50, kd51, ln51, kd52, ln52, kd53, ln53, kd54, ln54, kd55, ln55, ln55_13, kd56, ln56, kd57, ln57, kd58, ln58, kd59, ln59, kd60, ln60, kd61, ln61, kd62, ln62, kd63, kd64, ln64, kd65, ln65, kd66, ln66, kd67, kd68, ln68, kd69, ln69, kd70, ln70, kd71, ln71, kd72, ln72, kd73, ln73, kd74, ln74, kd75, ln75, pp0_0, pp0_3, pp0_4, pp0_5, pp0_6, pp0_7, pp0_8, pp0_9, pp1_0, pp3_0, pp3_2, pp11_0, pp11_2, pp19_0, pp19_1, pp19_2, pp19_5, pp24_0, pp24_1, pp25_0, pp25_1, pp25_2, pp25_5, pp30_0, pp30_1, pp30_2, pp30_5, pp36_0, pp36_1, pp36_3, pp36_4, pp41_0, pp41_1, pp41_3, pp41_7, pp41_8, pp41_9, pp41_10, pp63_0, pp63_3, pp67_1, pp67_3, pp67_4, pp67_5, pp67_6, pp67_7, pp67_8, pp67_14, pp0_1, pp0_2, cx_0, cx_1, cx_2, cx_3, cx_4, cx_5, cx_6, cx_7, cx_8, cx_9, cx_10, cx_11, cx_12, cx_13, cx_14, cx_15, cx_16, cx_17, cx_18, cx_19, cx_20, cx_21, cx_22, cx_23, cx_24, cx_25, cx_26, cx_27, cx_28, cx_29, cx_30, cx_31, cx_32, cx_33, cx_34, cx_35, cx_36, cx_37, cx_38, cx_39, cx_40, cx_99, cx_63, cx_162, hx_0_5, hx_1_5, hx_2_5, hx_3_5, hx_4_5, hx_0_6, hx_1_6, hx_2_6, hx_3_6, hx_4_6, hx_5_6, hx_0_36, hx_1_36, hx_2_36, hx_3_36, hx_4_36, hx_5_36, hx_6_36, hx_7_36, hx_8_36, hx_9_36, hx_10_36, hx_11_36, hx_12_36, hx_13_36, hx_14_36, hx_15_36, hx_16_36, hx_17_36, hx_18_36, hx_19_36, hx_20_36, hx_21_36, hx_22_36, hx_23_36, hx_24_36, hx_25_36, hx_26_36, hx_27_36, hx_28_36, hx_29_36, hx_30_36, hx_31_36, hx_32_36, hx_33_36, hx_34_36, hx_35_36, hx_0_199, hx_1_199, hx_2_199, hx_3_199, hx_4_199, hx_5_199, hx_6_199, hx_7_199, hx_8_199, hx_9_199, hx_10_199, hx_11_199, hx_12_199, hx_13_199, hx_14_199, hx_15_199, hx_16_199, hx_17_199, hx_18_199, true_or, or_true, true_and, and_self, and_true, if_true, if_false, ne_eq, not_true_eq_false, not_false_eq_true, i10, t_uI, t_rI, hv_okQ_iff, z_5, z_180, c_180, List.length_append, List.length_cons, List.length_nil, List.append_assoc, List.cons_append, List.nil_append, hn, zz_mm b1, zz_mm b2, zz_mm b3, kk, uP_mm, Nat.reduceAdd, Nat.reduceLeDiff]
theorem iX4 (hd : 1 ≤ d) (hn : sh.length = n) (hk : sh[p]? = some (4, 0)) (hb : bdL ps l n = true) : hv_Does xs d 7 36 yX4_init [.ref p] sh (mmL ps l) (fun r sh' μ' => r = none ∧ sh' = sh ++ [(10, 6), (12, 5), (10, 5), (10, 5), (10, 5), (10, 5), (10, 5)] ∧ μ' = mmL ps ((p, 2, n + 1) :: (n + 1, 0, n + 1 + 1) :: (n + 1, 1, n + 1 + 2) :: (n + 1, 2, n + 1 + 3) :: (n + 1, 3, n + 1 + 4) :: (n + 1, 4, n + 1 + 5) :: (p, 0, n) :: l)) := by
  apply o_X4_init
  have hp : p < n := by rw [← hn]; exact (List.getElem?_eq_some_iff.mp hk).1
  have kk : ∀ t a b, hv_kd (sh ++ t, a, b) p = some 4 := fun t a b => kd_app hk
  have b1 : bdL ps ((p, 0, n) :: l) (n + 1) = true := bd_c (bd_u hb (by omega)) (by omega)
  simp only [hv_drop_i, hv_drop_r, hv_drop_n, hv_drop_a, hv_rf_some, r_X4_init_0, r_X4_init_1, r_X4_init_4, r_X4_init_5, r_X4_init_7, r_X4_init_9, r_X4_init_12, r_X4_init_13, r_X4_init_14, r_X4_init_15, r_X4_init_19, r_X4_init_22, kd0, kd1, kd2, ln2, kd3, kd4, ln4, kd5, ln5, ln5_13, kd6, ln6, kd7, ln7, kd8, ln8, kd9, ln9, kd10, ln10, kd11, kd12, ln12, kd13, ln13, ln13_13, kd14, ln14, kd15, ln15, kd16, ln16, kd17, ln17, kd18, ln18, kd19, kd20, ln20, kd21, ln21, kd22, ln22, kd23, ln23, kd24, ln24, ln24_12, kd25, kd26, ln26, kd27, ln27, kd28, ln28, kd29, ln29, kd30, kd31, ln31, kd32, ln32, kd33, ln33, kd34, ln34, kd35, ln35, kd36, kd37, ln37, kd38, ln38, kd39, ln39, kd40, ln40, kd41, kd42, ln42, ln42_13, kd43, ln43, kd44, ln44, kd45, ln45, kd46, ln46, kd47, ln47, kd48, ln48, kd49, ln49, kd50, ln50, kd51, ln51, kd52, ln52, kd53, ln53, kd54, ln54, kd55, ln55, ln55_13, kd56, ln56, kd57, ln57, kd58, ln58, kd59, ln59, kd60, ln60, kd61, ln61, kd62, ln62, kd63, kd64, ln64, kd65, ln65, kd66, ln66, kd67, kd68, ln68, kd69, ln69, kd70, ln70, kd71, ln71, kd72, ln72, kd73, ln73, kd74, ln74, kd75, ln75, pp0_0, pp0_3, pp0_4, pp0_5, pp0_6, pp0_7, pp0_8, pp0_9, pp1_0, pp3_0, pp3_2, pp11_0, pp11_2, pp19_0, pp19_1, pp19_2, pp19_5, pp24_0, pp24_1, pp25_0, pp25_1, pp25_2, pp25_5, pp30_0, pp30_1, pp30_2, pp30_5, pp36_0, pp36_1, pp36_3, pp36_4, pp41_0, pp41_1, pp41_3, pp41_7, pp41_8, pp41_9, pp41_10, pp63_0, pp63_3, pp67_1, pp67_3, pp67_4, pp67_5, pp67_6, pp67_7, pp67_8, pp67_14, pp0_1, pp0_2, cx_0, cx_1, cx_2, cx_3, cx_4, cx_5, cx_6, cx_7, cx_8, cx_9, cx_10, cx_11, cx_12, cx_13, cx_14, cx_15, cx_16, cx_17, cx_18, cx_19, cx_20, cx_21, cx_22, cx_23, cx_24, cx_25, cx_26, cx_27, cx_28, cx_29, cx_30, cx_31, cx_32, cx_33, cx_34, cx_35, cx_36, cx_37, cx_38, cx_39, cx_40, cx_99, cx_63, cx_162, hx_0_5, hx_1_5, hx_2_5, hx_3_5, hx_4_5, hx_0_6, hx_1_6, hx_2_6, hx_3_6, hx_4_6, hx_5_6, hx_0_36, hx_1_36, hx_2_36, hx_3_36, hx_4_36, hx_5_36, hx_6_36, hx_7_36, hx_8_36, hx_9_36, hx_10_36, hx_11_36, hx_12_36, hx_13_36, hx_14_36, hx_15_36, hx_16_36, hx_17_36, hx_18_36, hx_19_36, hx_20_36, hx_21_36, hx_22_36, hx_23_36, hx_24_36, hx_25_36, hx_26_36, hx_27_36, hx_28_36, hx_29_36, hx_30_36, hx_31_36, hx_32_36, hx_33_36, hx_34_36, hx_35_36, hx_0_199, hx_1_199, hx_2_199, hx_3_199, hx_4_199, hx_5_199, hx_6_199, hx_7_199, hx_8_199, hx_9_199, hx_10_199, hx_11_199, hx_12_199, hx_13_199, hx_14_199, hx_15_199, hx_16_199, hx_17_199, hx_18_199, true_or, or_true, true_and, and_self, and_true, if_true, if_false, ne_eq, not_true_eq_false, not_false_eq_true, i10, t_uI, t_rI, hv_okQ_iff, show hv_ol.contains (hv_kx 4 3) = true by decide, show hv_gl.contains (hv_kx 4 15) = true by decide, hd, hv_cat0, z_5, z_6, rep55, List.length_append, List.length_cons, List.length_nil, List.append_assoc, List.cons_append, List.nil_append, hn, zz_mm hb, mm5 b1, kk, uP_mm, Nat.reduceAdd, Nat.reduceMul, Nat.reduceLeDiff]
theorem iX1 (hd : 1 ≤ d) (hn : sh.length = n) (hk : sh[p]? = some (1, 0)) (hb : bdL ps l n = true) : hv_Does xs d 21 121 yX1_init [.ref p] sh (mmL ps l) (fun r sh' μ' => r = none ∧ sh' = sh ++ [(12, 7), (10, 6), (10, 6), (10, 6), (10, 6), (10, 6), (10, 6), (10, 6), (10, 6), (10, 6), (10, 6), (10, 5), (10, 7), (12, 7), (10, 5), (10, 5), (10, 5), (10, 5), (10, 5), (10, 5), (10, 5)] ∧
    μ' = mmL ps ((p, 10, n + 13) :: (n + 13, 0, n + 13 + 1) :: (n + 13, 1, n + 13 + 2) :: (n + 13, 2, n + 13 + 3) :: (n + 13, 3, n + 13 + 4) :: (n + 13, 4, n + 13 + 5) :: (n + 13, 5, n + 13 + 6) :: (n + 13, 6, n + 13 + 7) :: (p, 9, n + 12) :: (p, 8, n + 11) :: (p, 7, n + 10) :: (p, 3, n + 9) :: (p, 1, n + 8) :: (p, 0, n) :: (n, 0, n + 1) :: (n, 1, n + 2) :: (n, 2, n + 3) :: (n, 3, n + 4) :: (n, 4, n + 5) :: (n, 5, n + 6) :: (n, 6, n + 7) :: l)) := by
  apply o_X1_init
  have hp : p < n := by rw [← hn]; exact (List.getElem?_eq_some_iff.mp hk).1
  have kk : ∀ t a b, hv_kd (sh ++ t, a, b) p = some 1 := fun t a b => kd_app hk
  obtain ⟨l0, hl0⟩ : ∃ l0, l0 = (n, 0, n + 1) :: (n, 1, n + 2) :: (n, 2, n + 3) :: (n, 3, n + 4) :: (n, 4, n + 5) :: (n, 5, n + 6) :: (n, 6, n + 7) :: l := ⟨_, rfl⟩
  have b0 : bdL ps l0 (n + 8) = true := by
    have q := bd_u (m := n + 8) hb (by omega)
    rw [hl0]
    exact bd_c (bd_c (bd_c (bd_c (bd_c (bd_c (bd_c q (by omega)) (by omega)) (by omega)) (by omega)) (by omega)) (by omega)) (by omega)
  have b1 : bdL ps ((p, 0, n) :: l0) (n + 8) = true := bd_c b0 (by omega)
  have b2 : bdL ps ((p, 1, n + 8) :: (p, 0, n) :: l0) (n + 9) = true := bd_c (bd_u b1 (by omega)) (by omega)
  have b3 : bdL ps ((p, 3, n + 9) :: (p, 1, n + 8) :: (p, 0, n) :: l0) (n + 10) = true := bd_c (bd_u b2 (by omega)) (by omega)
  have b4 : bdL ps ((p, 7, n + 10) :: (p, 3, n + 9) :: (p, 1, n + 8) :: (p, 0, n) :: l0) (n + 11) = true := bd_c (bd_u b3 (by omega)) (by omega)
  have b5 : bdL ps ((p, 8, n + 11) :: (p, 7, n + 10) :: (p, 3, n + 9) :: (p, 1, n + 8) :: (p, 0, n) :: l0) (n + 12) = true := bd_c (bd_u b4 (by omega)) (by omega)
  have b6 : bdL ps ((p, 9, n + 12) :: (p, 8, n + 11) :: (p, 7, n + 10) :: (p, 3, n + 9) :: (p, 1, n + 8) :: (p, 0, n) :: l0) (n + 13) = true := bd_c (bd_u b5 (by omega)) (by omega)
  simp only [hv_drop_i, hv_drop_r, hv_drop_n, hv_drop_a, hv_rf_some, r_X1_init_0, r_X1_init_1, r_X1_init_4, r_X1_init_5, r_X1_init_7, r_X1_init_9, kd0, kd1, kd2, ln2, kd3, kd4, ln4, kd5, ln5, ln5_13, kd6, ln6, kd7, ln7, kd8, ln8, kd9, ln9, kd10, ln10, kd11, kd12, ln12, kd13, ln13, ln13_13, kd14, ln14, kd15, ln15, kd16, ln16, kd17, ln17, kd18, ln18, kd19, kd20, ln20, kd21, ln21, kd22, ln22, kd23, ln23, kd24, ln24, ln24_12, kd25, kd26, ln26, kd27, ln27, kd28, ln28, kd29, ln29, kd30, kd31, ln31, kd32, ln32, kd33, ln33, kd34, ln34, kd35, ln35, kd36, kd37, ln37, kd38, ln38, kd39, ln39, kd40, ln40, kd41, kd42, ln42, ln42_13, kd43, ln43, kd44, ln44, kd45, ln45, kd46, ln46, kd47, ln47, kd48, ln48, kd49, ln49, kd50, ln50, kd51, ln51, kd52, ln52, kd53, ln53, kd54, ln54, kd55, ln55, ln55_13, kd56, ln56, kd57, ln57, kd58, ln58, kd59, ln59, kd60, ln60, kd61, ln61, kd62, ln62, kd63, kd64, ln64, kd65, ln65, kd66, ln66, kd67, kd68, ln68, kd69, ln69, kd70, ln70, kd71, ln71, kd72, ln72, kd73, ln73, kd74, ln74, kd75, ln75, pp0_0, pp0_3, pp0_4, pp0_5, pp0_6, pp0_7, pp0_8, pp0_9, pp1_0, pp3_0, pp3_2, pp11_0, pp11_2, pp19_0, pp19_1, pp19_2, pp19_5, pp24_0, pp24_1, pp25_0, pp25_1, pp25_2, pp25_5, pp30_0, pp30_1, pp30_2, pp30_5, pp36_0, pp36_1, pp36_3, pp36_4, pp41_0, pp41_1, pp41_3, pp41_7, pp41_8, pp41_9, pp41_10, pp63_0, pp63_3, pp67_1, pp67_3, pp67_4, pp67_5, pp67_6, pp67_7, pp67_8, pp67_14, pp0_1, pp0_2, cx_0, cx_1, cx_2, cx_3, cx_4, cx_5, cx_6, cx_7, cx_8, cx_9, cx_10, cx_11, cx_12, cx_13, cx_14, cx_15, cx_16, cx_17, cx_18, cx_19, cx_20, cx_21, cx_22, cx_23, cx_24, cx_25, cx_26, cx_27, cx_28, cx_29, cx_30, cx_31, cx_32, cx_33, cx_34, cx_35, cx_36, cx_37, cx_38, cx_39, cx_40, cx_99, cx_63, cx_162, hx_0_5, hx_1_5, hx_2_5, hx_3_5, hx_4_5, hx_0_6, hx_1_6, hx_2_6, hx_3_6, hx_4_6, hx_5_6, hx_0_36, hx_1_36, hx_2_36, hx_3_36, hx_4_36, hx_5_36, hx_6_36, hx_7_36, hx_8_36, hx_9_36, hx_10_36, hx_11_36, hx_12_36, hx_13_36, hx_14_36, hx_15_36, hx_16_36, hx_17_36, hx_18_36, hx_19_36, hx_20_36, hx_21_36, hx_22_36, hx_23_36, hx_24_36, hx_25_36, hx_26_36, hx_27_36, hx_28_36, hx_29_36, hx_30_36, hx_31_36, hx_32_36, hx_33_36, hx_34_36, hx_35_36, hx_0_199, hx_1_199, hx_2_199, hx_3_199, hx_4_199, hx_5_199, hx_6_199, hx_7_199, hx_8_199, hx_9_199, hx_10_199, hx_11_199, hx_12_199, hx_13_199, hx_14_199, hx_15_199, hx_16_199, hx_17_199, hx_18_199, true_or, or_true, true_and, and_self, and_true, if_true, if_false, ne_eq, not_true_eq_false, not_false_eq_true, i10, t_uI, t_rI, hv_okQ_iff, show hv_ol.contains (hv_kx 1 3) = true by decide, show hv_gl.contains (hv_kx 1 9) = true by decide, hd, hv_cat0, z_6, z_7, rep76, List.cons_append, List.nil_append, hn, mm7 hb, Nat.reduceAdd, Nat.reduceMul, Nat.reduceLeDiff]
  rw [← hl0]
  simp only [hv_drop_i, hv_drop_r, hv_drop_n, hv_drop_a, hv_rf_some, r_X1_init_13, r_X1_init_16, r_X1_init_17, r_X1_init_19, r_X1_init_21, r_X1_init_24, r_X1_init_25, r_X1_init_27, r_X1_init_29, r_X1_init_32, r_X1_init_33, r_X1_init_35, r_X1_init_37, r_X1_init_40, r_X1_init_41, r_X1_init_42, r_X1_init_44, r_X1_init_47, r_X1_init_48, r_X1_init_50, r_X1_init_52, r_X1_init_55, r_X1_init_56, r_X1_init_58, r_X1_init_59, r_X1_init_63, r_X1_init_66, kd0, kd1, kd2, ln2, kd3, kd4, ln4, kd5, ln5, ln5_13, kd6, ln6, kd7, ln7, kd8, ln8, kd9, ln9, kd10, ln10, kd11, kd12, ln12, kd13, ln13, ln13_13, kd14, ln14, kd15, ln15, kd16, ln16, kd17, ln17, kd18, ln18, kd19, kd20, ln20, kd21, ln21, kd22, ln22, kd23, ln23, kd24, ln24, ln24_12, kd25, kd26, ln26, kd27, ln27, kd28, ln28, kd29, ln29, kd30, kd31, ln31, kd32, ln32, kd33, ln33, kd34, ln34, kd35, ln35, kd36, kd37, ln37, kd38, ln38, kd39, ln39, kd40, ln40, kd41, kd42, ln42, ln42_13, kd43, ln43, kd44, ln44, kd45, ln45, kd46, ln46, kd47, ln47, kd48, ln48, kd49, ln49, kd50, ln50, kd51, ln51, kd52, ln52, kd53, ln53, kd54, ln54, kd55, ln55, ln55_13, kd56, ln56, kd57, ln57, kd58, ln58, kd59, ln59, kd60, ln60, kd61, ln61, kd62, ln62, kd63, kd64, ln64, kd65, ln65, kd66, ln66, kd67, kd68, ln68, kd69, ln69, kd70, ln70, kd71, ln71, kd72, ln72, kd73, ln73, kd74, ln74, kd75, ln75, pp0_0, pp0_3, pp0_4, pp0_5, pp0_6, pp0_7, pp0_8, pp0_9, pp1_0, pp3_0, pp3_2, pp11_0, pp11_2, pp19_0, pp19_1, pp19_2, pp19_5, pp24_0, pp24_1, pp25_0, pp25_1, pp25_2, pp25_5, pp30_0, pp30_1, pp30_2, pp30_5, pp36_0, pp36_1, pp36_3, pp36_4, pp41_0, pp41_1, pp41_3, pp41_7, pp41_8, pp41_9, pp41_10, pp63_0, pp63_3, pp67_1, pp67_3, pp67_4, pp67_5, pp67_6, pp67_7, pp67_8, pp67_14, pp0_1, pp0_2, cx_0, cx_1, cx_2, cx_3, cx_4, cx_5, cx_6, cx_7, cx_8, cx_9, cx_10, cx_11, cx_12, cx_13, cx_14, cx_15, cx_16, cx_17, cx_18, cx_19, cx_20, cx_21, cx_22, cx_23, cx_24, cx_25, cx_26, cx_27, cx_28, cx_29, cx_30, cx_31, cx_32, cx_33, cx_34, cx_35, cx_36, cx_37, cx_38, cx_39, cx_40, cx_99, cx_63, cx_162, hx_0_5, hx_1_5, hx_2_5, hx_3_5, hx_4_5, hx_0_6, hx_1_6, hx_2_6, hx_3_6, hx_4_6, hx_5_6, hx_0_36, hx_1_36, hx_2_36, hx_3_36, hx_4_36, hx_5_36, hx_6_36, hx_7_36, hx_8_36, hx_9_36, hx_10_36, hx_11_36, hx_12_36, hx_13_36, hx_14_36, hx_15_36, hx_16_36, hx_17_36, hx_18_36, hx_19_36, hx_20_36, hx_21_36, hx_22_36, hx_23_36, hx_24_36, hx_25_36, hx_26_36, hx_27_36, hx_28_36, hx_29_36, hx_30_36, hx_31_36, hx_32_36, hx_33_36, hx_34_36, hx_35_36, hx_0_199, hx_1_199, hx_2_199, hx_3_199, hx_4_199, hx_5_199, hx_6_199, hx_7_199, hx_8_199, hx_9_199, hx_10_199, hx_11_199, hx_12_199, hx_13_199, hx_14_199, hx_15_199, hx_16_199, hx_17_199, hx_18_199, true_or, or_true, true_and, and_self, and_true, if_true, if_false, ne_eq, not_true_eq_false, not_false_eq_true, i10, t_uI, t_rI, hv_okQ_iff, show hv_gl.contains (hv_kx 1 9) = true by decide, z_5, z_6, z_7, rep75, List.length_append, List.length_cons, List.length_nil, List.append_assoc, List.cons_append, List.nil_append, hn, zz_mm b1, zz_mm b2, zz_mm b3, zz_mm b4, zz_mm b5, mm7 b6, kk, uP_mm, Nat.reduceAdd, Nat.reduceMul, Nat.reduceLeDiff]
end INITS
