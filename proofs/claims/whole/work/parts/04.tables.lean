/-! ===== what the tables' words say of the links: by program, the place of each word ===== -/
def hv_at (p : Nat) (w : Cond) : Bool := decide (lw_tbl[p]? = some w) && goodWord w
theorem hv_at_in {p : Nat} {w : Cond} (h : hv_at p w = true) : w ∈ hv_tbl := by
  simp only [hv_at, Bool.and_eq_true, decide_eq_true_eq] at h
  exact List.mem_filter.mpr ⟨List.mem_of_getElem? h.1, h.2⟩
theorem hv_goodIn {y : MethodName} {b : ByteArray} {n : Nat} {r : Option FieldType} (h : Cond.code y b n r ∈ hv_tbl) : GoodIn hv_tbl (Cond.code y b n r :: hv_tbl) := by
  intro w hw
  have hm : w ∈ hv_tbl := by
    rcases List.mem_cons.mp hw with rfl | hw
    · exact h
    · exact hw
  exact ⟨hm, good_of_word (List.mem_filter.mp hm).2⟩
def hv_flw (e : Nat × Nat × Nat) : Cond := .fieldLink (hv_nm (e.1 / 1000)) (e.1 % 1000) (hv_T e.2.1 e.2.2).1 (hv_T e.2.1 e.2.2).2.1 (hv_T e.2.1 e.2.2).2.2.1
def hv_flok (e : (Nat × Nat × Nat) × Nat) : Bool := hv_at e.2 (hv_flw e.1) && decide (e.1.2.1 < 8) && decide (e.1.2.2 < hv_nf e.1.2.1) && decide ((hv_T e.1.2.1 e.1.2.2).1 = hv_nm e.1.2.1)
def hv_flP0 : List ((Nat × Nat × Nat) × Nat) := [((11, 0, 0), 149), ((15, 0, 1), 151), ((18, 0, 2), 153), ((21, 0, 5), 159), ((30, 0, 3), 155), ((34, 0, 4), 157), ((37, 0, 6), 160), ((46, 4, 3), 122), ((55, 4, 2), 116), ((1011, 1, 0), 209), ((1016, 1, 1), 210), ((1020, 1, 3), 213), ((1023, 1, 7), 219), ((1026, 1, 8), 220), ((1029, 1, 9), 221), ((1032, 1, 10), 222), ((1035, 1, 2), 212), ((1039, 1, 6), 218), ((1042, 4, 1), 106), ((1054, 4, 3), 120), ((1080, 4, 2), 115), ((1084, 1, 4), 215), ((1087, 1, 5), 217), ((2009, 2, 0), 184), ((2015, 2, 1), 185), ((2018, 2, 3), 188), ((2021, 2, 4), 189), ((2024, 2, 2), 186), ((2036, 4, 3), 119), ((2047, 4, 1), 108), ((2068, 4, 2), 113), ((3009, 3, 0), 73), ((3015, 3, 1), 74), ((3024, 3, 2), 76), ((3030, 3, 4), 78), ((3037, 3, 3), 77), ((3040, 3, 5), 79), ((3047, 4, 3), 121), ((3053, 4, 5), 129), ((3060, 4, 1), 107)]
def hv_flP1 : List ((Nat × Nat × Nat) × Nat) := [((3067, 4, 0), 103), ((3077, 4, 2), 114), ((3081, 4, 4), 126), ((4009, 4, 0), 102), ((4017, 4, 2), 110), ((4020, 4, 1), 105), ((4024, 4, 3), 117), ((4027, 4, 4), 124), ((4030, 4, 5), 128), ((5009, 5, 0), 252), ((5015, 5, 3), 257), ((5018, 5, 2), 256), ((5023, 5, 1), 254), ((5027, 4, 4), 125), ((5036, 4, 3), 118), ((5045, 4, 2), 111), ((6010, 6, 0), 267), ((6019, 6, 1), 268), ((6023, 6, 2), 269), ((6029, 6, 3), 270), ((6033, 6, 4), 271), ((6037, 6, 5), 272), ((6044, 6, 6), 273), ((6051, 6, 7), 274), ((6058, 6, 8), 275), ((6062, 6, 9), 276), ((6066, 3, 1), 75), ((6085, 4, 0), 104), ((6088, 0, 0), 150), ((6103, 4, 2), 112), ((6116, 0, 1), 152), ((6119, 0, 2), 154), ((6136, 0, 4), 158), ((6142, 0, 6), 161), ((6148, 0, 3), 156), ((6168, 1, 1), 211), ((6171, 4, 3), 123), ((6177, 1, 4), 216), ((6180, 1, 3), 214), ((6183, 4, 1), 109)]
def hv_flP2 : List ((Nat × Nat × Nat) × Nat) := [((6202, 2, 2), 187), ((6218, 5, 1), 255), ((6221, 5, 0), 253), ((6231, 4, 4), 127), ((6234, 6, 10), 277), ((7007, 7, 1), 726), ((7013, 7, 3), 728), ((7016, 7, 4), 729), ((7019, 7, 5), 730), ((7022, 7, 6), 731), ((7025, 7, 7), 732), ((7029, 7, 8), 733), ((7032, 7, 14), 739), ((7046, 7, 2), 727), ((7050, 7, 10), 735), ((7057, 7, 12), 737), ((7064, 7, 11), 736), ((7067, 7, 13), 738), ((7085, 7, 9), 734), ((7138, 7, 0), 725)]
def hv_flP : List ((Nat × Nat × Nat) × Nat) := hv_flP0 ++ (hv_flP1 ++ (hv_flP2))
set_option maxRecDepth 100000 in
theorem hv_fl_eq : hv_fl = hv_flP.map (fun e => e.1) := rfl
theorem hv_flP0_ok : hv_flP0.all hv_flok = true := by decide +kernel
theorem hv_flP1_ok : hv_flP1.all hv_flok = true := by decide +kernel
theorem hv_flP2_ok : hv_flP2.all hv_flok = true := by decide +kernel
theorem hv_flP_ok : hv_flP.all hv_flok = true := by
  simp only [hv_flP, List.all_append, hv_flP0_ok, hv_flP1_ok, hv_flP2_ok, Bool.and_self]
theorem hv_fl_ok {e : _} (h : e ∈ hv_fl) : ∃ x, (e, x) ∈ hv_flP ∧ hv_flok (e, x) = true := by
  rw [hv_fl_eq] at h
  obtain ⟨⟨e1, x⟩, h1, rfl⟩ := List.mem_map.mp h
  exact ⟨x, h1, List.all_eq_true.mp hv_flP_ok _ h1⟩
def hv_cook (e : (Nat × Int32) × Nat) : Bool := hv_at e.2 (Cond.constant (hv_nm (e.1.1 / 1000)) (e.1.1 % 1000) e.1.2)
def hv_coP0 : List ((Nat × Int32) × Nat) := [((1083, -1000000), 536), ((4055, -1000000), 485), ((5022, -1000000), 633), ((6102, -1000000), 421), ((7094, 1000000), 852), ((7107, -1000000), 811), ((8265, 1431655765), 658), ((8266, 858993459), 659), ((8267, 252645135), 660)]
def hv_coP : List ((Nat × Int32) × Nat) := hv_coP0
set_option maxRecDepth 100000 in
theorem hv_co_eq : hv_co = hv_coP.map (fun e => e.1) := rfl
theorem hv_coP0_ok : hv_coP0.all hv_cook = true := by decide +kernel
theorem hv_coP_ok : hv_coP.all hv_cook = true := by
  simp only [hv_coP, List.all_append, hv_coP0_ok, Bool.and_self]
theorem hv_co_ok {e : _} (h : e ∈ hv_co) : ∃ x, (e, x) ∈ hv_coP ∧ hv_cook (e, x) = true := by
  rw [hv_co_eq] at h
  obtain ⟨⟨e1, x⟩, h1, rfl⟩ := List.mem_map.mp h
  exact ⟨x, h1, List.all_eq_true.mp hv_coP_ok _ h1⟩
def hv_colok (e : (Nat × Int64) × Nat) : Bool := hv_at e.2 (Cond.constantLong (hv_nm (e.1.1 / 1000)) (e.1.1 % 1000) e.1.2)
def hv_colP0 : List ((Nat × Int64) × Nat) := [((6193, -1), 576), ((7131, -1), 885), ((7133, 10), 886), ((7142, 11), 915), ((7144, 101), 916), ((7146, 1011), 917), ((7148, 10101), 918), ((7150, 100001), 919)]
def hv_colP : List ((Nat × Int64) × Nat) := hv_colP0
set_option maxRecDepth 100000 in
theorem hv_col_eq : hv_col = hv_colP.map (fun e => e.1) := rfl
theorem hv_colP0_ok : hv_colP0.all hv_colok = true := by decide +kernel
theorem hv_colP_ok : hv_colP.all hv_colok = true := by
  simp only [hv_colP, List.all_append, hv_colP0_ok, Bool.and_self]
theorem hv_col_ok {e : _} (h : e ∈ hv_col) : ∃ x, (e, x) ∈ hv_colP ∧ hv_colok (e, x) = true := by
  rw [hv_col_eq] at h
  obtain ⟨⟨e1, x⟩, h1, rfl⟩ := List.mem_map.mp h
  exact ⟨x, h1, List.all_eq_true.mp hv_colP_ok _ h1⟩
def hv_nlok (e : (Nat × Nat) × Nat) : Bool := hv_at e.2 (Cond.classLink (hv_nm (e.1.1 / 1000)) (e.1.1 % 1000) (hv_nm e.1.2)) && decide (e.1.2 < 8)
def hv_nlP0 : List ((Nat × Nat) × Nat) := [((6007, 3), 67), ((6016, 4), 94), ((6026, 0), 143), ((6041, 2), 178), ((6048, 1), 202), ((6055, 5), 246), ((10007, 6), 59), ((10010, 7), 681)]
def hv_nlP : List ((Nat × Nat) × Nat) := hv_nlP0
set_option maxRecDepth 100000 in
theorem hv_nl_eq : hv_nl = hv_nlP.map (fun e => e.1) := rfl
theorem hv_nlP0_ok : hv_nlP0.all hv_nlok = true := by decide +kernel
theorem hv_nlP_ok : hv_nlP.all hv_nlok = true := by
  simp only [hv_nlP, List.all_append, hv_nlP0_ok, Bool.and_self]
theorem hv_nl_ok {e : _} (h : e ∈ hv_nl) : ∃ x, (e, x) ∈ hv_nlP ∧ hv_nlok (e, x) = true := by
  rw [hv_nl_eq] at h
  obtain ⟨⟨e1, x⟩, h1, rfl⟩ := List.mem_map.mp h
  exact ⟨x, h1, List.all_eq_true.mp hv_nlP_ok _ h1⟩
def hv_glok (e : Nat × Nat) : Bool := hv_at e.2 (Cond.classLink (hv_nm (e.1 / 1000)) (e.1 % 1000) "[[I")
def hv_glP0 : List (Nat × Nat) := [(1009, 208), (4015, 100)]
def hv_glP : List (Nat × Nat) := hv_glP0
set_option maxRecDepth 100000 in
theorem hv_gl_eq : hv_gl = hv_glP.map (fun e => e.1) := rfl
theorem hv_glP0_ok : hv_glP0.all hv_glok = true := by decide +kernel
theorem hv_glP_ok : hv_glP.all hv_glok = true := by
  simp only [hv_glP, List.all_append, hv_glP0_ok, Bool.and_self]
theorem hv_gl_ok {e : _} (h : e ∈ hv_gl) : ∃ x, (e, x) ∈ hv_glP ∧ hv_glok (e, x) = true := by
  rw [hv_gl_eq] at h
  obtain ⟨⟨e1, x⟩, h1, rfl⟩ := List.mem_map.mp h
  exact ⟨x, h1, List.all_eq_true.mp hv_glP_ok _ h1⟩
def hv_olok (e : Nat × Nat) : Bool := hv_at e.2 (Cond.methodLink (hv_nm (e.1 / 1000)) (e.1 % 1000) Lib.objectInit)
def hv_olP0 : List (Nat × Nat) := [(5, 148), (1003, 207), (2003, 183), (3003, 72), (4003, 99), (5003, 251), (6001, 64), (7001, 686)]
def hv_olP : List (Nat × Nat) := hv_olP0
set_option maxRecDepth 100000 in
theorem hv_ol_eq : hv_ol = hv_olP.map (fun e => e.1) := rfl
theorem hv_olP0_ok : hv_olP0.all hv_olok = true := by decide +kernel
theorem hv_olP_ok : hv_olP.all hv_olok = true := by
  simp only [hv_olP, List.all_append, hv_olP0_ok, Bool.and_self]
theorem hv_ol_ok {e : _} (h : e ∈ hv_ol) : ∃ x, (e, x) ∈ hv_olP ∧ hv_olok (e, x) = true := by
  rw [hv_ol_eq] at h
  obtain ⟨⟨e1, x⟩, h1, rfl⟩ := List.mem_map.mp h
  exact ⟨x, h1, List.all_eq_true.mp hv_olP_ok _ h1⟩
def hv_alok (e : Nat × Nat) : Bool := hv_at e.2 (Cond.methodLink (hv_nm (e.1 / 1000)) (e.1 % 1000) arraycopyName)
def hv_alP0 : List (Nat × Nat) := [(40, 445), (1102, 549), (2062, 619), (5039, 638), (6249, 563)]
def hv_alP : List (Nat × Nat) := hv_alP0
set_option maxRecDepth 100000 in
theorem hv_al_eq : hv_al = hv_alP.map (fun e => e.1) := rfl
theorem hv_alP0_ok : hv_alP0.all hv_alok = true := by decide +kernel
theorem hv_alP_ok : hv_alP.all hv_alok = true := by
  simp only [hv_alP, List.all_append, hv_alP0_ok, Bool.and_self]
theorem hv_al_ok {e : _} (h : e ∈ hv_al) : ∃ x, (e, x) ∈ hv_alP ∧ hv_alok (e, x) = true := by
  rw [hv_al_eq] at h
  obtain ⟨⟨e1, x⟩, h1, rfl⟩ := List.mem_map.mp h
  exact ⟨x, h1, List.all_eq_true.mp hv_alP_ok _ h1⟩
def hv_slok (e : (Nat × Nat × Nat) × Nat) : Bool := decide (0 < e.1.2.1) && decide (e.1.2.1 < 4) && (if e.1.2.2 = 1 then decide (Cond.fieldLinkNest (hv_nm (e.1.1 / 1000)) (e.1.1 % 1000) RX6 (hv_on e.1.2.1) "[I" RX6 ∈ hv_nw) else hv_at e.2 (.fieldLink (hv_nm (e.1.1 / 1000)) (e.1.1 % 1000) RX6 (hv_on e.1.2.1) "[I"))
def hv_slP0 : List ((Nat × Nat × Nat) × Nat) := [((3074, 1, 1), 0), ((6262, 3, 0), 651), ((6265, 2, 0), 653)]
def hv_slP : List ((Nat × Nat × Nat) × Nat) := hv_slP0
set_option maxRecDepth 100000 in
theorem hv_sl_eq : hv_sl = hv_slP.map (fun e => e.1) := rfl
theorem hv_slP0_ok : hv_slP0.all hv_slok = true := by decide +kernel
theorem hv_slP_ok : hv_slP.all hv_slok = true := by
  simp only [hv_slP, List.all_append, hv_slP0_ok, Bool.and_self]
theorem hv_sl_ok {e : _} (h : e ∈ hv_sl) : ∃ x, (e, x) ∈ hv_slP ∧ hv_slok (e, x) = true := by
  rw [hv_sl_eq] at h
  obtain ⟨⟨e1, x⟩, h1, rfl⟩ := List.mem_map.mp h
  exact ⟨x, h1, List.all_eq_true.mp hv_slP_ok _ h1⟩
theorem hv_nw_in : ∀ w ∈ hv_nw, w ∈ lw_tbl := by decide +kernel
theorem hv_nw_on : ∀ w ∈ hv_nw, w.onTables = true := by decide +kernel
def hv_mlok (e : (Nat × MethodName × Nat × Nat) × Nat × Nat × Nat × Nat) : Bool :=
  decide (e.1.2.1.cls ≠ "java/lang/invoke/MethodHandle") && decide (e.1.2.1.cls ≠ "java/lang/invoke/VarHandle") && decide ((parseMethodDescriptor e.1.2.1.desc).map (fun d => d.parameters.length) = some e.1.2.2.1) && hv_at e.2.2.1 (Cond.initialized e.1.2.1.cls) &&
  (if e.1.2.2.2 = 3 then decide (Cond.methodLinkNest (hv_nm (e.1.1 / 1000)) (e.1.1 % 1000) e.1.2.1 RX6 ∈ hv_nw) else hv_at e.2.1 (Cond.methodLink (hv_nm (e.1.1 / 1000)) (e.1.1 % 1000) e.1.2.1)) &&
  (if e.1.2.2.2 = 0 then hv_at e.2.2.2.1 (Cond.static e.1.2.1) else hv_at e.2.2.2.1 (Cond.instanceMethod e.1.2.1)) &&
  (if e.1.2.2.2 = 1 then hv_at e.2.2.2.2 (Cond.selects e.1.2.1.cls e.1.2.1 e.1.2.1) else true) && (if 2 ≤ e.1.2.2.2 then decide (e.1.2.1.name = "<init>") else true)
def hv_mlP0 : List ((Nat × MethodName × Nat × Nat) × Nat × Nat × Nat × Nat) := [((24, yJ7_fill_53178, 2, 0), 372, 56, 373, 0), ((51, yX4_leftOfFamily, 2, 1), 467, 49, 432, 433), ((59, yX0_turnsOf, 1, 1), 468, 50, 423, 424), ((1048, yJ7_fill_53178, 2, 0), 504, 56, 373, 0), ((1057, yX1_firstBest, 3, 1), 505, 52, 507, 10), ((1061, yX1_joyFrom, 4, 1), 509, 52, 511, 11), ((1065, yX4_lastWhoMayBe, 1, 1), 514, 49, 515, 516), ((1069, yX4_joy, 3, 1), 513, 49, 405, 406), ((1073, yX1_findMost, 1, 1), 530, 52, 501, 502), ((1077, yX1_lookAhead, 1, 1), 531, 52, 533, 12), ((1090, yX1_tryFrom, 4, 1), 537, 52, 539, 13), ((1094, yX4_isWinter, 1, 1), 535, 49, 413, 414), ((1098, yX1_mayBeFairer, 3, 1), 541, 52, 543, 14), ((1108, yX1_leastOfLefts, 1, 1), 550, 52, 552, 16), ((1112, yX1_mayAllHave, 3, 1), 545, 52, 547, 15), ((1115, yJ9_min_7cf53, 2, 0), 554, 55, 337, 0), ((2028, yX2_waysWith, 3, 1), 606, 51, 608, 20), ((2032, yX2_waysInAll, 1, 1), 624, 51, 603, 604), ((2041, yJ7_fill_53178, 2, 0), 610, 56, 373, 0), ((2050, yX2_sumOf, 1, 0), 611, 51, 612, 0), ((2054, yX4_lastWhoMayBe, 1, 1), 614, 49, 515, 516), ((2058, yX2_agrees, 3, 1), 615, 51, 617, 21), ((3019, yX4_begin, 0, 1), 321, 49, 322, 323), ((3027, yX3_next, 0, 1), 325, 48, 327, 0), ((3033, yX3_readItem, 2, 1), 339, 48, 341, 2), ((3043, yX3_readYear, 1, 1), 343, 48, 345, 3), ((3050, yX3_readFamily, 1, 1), 354, 48, 356, 5), ((3057, yX3_readWalks, 1, 1), 360, 48, 362, 6), ((3063, yX3_seasonOf, 1, 0), 347, 48, 348, 0), ((3070, yX3_readStop, 0, 1), 350, 48, 352, 4), ((3084, yX3_isDigit, 1, 0), 329, 48, 330, 0), ((3088, yX3_nextNumber, 0, 1), 332, 48, 334, 1), ((3091, yJ9_min_7cf53, 2, 0), 336, 55, 337, 0), ((4034, yX4_isWinter, 1, 1), 412, 49, 413, 414), ((4038, yX4_hasFamily, 1, 1), 408, 49, 409, 410), ((4041, yX4_aheadOf, 2, 0), 401, 49, 402, 0), ((4045, yX4_joy, 3, 1), 404, 49, 405, 406), ((4049, yX4_joyOfTurn, 2, 1), 430, 49, 398, 399), ((4052, yX4_joyOfFamily, 2, 1), 435, 49, 427, 428), ((4056, yX4_leftOfFamily, 2, 1), 486, 49, 432, 433)]
def hv_mlP1 : List ((Nat × MethodName × Nat × Nat) × Nat × Nat × Nat × Nat) := [((4059, yJ9_min_7cf53, 2, 0), 487, 55, 337, 0), ((5032, yX5_tryFrom, 4, 1), 634, 53, 636, 22), ((6009, yX3_init, 0, 3), 0, 48, 70, 0), ((6018, yX4_init, 0, 3), 0, 49, 97, 0), ((6028, yX0_init, 0, 3), 0, 50, 146, 0), ((6043, yX2_init, 0, 3), 0, 51, 181, 0), ((6050, yX1_init, 0, 3), 0, 52, 205, 0), ((6057, yX5_init, 0, 3), 0, 53, 249, 0), ((6070, yX3_add, 1, 1), 305, 48, 306, 307), ((6074, yX3_readInto, 1, 1), 317, 48, 318, 319), ((6078, yX6_beginAnew, 0, 1), 364, 47, 366, 7), ((6081, yX4_hasTurn, 1, 1), 390, 49, 391, 392), ((6091, yX6_orNone, 1, 0), 394, 47, 395, 0), ((6095, yX4_joyOfTurn, 2, 1), 397, 49, 398, 399), ((6099, yX4_hasFamily, 1, 1), 420, 49, 409, 410), ((6107, yX0_turnsOf, 1, 1), 422, 50, 423, 424), ((6110, yX4_joyOfFamily, 2, 1), 426, 49, 427, 428), ((6113, yX4_leftOfFamily, 2, 1), 431, 49, 432, 433), ((6122, yX4_isWinter, 1, 1), 440, 49, 413, 414), ((6125, yX0_remember, 0, 1), 441, 50, 442, 443), ((6128, yX6_exchange, 3, 0), 452, 47, 453, 0), ((6132, yX4_joyOfAll, 1, 1), 455, 49, 456, 457), ((6139, yX0_passYear, 1, 1), 463, 50, 464, 465), ((6145, yX0_recall, 0, 1), 473, 50, 474, 475), ((6151, yX4_leastLeft, 1, 1), 481, 49, 482, 483), ((6154, yX6_familiesWithoutTurn, 0, 1), 488, 47, 490, 8), ((6158, yX6_turnsOfNobody, 0, 1), 492, 47, 494, 9), ((6161, yX1_findMost, 1, 1), 500, 52, 501, 502), ((6165, yX1_mostJoy, 0, 1), 518, 52, 519, 520), ((6174, yX1_findFair, 1, 1), 526, 52, 527, 528), ((6186, yX6_bothWouldRather, 2, 1), 559, 47, 561, 17), ((6190, yX6_joyOfAllBut, 1, 1), 568, 47, 570, 18), ((6195, yX6_hundredthsOfTurn, 2, 1), 577, 47, 579, 19), ((6199, yX6_commonWithHundred, 1, 0), 583, 47, 584, 0), ((6205, yX2_add, 2, 1), 590, 51, 591, 592), ((6208, yX2_waysInAll, 1, 1), 602, 51, 603, 604), ((6211, yX2_sureOf, 2, 1), 620, 51, 621, 622), ((6215, yX5_find, 1, 1), 629, 53, 630, 631), ((6224, yX6_markAs, 2, 1), 647, 47, 649, 23), ((6227, yX0_become, 1, 1), 665, 50, 666, 667)]
def hv_mlP2 : List ((Nat × MethodName × Nat × Nat) × Nat × Nat × Nat × Nat) := [((6238, yX0_begin, 0, 1), 368, 50, 369, 370), ((6241, yX1_begin, 0, 1), 375, 52, 376, 377), ((6242, yX5_begin, 0, 1), 379, 53, 380, 381), ((6243, yJ7_fill_49daa, 2, 0), 383, 56, 384, 0), ((6255, yX4_aheadOf, 2, 0), 581, 49, 402, 0), ((6258, yX4_joy, 3, 1), 582, 49, 405, 406), ((6268, yJ6_bitCount_0f7a4, 1, 0), 655, 58, 656, 0), ((7035, yX7_reads, 0, 1), 687, 54, 689, 24), ((7039, yX7_tells, 0, 1), 721, 54, 723, 31), ((7042, yX7_in, 3, 0), 699, 54, 700, 0), ((7053, yX7_letterAt, 1, 1), 695, 54, 697, 26), ((7060, yX7_isDigit, 1, 0), 702, 54, 703, 0), ((7070, yX7_token, 0, 1), 691, 54, 693, 25), ((7073, yX7_number, 3, 1), 717, 54, 719, 30), ((7076, yX7_readsYear, 0, 1), 709, 54, 711, 28), ((7079, yX7_readsFamily, 0, 1), 713, 54, 715, 29), ((7082, yX7_readsItem, 0, 1), 705, 54, 707, 27), ((7088, yX7_isWinter, 1, 1), 799, 54, 801, 35), ((7091, yX7_joyAt, 1, 1), 795, 54, 797, 34), ((7095, yX7_joyOf, 1, 1), 816, 54, 818, 38), ((7098, yX7_isTurn, 1, 1), 787, 54, 789, 32), ((7101, yX7_isNow, 0, 1), 791, 54, 793, 33), ((7104, yX7_isFamily, 1, 1), 807, 54, 809, 36), ((7108, yX7_turnsOf, 1, 1), 812, 54, 814, 37), ((7111, yX7_keeps, 0, 1), 824, 54, 826, 39), ((7114, yX7_allJoy, 0, 1), 832, 54, 834, 40), ((7118, yX7_leastLeft, 0, 1), 848, 54, 850, 41), ((7121, yX7_codes, 0, 1), 857, 54, 859, 42), ((7124, yX7_isWay, 1, 1), 861, 54, 863, 43), ((7127, yX7_wouldRather, 2, 1), 873, 54, 875, 44), ((7135, yX7_isSo, 0, 1), 899, 54, 901, 45), ((7152, yX7_ones, 1, 0), 920, 54, 921, 0), ((10009, yX6_init, 0, 2), 61, 47, 62, 0), ((10012, yX7_init, 0, 2), 683, 54, 684, 0), ((10013, yX6_type, 1, 1), 301, 47, 302, 303), ((10017, yX7_type, 1, 1), 771, 54, 772, 773), ((10018, yX6_clear, 0, 1), 309, 47, 310, 311), ((10022, yX7_clear, 0, 1), 775, 54, 776, 777), ((10023, yX6_grotto, 0, 1), 313, 47, 314, 315), ((10026, yX7_grotto, 0, 1), 779, 54, 780, 781)]
def hv_mlP3 : List ((Nat × MethodName × Nat × Nat) × Nat × Nat × Nat × Nat) := [((10027, yX6_turn, 2, 1), 386, 47, 387, 388), ((10031, yX7_turn, 2, 1), 783, 54, 784, 785), ((10032, yX6_family, 2, 1), 416, 47, 417, 418), ((10035, yX7_family, 2, 1), 803, 54, 804, 805), ((10036, yX6_gives, 2, 1), 436, 47, 437, 438), ((10039, yX7_gives, 2, 1), 820, 54, 821, 822), ((10040, yX6_swaps, 2, 1), 448, 47, 449, 450), ((10043, yX7_swaps, 2, 1), 828, 54, 829, 830), ((10044, yX6_year, 0, 1), 459, 47, 460, 461), ((10047, yX7_year, 0, 1), 836, 54, 837, 838), ((10048, yX6_undo, 0, 1), 469, 47, 470, 471), ((10051, yX7_undo, 0, 1), 840, 54, 841, 842), ((10052, yX6_now, 1, 1), 477, 47, 478, 479), ((10055, yX7_now, 1, 1), 844, 54, 845, 846), ((10056, yX6_most, 1, 1), 496, 47, 497, 498), ((10059, yX7_most, 1, 1), 853, 54, 854, 855), ((10060, yX6_fair, 1, 1), 522, 47, 523, 524), ((10063, yX7_fair, 1, 1), 865, 54, 866, 867), ((10064, yX6_rather, 1, 1), 555, 47, 556, 557), ((10067, yX7_rather, 1, 1), 869, 54, 870, 871), ((10068, yX6_entry, 3, 1), 564, 47, 565, 566), ((10072, yX7_entry, 3, 1), 877, 54, 878, 879), ((10073, yX6_odds, 2, 1), 572, 47, 573, 574), ((10077, yX7_odds, 2, 1), 881, 54, 882, 883), ((10078, yX6_saw, 2, 1), 586, 47, 587, 588), ((10081, yX7_saw, 2, 1), 887, 54, 888, 889), ((10082, yX6_forget, 0, 1), 594, 47, 595, 596), ((10085, yX7_forget, 0, 1), 891, 54, 892, 893), ((10086, yX6_ways, 1, 1), 598, 47, 599, 600), ((10089, yX7_ways, 1, 1), 895, 54, 896, 897), ((10090, yX6_cheese, 1, 1), 625, 47, 626, 627), ((10093, yX7_cheese, 1, 1), 903, 54, 904, 905), ((10094, yX6_free, 1, 1), 639, 47, 640, 641), ((10097, yX7_free, 1, 1), 907, 54, 908, 909), ((10098, yX6_mark, 2, 1), 643, 47, 644, 645), ((10101, yX7_mark, 2, 1), 911, 54, 912, 913), ((10102, yX6_keep, 1, 1), 661, 47, 662, 663), ((10105, yX7_keep, 1, 1), 923, 54, 924, 925), ((10106, yX6_back, 1, 1), 669, 47, 670, 671), ((10109, yX7_back, 1, 1), 927, 54, 928, 929)]
def hv_mlP4 : List ((Nat × MethodName × Nat × Nat) × Nat × Nat × Nat × Nat) := [((10110, yX6_count, 1, 1), 673, 47, 674, 675), ((10113, yX7_count, 1, 1), 931, 54, 932, 933), ((10114, yX6_trace, 0, 1), 677, 47, 678, 679), ((10118, yX7_trace, 0, 1), 935, 54, 936, 937)]
def hv_mlP : List ((Nat × MethodName × Nat × Nat) × Nat × Nat × Nat × Nat) := hv_mlP0 ++ (hv_mlP1 ++ (hv_mlP2 ++ (hv_mlP3 ++ (hv_mlP4))))
set_option maxRecDepth 100000 in
theorem hv_ml_eq : hv_ml = hv_mlP.map (fun e => e.1) := rfl
theorem hv_mlP0_ok : hv_mlP0.all hv_mlok = true := by decide +kernel
theorem hv_mlP1_ok : hv_mlP1.all hv_mlok = true := by decide +kernel
theorem hv_mlP2_ok : hv_mlP2.all hv_mlok = true := by decide +kernel
theorem hv_mlP3_ok : hv_mlP3.all hv_mlok = true := by decide +kernel
theorem hv_mlP4_ok : hv_mlP4.all hv_mlok = true := by decide +kernel
theorem hv_mlP_ok : hv_mlP.all hv_mlok = true := by
  simp only [hv_mlP, List.all_append, hv_mlP0_ok, hv_mlP1_ok, hv_mlP2_ok, hv_mlP3_ok, hv_mlP4_ok, Bool.and_self]
theorem hv_ml_ok {e : _} (h : e ∈ hv_ml) : ∃ x, (e, x) ∈ hv_mlP ∧ hv_mlok (e, x) = true := by
  rw [hv_ml_eq] at h
  obtain ⟨⟨e1, x⟩, h1, rfl⟩ := List.mem_map.mp h
  exact ⟨x, h1, List.all_eq_true.mp hv_mlP_ok _ h1⟩
def hv_ic : List (Nat × Nat × Nat × List Nat) := [(0, 144, 50, [162, 164, 166, 168, 170, 172, 174]), (1, 203, 52, [223, 225, 227, 229, 231, 233, 235, 237, 239, 241, 243]), (2, 179, 51, [190, 192, 194, 196, 198]), (3, 68, 48, [80, 82, 84, 86, 88, 90]), (4, 95, 49, [130, 132, 134, 136, 138, 140]), (5, 247, 53, [258, 260, 262, 264]), (6, 60, 47, [278, 280, 282, 284, 286, 288, 290, 292, 294, 296, 298]), (7, 682, 54, [740, 742, 744, 746, 748, 750, 752, 754, 756, 758, 760, 762, 764, 766, 768])]
def hv_icok (e : Nat × Nat × Nat × List Nat) : Bool := hv_at e.2.1 (Cond.instantiable (hv_nm e.1) (hv_nf e.1)) && hv_at e.2.2.1 (Cond.initialized (hv_nm e.1)) && (List.range (hv_nf e.1)).all (fun k => hv_at (e.2.2.2.getD k 0) (u_lay (hv_nm e.1) (hv_T e.1) k))
theorem hv_ic_ok : hv_ic.all hv_icok = true := by decide +kernel
theorem hv_ic_in {c : Nat} (hc : c < 8) : ∃ x, (c, x) ∈ hv_ic := by
  match c, hc with
  | 0, _ => exact ⟨_, List.mem_of_getElem? (i := 0) rfl⟩
  | 1, _ => exact ⟨_, List.mem_of_getElem? (i := 1) rfl⟩
  | 2, _ => exact ⟨_, List.mem_of_getElem? (i := 2) rfl⟩
  | 3, _ => exact ⟨_, List.mem_of_getElem? (i := 3) rfl⟩
  | 4, _ => exact ⟨_, List.mem_of_getElem? (i := 4) rfl⟩
  | 5, _ => exact ⟨_, List.mem_of_getElem? (i := 5) rfl⟩
  | 6, _ => exact ⟨_, List.mem_of_getElem? (i := 6) rfl⟩
  | 7, _ => exact ⟨_, List.mem_of_getElem? (i := 7) rfl⟩
  | n + 8, h => exact absurd h (by omega)
theorem hv_ic_at {c : Nat} (hc : c < 8) : Cond.instantiable (hv_nm c) (hv_nf c) ∈ hv_tbl ∧ Cond.initialized (hv_nm c) ∈ hv_tbl ∧ ∀ w ∈ u_ws (hv_nm c) (hv_T c) (hv_nf c), w ∈ hv_tbl := by
  obtain ⟨x, hx⟩ := hv_ic_in hc
  have h := List.all_eq_true.mp hv_ic_ok _ hx
  simp only [hv_icok, Bool.and_eq_true] at h
  refine ⟨hv_at_in h.1.1, hv_at_in h.1.2, fun w hw => ?_⟩
  obtain ⟨k, hk, rfl⟩ := List.mem_map.mp hw
  exact hv_at_in (List.all_eq_true.mp h.2 k hk)
def hv_misc : List (Nat × Cond) := [(93, Cond.arrayClass .int), (201, Cond.arrayClass .boolean), (65, Cond.instanceMethod Lib.objectInit), (447, Cond.native arraycopyName), (446, Cond.static arraycopyName), (57, Cond.initialized "java/lang/System"), (66, Cond.code Lib.objectInit ⟨#[0xb1]⟩ 1 none)]
theorem hv_misc_ok : hv_misc.all (fun e => hv_at e.1 e.2) = true := by decide +kernel
theorem hv_misc_in (k : Nat) {p : Nat} {w : Cond} (h : hv_misc[k]? = some (p, w)) : w ∈ hv_tbl := hv_at_in (List.all_eq_true.mp hv_misc_ok _ (List.mem_of_getElem? h))
theorem hv_lookup {α : Type} {L : List (Nat × α)} {k : Nat} {a : α} (h : L.lookup k = some a) : (k, a) ∈ L := by
  induction L with
  | nil => cases h
  | cons x L ih =>
    obtain ⟨k', a'⟩ := x
    rw [List.lookup_cons] at h
    by_cases e : k = k'
    · subst e
      simp at h
      subst h
      exact List.mem_cons_self
    · have e' : (k == k') = false := by simpa using e
      rw [e'] at h
      exact List.mem_cons_of_mem _ (ih h)
theorem hv_cl_at : ∀ c, c < 8 → hv_cl[c]? = some (hv_nm c, hv_T c, hv_nf c)
  | 0, _ => rfl
  | 1, _ => rfl
  | 2, _ => rfl
  | 3, _ => rfl
  | 4, _ => rfl
  | 5, _ => rfl
  | 6, _ => rfl
  | 7, _ => rfl
  | n + 8, h => absurd h (by omega)
theorem hv_tyok : ∀ c, c < 8 → ∀ k, k < hv_nf c → parseFieldDescriptor (hv_T c k).2.2.1 = some (hv_ty c k)
  | 0, _ => tyX0_ok
  | 1, _ => tyX1_ok
  | 2, _ => tyX2_ok
  | 3, _ => tyX3_ok
  | 4, _ => tyX4_ok
  | 5, _ => tyX5_ok
  | 6, _ => tyX6_ok
  | 7, _ => tyX7_ok
  | n + 8, h => absurd h (by omega)
theorem hv_nmok : ∀ c, c < 8 → ∀ a, a < hv_nf c → ∀ b, b < hv_nf c → a ≠ b → (hv_T c a).2.1 ≠ (hv_T c b).2.1
  | 0, _ => nmX0
  | 1, _ => nmX1
  | 2, _ => nmX2
  | 3, _ => nmX3
  | 4, _ => nmX4
  | 5, _ => nmX5
  | 6, _ => nmX6
  | 7, _ => nmX7
  | n + 8, h => absurd h (by omega)
theorem hv_kx_lt {α : Type} {L : List (Nat × α)} {own x : Nat} {a : α} (h : L.lookup (hv_kx own x) = some a) (hn : L.lookup 999999 = none) : hv_kx own x / 1000 = own ∧ hv_kx own x % 1000 = x := by
  unfold hv_kx at h ⊢
  by_cases hx : x < 1000
  · rw [if_pos hx]
    omega
  · rw [if_neg hx, hn] at h
    cases h
theorem hv_kx_lt2 {L : List Nat} {own x : Nat} (h : L.contains (hv_kx own x) = true) (hn : L.contains 999999 = false) : hv_kx own x / 1000 = own ∧ hv_kx own x % 1000 = x := by
  unfold hv_kx at h ⊢
  by_cases hx : x < 1000
  · rw [if_pos hx]
    omega
  · rw [if_neg hx, hn] at h
    cases h

