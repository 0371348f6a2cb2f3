/-! ===== what the tables' words say of the links: by program, the place of each word ===== -/
def hv_at (p : Nat) (w : Cond) : Bool := decide (lw_tbl[p]? = some w) && goodWord w
theorem hv_at_in {p : Nat} {w : Cond} (h : hv_at p w = true) : w ∈ hv_tbl := by
  simp only [hv_at, Bool.and_eq_true, decide_eq_true_eq] at h
  exact List.mem_filter.mpr ⟨List.mem_of_getElem? h.1, h.2⟩
theorem hv_goodIn {y : MethodName} {b : ByteArray} {n : Nat} {r : Option FieldType} (h : Cond.code y b n r ∈ hv_tbl) : GoodIn hv_tbl (Cond.code y b n r :: hv_tbl) := by
  intro w hw
  have hm : w ∈ hv_tbl := by
    rcases List.mem_cons.mp hw with rfl | hw
    · exact h
    · exact hw
  exact ⟨hm, good_of_word (List.mem_filter.mp hm).2⟩
def hv_flw (e : Nat × Nat × Nat) : Cond := .fieldLink (hv_nm (e.1 / 1000)) (e.1 % 1000) (hv_T e.2.1 e.2.2).1 (hv_T e.2.1 e.2.2).2.1 (hv_T e.2.1 e.2.2).2.2.1
def hv_flok (e : (Nat × Nat × Nat) × Nat) : Bool := hv_at e.2 (hv_flw e.1) && decide (e.1.2.1 < 8) && decide (e.1.2.2 < hv_nf e.1.2.1) && decide ((hv_T e.1.2.1 e.1.2.2).1 = hv_nm e.1.2.1)
def hv_flP0 : List ((Nat × Nat × Nat) × Nat) := [((11, 0, 0), 154), ((15, 0, 1), 156), ((18, 0, 2), 158), ((21, 0, 5), 164), ((30, 0, 3), 160), ((34, 0, 4), 162), ((37, 0, 6), 165), ((46, 4, 3), 127), ((55, 4, 2), 121), ((1011, 1, 0), 214), ((1016, 1, 1), 215), ((1020, 1, 3), 218), ((1023, 1, 7), 224), ((1026, 1, 8), 225), ((1029, 1, 9), 226), ((1032, 1, 10), 227), ((1035, 1, 2), 217), ((1039, 1, 6), 223), ((1042, 4, 1), 111), ((1054, 4, 3), 125), ((1080, 4, 2), 120), ((1084, 1, 4), 220), ((1087, 1, 5), 222), ((2009, 2, 0), 189), ((2015, 2, 1), 190), ((2018, 2, 3), 193), ((2021, 2, 4), 194), ((2024, 2, 2), 191), ((2036, 4, 3), 124), ((2047, 4, 1), 113), ((2068, 4, 2), 118), ((3009, 3, 0), 78), ((3015, 3, 1), 79), ((3024, 3, 2), 81), ((3030, 3, 4), 83), ((3037, 3, 3), 82), ((3040, 3, 5), 84), ((3047, 4, 3), 126), ((3053, 4, 5), 134), ((3060, 4, 1), 112)]
def hv_flP1 : List ((Nat × Nat × Nat) × Nat) := [((3067, 4, 0), 108), ((3077, 4, 2), 119), ((3081, 4, 4), 131), ((4009, 4, 0), 107), ((4017, 4, 2), 115), ((4020, 4, 1), 110), ((4024, 4, 3), 122), ((4027, 4, 4), 129), ((4030, 4, 5), 133), ((5009, 5, 0), 257), ((5015, 5, 3), 262), ((5018, 5, 2), 261), ((5023, 5, 1), 259), ((5027, 4, 4), 130), ((5036, 4, 3), 123), ((5045, 4, 2), 116), ((6010, 6, 0), 272), ((6019, 6, 1), 273), ((6023, 6, 2), 274), ((6029, 6, 3), 275), ((6033, 6, 4), 276), ((6037, 6, 5), 277), ((6044, 6, 6), 278), ((6051, 6, 7), 279), ((6058, 6, 8), 280), ((6062, 6, 9), 281), ((6066, 3, 1), 80), ((6085, 4, 0), 109), ((6088, 0, 0), 155), ((6103, 4, 2), 117), ((6116, 0, 1), 157), ((6119, 0, 2), 159), ((6136, 0, 4), 163), ((6142, 0, 6), 166), ((6148, 0, 3), 161), ((6168, 1, 1), 216), ((6171, 4, 3), 128), ((6177, 1, 4), 221), ((6180, 1, 3), 219), ((6183, 4, 1), 114)]
def hv_flP2 : List ((Nat × Nat × Nat) × Nat) := [((6202, 2, 2), 192), ((6218, 5, 1), 260), ((6221, 5, 0), 258), ((6246, 4, 4), 132), ((6249, 6, 10), 282), ((7007, 7, 1), 749), ((7013, 7, 3), 751), ((7016, 7, 4), 752), ((7019, 7, 5), 753), ((7022, 7, 6), 754), ((7025, 7, 7), 755), ((7029, 7, 8), 756), ((7032, 7, 14), 762), ((7046, 7, 2), 750), ((7050, 7, 10), 758), ((7057, 7, 12), 760), ((7064, 7, 11), 759), ((7067, 7, 13), 761), ((7085, 7, 9), 757), ((7138, 7, 0), 748)]
def hv_flP : List ((Nat × Nat × Nat) × Nat) := hv_flP0 ++ (hv_flP1 ++ (hv_flP2))
set_option maxRecDepth 100000 in
theorem hv_fl_eq : hv_fl = hv_flP.map (fun e => e.1) := rfl
theorem hv_flP0_ok : hv_flP0.all hv_flok = true := by decide +kernel
theorem hv_flP1_ok : hv_flP1.all hv_flok = true := by decide +kernel
theorem hv_flP2_ok : hv_flP2.all hv_flok = true := by decide +kernel
theorem hv_flP_ok : hv_flP.all hv_flok = true := by
  simp only [hv_flP, List.all_append, hv_flP0_ok, hv_flP1_ok, hv_flP2_ok, Bool.and_self]
theorem hv_fl_ok {e : _} (h : e ∈ hv_fl) : ∃ x, (e, x) ∈ hv_flP ∧ hv_flok (e, x) = true := by
  rw [hv_fl_eq] at h
  obtain ⟨⟨e1, x⟩, h1, rfl⟩ := List.mem_map.mp h
  exact ⟨x, h1, List.all_eq_true.mp hv_flP_ok _ h1⟩
def hv_cook (e : (Nat × Int32) × Nat) : Bool := hv_at e.2 (Cond.constant (hv_nm (e.1.1 / 1000)) (e.1.1 % 1000) e.1.2)
def hv_coP0 : List ((Nat × Int32) × Nat) := [((1083, -1000000), 538), ((4055, -1000000), 487), ((5022, -1000000), 635), ((6102, -1000000), 423), ((7094, 1000000), 875), ((7107, -1000000), 834), ((8265, 1431655765), 661), ((8266, 858993459), 662), ((8267, 252645135), 663)]
def hv_coP : List ((Nat × Int32) × Nat) := hv_coP0
set_option maxRecDepth 100000 in
theorem hv_co_eq : hv_co = hv_coP.map (fun e => e.1) := rfl
theorem hv_coP0_ok : hv_coP0.all hv_cook = true := by decide +kernel
theorem hv_coP_ok : hv_coP.all hv_cook = true := by
  simp only [hv_coP, List.all_append, hv_coP0_ok, Bool.and_self]
theorem hv_co_ok {e : _} (h : e ∈ hv_co) : ∃ x, (e, x) ∈ hv_coP ∧ hv_cook (e, x) = true := by
  rw [hv_co_eq] at h
  obtain ⟨⟨e1, x⟩, h1, rfl⟩ := List.mem_map.mp h
  exact ⟨x, h1, List.all_eq_true.mp hv_coP_ok _ h1⟩
def hv_colok (e : (Nat × Int64) × Nat) : Bool := hv_at e.2 (Cond.constantLong (hv_nm (e.1.1 / 1000)) (e.1.1 % 1000) e.1.2)
def hv_colP0 : List ((Nat × Int64) × Nat) := [((6193, -1), 578), ((6271, 10), 657), ((6278, 100), 668), ((6280, 1000), 673), ((6282, 10000), 678), ((6284, 100000), 683), ((7131, -1), 908), ((7133, 10), 909), ((7142, 11), 938), ((7144, 101), 939), ((7146, 1011), 940), ((7148, 10101), 941), ((7150, 100001), 942)]
def hv_colP : List ((Nat × Int64) × Nat) := hv_colP0
set_option maxRecDepth 100000 in
theorem hv_col_eq : hv_col = hv_colP.map (fun e => e.1) := rfl
theorem hv_colP0_ok : hv_colP0.all hv_colok = true := by decide +kernel
theorem hv_colP_ok : hv_colP.all hv_colok = true := by
  simp only [hv_colP, List.all_append, hv_colP0_ok, Bool.and_self]
theorem hv_col_ok {e : _} (h : e ∈ hv_col) : ∃ x, (e, x) ∈ hv_colP ∧ hv_colok (e, x) = true := by
  rw [hv_col_eq] at h
  obtain ⟨⟨e1, x⟩, h1, rfl⟩ := List.mem_map.mp h
  exact ⟨x, h1, List.all_eq_true.mp hv_colP_ok _ h1⟩
def hv_nlok (e : (Nat × Nat) × Nat) : Bool := hv_at e.2 (Cond.classLink (hv_nm (e.1.1 / 1000)) (e.1.1 % 1000) (hv_nm e.1.2)) && decide (e.1.2 < 8)
def hv_nlP0 : List ((Nat × Nat) × Nat) := [((6007, 3), 72), ((6016, 4), 99), ((6026, 0), 148), ((6041, 2), 183), ((6048, 1), 207), ((6055, 5), 251), ((10007, 6), 64), ((10010, 7), 704)]
def hv_nlP : List ((Nat × Nat) × Nat) := hv_nlP0
set_option maxRecDepth 100000 in
theorem hv_nl_eq : hv_nl = hv_nlP.map (fun e => e.1) := rfl
theorem hv_nlP0_ok : hv_nlP0.all hv_nlok = true := by decide +kernel
theorem hv_nlP_ok : hv_nlP.all hv_nlok = true := by
  simp only [hv_nlP, List.all_append, hv_nlP0_ok, Bool.and_self]
theorem hv_nl_ok {e : _} (h : e ∈ hv_nl) : ∃ x, (e, x) ∈ hv_nlP ∧ hv_nlok (e, x) = true := by
  rw [hv_nl_eq] at h
  obtain ⟨⟨e1, x⟩, h1, rfl⟩ := List.mem_map.mp h
  exact ⟨x, h1, List.all_eq_true.mp hv_nlP_ok _ h1⟩
def hv_glok (e : Nat × Nat) : Bool := hv_at e.2 (Cond.classLink (hv_nm (e.1 / 1000)) (e.1 % 1000) "[[I")
def hv_glP0 : List (Nat × Nat) := [(1009, 213), (4015, 105)]
def hv_glP : List (Nat × Nat) := hv_glP0
set_option maxRecDepth 100000 in
theorem hv_gl_eq : hv_gl = hv_glP.map (fun e => e.1) := rfl
theorem hv_glP0_ok : hv_glP0.all hv_glok = true := by decide +kernel
theorem hv_glP_ok : hv_glP.all hv_glok = true := by
  simp only [hv_glP, List.all_append, hv_glP0_ok, Bool.and_self]
theorem hv_gl_ok {e : _} (h : e ∈ hv_gl) : ∃ x, (e, x) ∈ hv_glP ∧ hv_glok (e, x) = true := by
  rw [hv_gl_eq] at h
  obtain ⟨⟨e1, x⟩, h1, rfl⟩ := List.mem_map.mp h
  exact ⟨x, h1, List.all_eq_true.mp hv_glP_ok _ h1⟩
def hv_olok (e : Nat × Nat) : Bool := hv_at e.2 (Cond.methodLink (hv_nm (e.1 / 1000)) (e.1 % 1000) Lib.objectInit)
def hv_olP0 : List (Nat × Nat) := [(5, 153), (1003, 212), (2003, 188), (3003, 77), (4003, 104), (5003, 256), (6001, 69), (7001, 709)]
def hv_olP : List (Nat × Nat) := hv_olP0
set_option maxRecDepth 100000 in
theorem hv_ol_eq : hv_ol = hv_olP.map (fun e => e.1) := rfl
theorem hv_olP0_ok : hv_olP0.all hv_olok = true := by decide +kernel
theorem hv_olP_ok : hv_olP.all hv_olok = true := by
  simp only [hv_olP, List.all_append, hv_olP0_ok, Bool.and_self]
theorem hv_ol_ok {e : _} (h : e ∈ hv_ol) : ∃ x, (e, x) ∈ hv_olP ∧ hv_olok (e, x) = true := by
  rw [hv_ol_eq] at h
  obtain ⟨⟨e1, x⟩, h1, rfl⟩ := List.mem_map.mp h
  exact ⟨x, h1, List.all_eq_true.mp hv_olP_ok _ h1⟩
def hv_alok (e : Nat × Nat) : Bool := hv_at e.2 (Cond.methodLink (hv_nm (e.1 / 1000)) (e.1 % 1000) arraycopyName)
def hv_alP0 : List (Nat × Nat) := [(40, 447), (1102, 551), (2062, 621), (5039, 640), (6258, 565)]
def hv_alP : List (Nat × Nat) := hv_alP0
set_option maxRecDepth 100000 in
theorem hv_al_eq : hv_al = hv_alP.map (fun e => e.1) := rfl
theorem hv_alP0_ok : hv_alP0.all hv_alok = true := by decide +kernel
theorem hv_alP_ok : hv_alP.all hv_alok = true := by
  simp only [hv_alP, List.all_append, hv_alP0_ok, Bool.and_self]
theorem hv_al_ok {e : _} (h : e ∈ hv_al) : ∃ x, (e, x) ∈ hv_alP ∧ hv_alok (e, x) = true := by
  rw [hv_al_eq] at h
  obtain ⟨⟨e1, x⟩, h1, rfl⟩ := List.mem_map.mp h
  exact ⟨x, h1, List.all_eq_true.mp hv_alP_ok _ h1⟩
def hv_slok (e : (Nat × Nat × Nat) × Nat) : Bool := decide (0 < e.1.2.1) && decide (e.1.2.1 < 4) && (if e.1.2.2 = 1 then decide (Cond.fieldLinkNest (hv_nm (e.1.1 / 1000)) (e.1.1 % 1000) RX6 (hv_on e.1.2.1) "[I" RX6 ∈ hv_nw) else hv_at e.2 (.fieldLink (hv_nm (e.1.1 / 1000)) (e.1.1 % 1000) RX6 (hv_on e.1.2.1) "[I"))
def hv_slP0 : List ((Nat × Nat × Nat) × Nat) := [((3074, 1, 1), 0)]
def hv_slP : List ((Nat × Nat × Nat) × Nat) := hv_slP0
set_option maxRecDepth 100000 in
theorem hv_sl_eq : hv_sl = hv_slP.map (fun e => e.1) := rfl
theorem hv_slP0_ok : hv_slP0.all hv_slok = true := by decide +kernel
theorem hv_slP_ok : hv_slP.all hv_slok = true := by
  simp only [hv_slP, List.all_append, hv_slP0_ok, Bool.and_self]
theorem hv_sl_ok {e : _} (h : e ∈ hv_sl) : ∃ x, (e, x) ∈ hv_slP ∧ hv_slok (e, x) = true := by
  rw [hv_sl_eq] at h
  obtain ⟨⟨e1, x⟩, h1, rfl⟩ := List.mem_map.mp h
  exact ⟨x, h1, List.all_eq_true.mp hv_slP_ok _ h1⟩
theorem hv_nw_in : ∀ w ∈ hv_nw, w ∈ lw_tbl := by decide +kernel
theorem hv_nw_on : ∀ w ∈ hv_nw, w.onTables = true := by decide +kernel
def hv_mlok (e : (Nat × MethodName × Nat × Nat) × Nat × Nat × Nat × Nat) : Bool :=
  decide (e.1.2.1.cls ≠ "java/lang/invoke/MethodHandle") && decide (e.1.2.1.cls ≠ "java/lang/invoke/VarHandle") && decide ((parseMethodDescriptor e.1.2.1.desc).map (fun d => d.parameters.length) = some e.1.2.2.1) && hv_at e.2.2.1 (Cond.initialized e.1.2.1.cls) &&
  (if e.1.2.2.2 = 3 then decide (Cond.methodLinkNest (hv_nm (e.1.1 / 1000)) (e.1.1 % 1000) e.1.2.1 RX6 ∈ hv_nw) else hv_at e.2.1 (Cond.methodLink (hv_nm (e.1.1 / 1000)) (e.1.1 % 1000) e.1.2.1)) &&
  (if e.1.2.2.2 = 0 then hv_at e.2.2.2.1 (Cond.static e.1.2.1) else hv_at e.2.2.2.1 (Cond.instanceMethod e.1.2.1)) &&
  (if e.1.2.2.2 = 1 then hv_at e.2.2.2.2 (Cond.selects e.1.2.1.cls e.1.2.1 e.1.2.1) else true) && (if 2 ≤ e.1.2.2.2 then decide (e.1.2.1.name = "<init>") else true)
def hv_mlP0 : List ((Nat × MethodName × Nat × Nat) × Nat × Nat × Nat × Nat) := [((24, yJ7_fill_53178, 2, 0), 377, 61, 378, 0), ((51, yX4_leftOfFamily, 2, 1), 469, 54, 434, 435), ((59, yX0_turnsOf, 1, 1), 470, 55, 425, 426), ((1048, yJ7_fill_53178, 2, 0), 506, 61, 378, 0), ((1057, yX1_firstBest, 3, 1), 507, 57, 509, 10), ((1061, yX1_joyFrom, 4, 1), 511, 57, 513, 11), ((1065, yX4_lastWhoMayBe, 1, 1), 516, 54, 517, 518), ((1069, yX4_joy, 3, 1), 515, 54, 407, 408), ((1073, yX1_findMost, 1, 1), 532, 57, 503, 504), ((1077, yX1_lookAhead, 1, 1), 533, 57, 535, 12), ((1090, yX1_tryFrom, 4, 1), 539, 57, 541, 13), ((1094, yX4_isWinter, 1, 1), 537, 54, 415, 416), ((1098, yX1_mayBeFairer, 3, 1), 543, 57, 545, 14), ((1108, yX1_leastOfLefts, 1, 1), 552, 57, 554, 16), ((1112, yX1_mayAllHave, 3, 1), 547, 57, 549, 15), ((1115, yJ9_min_7cf53, 2, 0), 556, 60, 342, 0), ((2028, yX2_waysWith, 3, 1), 608, 56, 610, 20), ((2032, yX2_waysInAll, 1, 1), 626, 56, 605, 606), ((2041, yJ7_fill_53178, 2, 0), 612, 61, 378, 0), ((2050, yX2_sumOf, 1, 0), 613, 56, 614, 0), ((2054, yX4_lastWhoMayBe, 1, 1), 616, 54, 517, 518), ((2058, yX2_agrees, 3, 1), 617, 56, 619, 21), ((3019, yX4_begin, 0, 1), 326, 54, 327, 328), ((3027, yX3_next, 0, 1), 330, 53, 332, 0), ((3033, yX3_readItem, 2, 1), 344, 53, 346, 2), ((3043, yX3_readYear, 1, 1), 348, 53, 350, 3), ((3050, yX3_readFamily, 1, 1), 359, 53, 361, 5), ((3057, yX3_readWalks, 1, 1), 365, 53, 367, 6), ((3063, yX3_seasonOf, 1, 0), 352, 53, 353, 0), ((3070, yX3_readStop, 0, 1), 355, 53, 357, 4), ((3084, yX3_isDigit, 1, 0), 334, 53, 335, 0), ((3088, yX3_nextNumber, 0, 1), 337, 53, 339, 1), ((3091, yJ9_min_7cf53, 2, 0), 341, 60, 342, 0), ((4034, yX4_isWinter, 1, 1), 414, 54, 415, 416), ((4038, yX4_hasFamily, 1, 1), 410, 54, 411, 412), ((4041, yX4_aheadOf, 2, 0), 403, 54, 404, 0), ((4045, yX4_joy, 3, 1), 406, 54, 407, 408), ((4049, yX4_joyOfTurn, 2, 1), 432, 54, 400, 401), ((4052, yX4_joyOfFamily, 2, 1), 437, 54, 429, 430), ((4056, yX4_leftOfFamily, 2, 1), 488, 54, 434, 435)]
def hv_mlP1 : List ((Nat × MethodName × Nat × Nat) × Nat × Nat × Nat × Nat) := [((4059, yJ9_min_7cf53, 2, 0), 489, 60, 342, 0), ((5032, yX5_tryFrom, 4, 1), 636, 58, 638, 22), ((6009, yX3_init, 0, 3), 0, 53, 75, 0), ((6018, yX4_init, 0, 3), 0, 54, 102, 0), ((6028, yX0_init, 0, 3), 0, 55, 151, 0), ((6043, yX2_init, 0, 3), 0, 56, 186, 0), ((6050, yX1_init, 0, 3), 0, 57, 210, 0), ((6057, yX5_init, 0, 3), 0, 58, 254, 0), ((6070, yX3_add, 1, 1), 310, 53, 311, 312), ((6074, yX3_readInto, 1, 1), 322, 53, 323, 324), ((6078, yX6_beginAnew, 0, 1), 369, 52, 371, 7), ((6081, yX4_hasTurn, 1, 1), 392, 54, 393, 394), ((6091, yX6_orNone, 1, 0), 396, 52, 397, 0), ((6095, yX4_joyOfTurn, 2, 1), 399, 54, 400, 401), ((6099, yX4_hasFamily, 1, 1), 422, 54, 411, 412), ((6107, yX0_turnsOf, 1, 1), 424, 55, 425, 426), ((6110, yX4_joyOfFamily, 2, 1), 428, 54, 429, 430), ((6113, yX4_leftOfFamily, 2, 1), 433, 54, 434, 435), ((6122, yX4_isWinter, 1, 1), 442, 54, 415, 416), ((6125, yX0_remember, 0, 1), 443, 55, 444, 445), ((6128, yX6_exchange, 3, 0), 454, 52, 455, 0), ((6132, yX4_joyOfAll, 1, 1), 457, 54, 458, 459), ((6139, yX0_passYear, 1, 1), 465, 55, 466, 467), ((6145, yX0_recall, 0, 1), 475, 55, 476, 477), ((6151, yX4_leastLeft, 1, 1), 483, 54, 484, 485), ((6154, yX6_familiesWithoutTurn, 0, 1), 490, 52, 492, 8), ((6158, yX6_turnsOfNobody, 0, 1), 494, 52, 496, 9), ((6161, yX1_findMost, 1, 1), 502, 57, 503, 504), ((6165, yX1_mostJoy, 0, 1), 520, 57, 521, 522), ((6174, yX1_findFair, 1, 1), 528, 57, 529, 530), ((6186, yX6_bothWouldRather, 2, 1), 561, 52, 563, 17), ((6190, yX6_joyOfAllBut, 1, 1), 570, 52, 572, 18), ((6195, yX6_hundredthsOfTurn, 2, 1), 579, 52, 581, 19), ((6199, yX6_commonWithHundred, 1, 0), 585, 52, 586, 0), ((6205, yX2_add, 2, 1), 592, 56, 593, 594), ((6208, yX2_waysInAll, 1, 1), 604, 56, 605, 606), ((6211, yX2_sureOf, 2, 1), 622, 56, 623, 624), ((6215, yX5_find, 1, 1), 631, 58, 632, 633), ((6224, yX6_asFamily, 1, 1), 649, 52, 651, 23), ((6227, yX6_asButcher, 1, 1), 653, 52, 655, 24)]
def hv_mlP2 : List ((Nat × MethodName × Nat × Nat) × Nat × Nat × Nat × Nat) := [((6230, yX6_asAunt, 1, 1), 664, 52, 666, 25), ((6233, yX6_asWife, 1, 1), 669, 52, 671, 26), ((6236, yX6_asTwelfth, 1, 1), 674, 52, 676, 27), ((6239, yX6_asChild, 1, 1), 679, 52, 681, 28), ((6242, yX0_become, 1, 1), 688, 55, 689, 690), ((6253, yX0_begin, 0, 1), 373, 55, 374, 375), ((6256, yX1_begin, 0, 1), 380, 57, 381, 382), ((6257, yX5_begin, 0, 1), 384, 58, 385, 386), ((6264, yX4_aheadOf, 2, 0), 583, 54, 404, 0), ((6267, yX4_joy, 3, 1), 584, 54, 407, 408), ((6273, yJ6_bitCount_0f7a4, 1, 0), 658, 63, 659, 0), ((7035, yX7_reads, 0, 1), 710, 59, 712, 29), ((7039, yX7_tells, 0, 1), 744, 59, 746, 36), ((7042, yX7_in, 3, 0), 722, 59, 723, 0), ((7053, yX7_letterAt, 1, 1), 718, 59, 720, 31), ((7060, yX7_isDigit, 1, 0), 725, 59, 726, 0), ((7070, yX7_token, 0, 1), 714, 59, 716, 30), ((7073, yX7_number, 3, 1), 740, 59, 742, 35), ((7076, yX7_readsYear, 0, 1), 732, 59, 734, 33), ((7079, yX7_readsFamily, 0, 1), 736, 59, 738, 34), ((7082, yX7_readsItem, 0, 1), 728, 59, 730, 32), ((7088, yX7_isWinter, 1, 1), 822, 59, 824, 40), ((7091, yX7_joyAt, 1, 1), 818, 59, 820, 39), ((7095, yX7_joyOf, 1, 1), 839, 59, 841, 43), ((7098, yX7_isTurn, 1, 1), 810, 59, 812, 37), ((7101, yX7_isNow, 0, 1), 814, 59, 816, 38), ((7104, yX7_isFamily, 1, 1), 830, 59, 832, 41), ((7108, yX7_turnsOf, 1, 1), 835, 59, 837, 42), ((7111, yX7_keeps, 0, 1), 847, 59, 849, 44), ((7114, yX7_allJoy, 0, 1), 855, 59, 857, 45), ((7118, yX7_leastLeft, 0, 1), 871, 59, 873, 46), ((7121, yX7_codes, 0, 1), 880, 59, 882, 47), ((7124, yX7_isWay, 1, 1), 884, 59, 886, 48), ((7127, yX7_wouldRather, 2, 1), 896, 59, 898, 49), ((7135, yX7_isSo, 0, 1), 922, 59, 924, 50), ((7152, yX7_ones, 1, 0), 943, 59, 944, 0), ((10009, yX6_init, 0, 2), 66, 52, 67, 0), ((10012, yX7_init, 0, 2), 706, 59, 707, 0), ((10013, yX6_type, 1, 1), 306, 52, 307, 308), ((10017, yX7_type, 1, 1), 794, 59, 795, 796)]
def hv_mlP3 : List ((Nat × MethodName × Nat × Nat) × Nat × Nat × Nat × Nat) := [((10018, yX6_clear, 0, 1), 314, 52, 315, 316), ((10022, yX7_clear, 0, 1), 798, 59, 799, 800), ((10023, yX6_grotto, 0, 1), 318, 52, 319, 320), ((10026, yX7_grotto, 0, 1), 802, 59, 803, 804), ((10027, yX6_turn, 2, 1), 388, 52, 389, 390), ((10031, yX7_turn, 2, 1), 806, 59, 807, 808), ((10032, yX6_family, 2, 1), 418, 52, 419, 420), ((10035, yX7_family, 2, 1), 826, 59, 827, 828), ((10036, yX6_gives, 2, 1), 438, 52, 439, 440), ((10039, yX7_gives, 2, 1), 843, 59, 844, 845), ((10040, yX6_swaps, 2, 1), 450, 52, 451, 452), ((10043, yX7_swaps, 2, 1), 851, 59, 852, 853), ((10044, yX6_year, 0, 1), 461, 52, 462, 463), ((10047, yX7_year, 0, 1), 859, 59, 860, 861), ((10048, yX6_undo, 0, 1), 471, 52, 472, 473), ((10051, yX7_undo, 0, 1), 863, 59, 864, 865), ((10052, yX6_now, 1, 1), 479, 52, 480, 481), ((10055, yX7_now, 1, 1), 867, 59, 868, 869), ((10056, yX6_most, 1, 1), 498, 52, 499, 500), ((10059, yX7_most, 1, 1), 876, 59, 877, 878), ((10060, yX6_fair, 1, 1), 524, 52, 525, 526), ((10063, yX7_fair, 1, 1), 888, 59, 889, 890), ((10064, yX6_rather, 1, 1), 557, 52, 558, 559), ((10067, yX7_rather, 1, 1), 892, 59, 893, 894), ((10068, yX6_entry, 3, 1), 566, 52, 567, 568), ((10072, yX7_entry, 3, 1), 900, 59, 901, 902), ((10073, yX6_odds, 2, 1), 574, 52, 575, 576), ((10077, yX7_odds, 2, 1), 904, 59, 905, 906), ((10078, yX6_saw, 2, 1), 588, 52, 589, 590), ((10081, yX7_saw, 2, 1), 910, 59, 911, 912), ((10082, yX6_forget, 0, 1), 596, 52, 597, 598), ((10085, yX7_forget, 0, 1), 914, 59, 915, 916), ((10086, yX6_ways, 1, 1), 600, 52, 601, 602), ((10089, yX7_ways, 1, 1), 918, 59, 919, 920), ((10090, yX6_cheese, 1, 1), 627, 52, 628, 629), ((10093, yX7_cheese, 1, 1), 926, 59, 927, 928), ((10094, yX6_free, 1, 1), 641, 52, 642, 643), ((10097, yX7_free, 1, 1), 930, 59, 931, 932), ((10098, yX6_mark, 2, 1), 645, 52, 646, 647), ((10101, yX7_mark, 2, 1), 934, 59, 935, 936)]
def hv_mlP4 : List ((Nat × MethodName × Nat × Nat) × Nat × Nat × Nat × Nat) := [((10102, yX6_keep, 1, 1), 684, 52, 685, 686), ((10105, yX7_keep, 1, 1), 946, 59, 947, 948), ((10106, yX6_back, 1, 1), 692, 52, 693, 694), ((10109, yX7_back, 1, 1), 950, 59, 951, 952), ((10110, yX6_count, 1, 1), 696, 52, 697, 698), ((10113, yX7_count, 1, 1), 954, 59, 955, 956), ((10114, yX6_trace, 0, 1), 700, 52, 701, 702), ((10118, yX7_trace, 0, 1), 958, 59, 959, 960)]
def hv_mlP : List ((Nat × MethodName × Nat × Nat) × Nat × Nat × Nat × Nat) := hv_mlP0 ++ (hv_mlP1 ++ (hv_mlP2 ++ (hv_mlP3 ++ (hv_mlP4))))
set_option maxRecDepth 100000 in
theorem hv_ml_eq : hv_ml = hv_mlP.map (fun e => e.1) := rfl
theorem hv_mlP0_ok : hv_mlP0.all hv_mlok = true := by decide +kernel
theorem hv_mlP1_ok : hv_mlP1.all hv_mlok = true := by decide +kernel
theorem hv_mlP2_ok : hv_mlP2.all hv_mlok = true := by decide +kernel
theorem hv_mlP3_ok : hv_mlP3.all hv_mlok = true := by decide +kernel
theorem hv_mlP4_ok : hv_mlP4.all hv_mlok = true := by decide +kernel
theorem hv_mlP_ok : hv_mlP.all hv_mlok = true := by
  simp only [hv_mlP, List.all_append, hv_mlP0_ok, hv_mlP1_ok, hv_mlP2_ok, hv_mlP3_ok, hv_mlP4_ok, Bool.and_self]
theorem hv_ml_ok {e : _} (h : e ∈ hv_ml) : ∃ x, (e, x) ∈ hv_mlP ∧ hv_mlok (e, x) = true := by
  rw [hv_ml_eq] at h
  obtain ⟨⟨e1, x⟩, h1, rfl⟩ := List.mem_map.mp h
  exact ⟨x, h1, List.all_eq_true.mp hv_mlP_ok _ h1⟩
def hv_ic : List (Nat × Nat × Nat × List Nat) := [(0, 149, 55, [167, 169, 171, 173, 175, 177, 179]), (1, 208, 57, [228, 230, 232, 234, 236, 238, 240, 242, 244, 246, 248]), (2, 184, 56, [195, 197, 199, 201, 203]), (3, 73, 53, [85, 87, 89, 91, 93, 95]), (4, 100, 54, [135, 137, 139, 141, 143, 145]), (5, 252, 58, [263, 265, 267, 269]), (6, 65, 52, [283, 285, 287, 289, 291, 293, 295, 297, 299, 301, 303]), (7, 705, 59, [763, 765, 767, 769, 771, 773, 775, 777, 779, 781, 783, 785, 787, 789, 791])]
def hv_icok (e : Nat × Nat × Nat × List Nat) : Bool := hv_at e.2.1 (Cond.instantiable (hv_nm e.1) (hv_nf e.1)) && hv_at e.2.2.1 (Cond.initialized (hv_nm e.1)) && (List.range (hv_nf e.1)).all (fun k => hv_at (e.2.2.2.getD k 0) (u_lay (hv_nm e.1) (hv_T e.1) k))
theorem hv_ic_ok : hv_ic.all hv_icok = true := by decide +kernel
theorem hv_ic_in {c : Nat} (hc : c < 8) : ∃ x, (c, x) ∈ hv_ic := by
  match c, hc with
  | 0, _ => exact ⟨_, List.mem_of_getElem? (i := 0) rfl⟩
  | 1, _ => exact ⟨_, List.mem_of_getElem? (i := 1) rfl⟩
  | 2, _ => exact ⟨_, List.mem_of_getElem? (i := 2) rfl⟩
  | 3, _ => exact ⟨_, List.mem_of_getElem? (i := 3) rfl⟩
  | 4, _ => exact ⟨_, List.mem_of_getElem? (i := 4) rfl⟩
  | 5, _ => exact ⟨_, List.mem_of_getElem? (i := 5) rfl⟩
  | 6, _ => exact ⟨_, List.mem_of_getElem? (i := 6) rfl⟩
  | 7, _ => exact ⟨_, List.mem_of_getElem? (i := 7) rfl⟩
  | n + 8, h => exact absurd h (by omega)
theorem hv_ic_at {c : Nat} (hc : c < 8) : Cond.instantiable (hv_nm c) (hv_nf c) ∈ hv_tbl ∧ Cond.initialized (hv_nm c) ∈ hv_tbl ∧ ∀ w ∈ u_ws (hv_nm c) (hv_T c) (hv_nf c), w ∈ hv_tbl := by
  obtain ⟨x, hx⟩ := hv_ic_in hc
  have h := List.all_eq_true.mp hv_ic_ok _ hx
  simp only [hv_icok, Bool.and_eq_true] at h
  refine ⟨hv_at_in h.1.1, hv_at_in h.1.2, fun w hw => ?_⟩
  obtain ⟨k, hk, rfl⟩ := List.mem_map.mp hw
  exact hv_at_in (List.all_eq_true.mp h.2 k hk)
def hv_misc : List (Nat × Cond) := [(98, Cond.arrayClass .int), (206, Cond.arrayClass .boolean), (70, Cond.instanceMethod Lib.objectInit), (449, Cond.native arraycopyName), (448, Cond.static arraycopyName), (62, Cond.initialized "java/lang/System"), (71, Cond.code Lib.objectInit ⟨#[0xb1]⟩ 1 none)]
theorem hv_misc_ok : hv_misc.all (fun e => hv_at e.1 e.2) = true := by decide +kernel
theorem hv_misc_in (k : Nat) {p : Nat} {w : Cond} (h : hv_misc[k]? = some (p, w)) : w ∈ hv_tbl := hv_at_in (List.all_eq_true.mp hv_misc_ok _ (List.mem_of_getElem? h))
theorem hv_lookup {α : Type} {L : List (Nat × α)} {k : Nat} {a : α} (h : L.lookup k = some a) : (k, a) ∈ L := by
  induction L with
  | nil => cases h
  | cons x L ih =>
    obtain ⟨k', a'⟩ := x
    rw [List.lookup_cons] at h
    by_cases e : k = k'
    · subst e
      simp at h
      subst h
      exact List.mem_cons_self
    · have e' : (k == k') = false := by simpa using e
      rw [e'] at h
      exact List.mem_cons_of_mem _ (ih h)
theorem hv_cl_at : ∀ c, c < 8 → hv_cl[c]? = some (hv_nm c, hv_T c, hv_nf c)
  | 0, _ => rfl
  | 1, _ => rfl
  | 2, _ => rfl
  | 3, _ => rfl
  | 4, _ => rfl
  | 5, _ => rfl
  | 6, _ => rfl
  | 7, _ => rfl
  | n + 8, h => absurd h (by omega)
theorem hv_tyok : ∀ c, c < 8 → ∀ k, k < hv_nf c → parseFieldDescriptor (hv_T c k).2.2.1 = some (hv_ty c k)
  | 0, _ => tyX0_ok
  | 1, _ => tyX1_ok
  | 2, _ => tyX2_ok
  | 3, _ => tyX3_ok
  | 4, _ => tyX4_ok
  | 5, _ => tyX5_ok
  | 6, _ => tyX6_ok
  | 7, _ => tyX7_ok
  | n + 8, h => absurd h (by omega)
theorem hv_nmok : ∀ c, c < 8 → ∀ a, a < hv_nf c → ∀ b, b < hv_nf c → a ≠ b → (hv_T c a).2.1 ≠ (hv_T c b).2.1
  | 0, _ => nmX0
  | 1, _ => nmX1
  | 2, _ => nmX2
  | 3, _ => nmX3
  | 4, _ => nmX4
  | 5, _ => nmX5
  | 6, _ => nmX6
  | 7, _ => nmX7
  | n + 8, h => absurd h (by omega)
theorem hv_kx_lt {α : Type} {L : List (Nat × α)} {own x : Nat} {a : α} (h : L.lookup (hv_kx own x) = some a) (hn : L.lookup 999999 = none) : hv_kx own x / 1000 = own ∧ hv_kx own x % 1000 = x := by
  unfold hv_kx at h ⊢
  by_cases hx : x < 1000
  · rw [if_pos hx]
    omega
  · rw [if_neg hx, hn] at h
    cases h
theorem hv_kx_lt2 {L : List Nat} {own x : Nat} (h : L.contains (hv_kx own x) = true) (hn : L.contains 999999 = false) : hv_kx own x / 1000 = own ∧ hv_kx own x % 1000 = x := by
  unfold hv_kx at h ⊢
  by_cases hx : x < 1000
  · rw [if_pos hx]
    omega
  · rw [if_neg hx, hn] at h
    cases h

