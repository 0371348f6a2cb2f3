/-! ===== A plain machine over places: shapes of cells, their contents as functions, one step of an instruction as a function ===== -/
abbrev hv_Ls : Type := List (Option Value)
abbrev hv_Sh : Type := List (Nat × Nat)
abbrev hv_M : Type := (Nat → Nat → Int32) × (Nat → Nat → Int64) × (Nat → Nat → Option Nat)
abbrev hv_S : Type := hv_Sh × Nat × Nat
abbrev hv_C : Type := Nat × hv_Ls × List Value × hv_S × hv_M
abbrev hv_X : Type := Nat × (Nat → Int32)
/-- the first place's address, array classes by kind, classes and slots, the old arrays' addresses, the script -/
abbrev hv_G : Type := Nat × (Nat → ClassId) × va_G × (Nat → Nat) × hv_X
def hv_cl : List vw_C := [(RX0, TX0, 7), (RX1, TX1, 11), (RX2, TX2, 5), (RX3, TX3, 6), (RX4, TX4, 6), (RX5, TX5, 4), (RX6, TX6, 11), (RX7, TX7, 15)]
def hv_nm : Nat → String := fun c => match c with
  | 0 => RX0 | 1 => RX1 | 2 => RX2 | 3 => RX3 | 4 => RX4 | 5 => RX5 | 6 => RX6 | 7 => RX7
  | 8 => RJ6 | 9 => RJ7 | 11 => RJ9 | _ => RL
def hv_T : Nat → u_T := fun c => match c with
  | 0 => TX0 | 1 => TX1 | 2 => TX2 | 3 => TX3 | 4 => TX4 | 5 => TX5 | 6 => TX6 | _ => TX7
def hv_nf : Nat → Nat := fun c => match c with
  | 0 => 7 | 1 => 11 | 2 => 5 | 3 => 6 | 4 => 6 | 5 => 4 | 6 => 11 | _ => 15
def hv_ty : Nat → Nat → FieldType := fun c => match c with
  | 0 => tyX0 | 1 => tyX1 | 2 => tyX2 | 3 => tyX3 | 4 => tyX4 | 5 => tyX5 | 6 => tyX6 | _ => tyX7
def hv_fk : FieldType → Nat
  | .long => 1
  | .array _ => 2
  | .object _ => 2
  | _ => 0
def hv_ad (g : hv_G) (k : Nat) : Nat := g.1 + k
def hv_cv (g : hv_G) : Value → Value
  | .ref k => .ref (hv_ad g k)
  | .retAddr j => .ref (g.2.2.2.1 j)
  | v => v
def hv_fv (g : hv_G) (μ : hv_M) (k c j : Nat) : Value := match hv_fk (hv_ty c j) with
  | 0 => .int (μ.1 k j)
  | 1 => .long (μ.2.1 k j)
  | _ => va_rf ((μ.2.2 k j).map (hv_ad g))
def hv_cell (g : hv_G) (μ : hv_M) (k : Nat) (s : Nat × Nat) : va_E :=
  if s.1 < 8 then .inr (s.1, (List.range (hv_nf s.1)).map (hv_fv g μ k s.1))
  else if s.1 < 12 then .inl (g.2.1 s.1, s.2, .inl (μ.1 k))
  else .inl (g.2.1 s.1, s.2, .inr (.inr (.inr (.inr (fun j => (μ.2.2 k j).map (hv_ad g))))))
def hv_H (g : hv_G) (sh : hv_Sh) (μ : hv_M) (H : Heap) : Prop :=
  H.size = g.1 + sh.length ∧ ∀ (k : Nat) (s : Nat × Nat), sh[k]? = some s → va_at g.2.2.1 hv_cl (g.1 + k, hv_cell g μ k s) H
def hv_oc (xs : hv_X) (j : Nat) : hv_X := match j with
  | 0 => xs
  | _ => (5, fun i => ([20, 20, 30, 3, 63] : List Int32).getD i 0)
def hv_on (_ : Nat) : String := "MOST_OF_NUMBER"
def hv_tys (g : hv_G) : List (ClassId × FieldType) := [(g.2.1 10, .int), (g.2.1 11, .boolean), (g.2.1 12, .array .int), (g.2.1 13, .object RX0)]
/-- the words that ride in every list; a link's key -/
def hv_tbl : List Cond := lw_tbl.filter goodWord
def hv_kx (own x : Nat) : Nat := if x < 1000 then own * 1000 + x else 999999
/-- words that do not ride in a list: links to nest mates -/
def hv_nw : List Cond := [Cond.methodLinkNest RX6 9 yX3_init RX6, Cond.methodLinkNest RX6 18 yX4_init RX6, Cond.methodLinkNest RX6 28 yX0_init RX6, Cond.methodLinkNest RX6 43 yX2_init RX6, Cond.methodLinkNest RX6 50 yX1_init RX6, Cond.methodLinkNest RX6 57 yX5_init RX6, Cond.fieldLinkNest RX3 74 RX6 "MOST_OF_NUMBER" "[I" RX6]
def hv_K (g : hv_G) (U : State) (H : Heap) : Prop :=
  va_K g.2.2.1 hv_cl (hv_tys g) U ∧ (∀ j, j < 4 → va_T .int (g.2.2.2.1 j) (hv_oc g.2.2.2.2 j).1 (fun i => .int ((hv_oc g.2.2.2.2 j).2 i)) (fun q => g.1 ≤ q) U H) ∧ (∀ j, 0 < j → j < 4 → va_Z RX6 (hv_on j) "[I" (.ref (g.2.2.2.1 j)) (fun q => g.1 ≤ q) U H) ∧ (∀ w ∈ hv_nw, va_Nw w U) ∧ va_AO RX0 U ∧ (Cond.arrayOver (.array .int)).before #[] U = true
/-- storing one slot: a long just below it is lost -/
def hv_drop : Option Value → Option Value
  | some (.long _) => none
  | some (.double _) => none
  | x => x
def hv_s1 (ls : hv_Ls) (i : Nat) (v : Value) : hv_Ls := match i with
  | 0 => ls.set 0 (some v)
  | j + 1 => (ls.modify j hv_drop).set (j + 1) (some v)
def hv_s2 (ls : hv_Ls) (i : Nat) (v : Value) : hv_Ls := (hv_s1 ls i v).set (i + 1) none
def hv_kd (S : hv_S) (p : Nat) : Option Nat := (S.1[p]?).map (fun s => s.1)
def hv_ln (S : hv_S) (p k : Nat) : Nat := match S.1[p]? with
  | some s => if s.1 = k then s.2 else 0
  | none => 0
/-- a row of ints, of longs, of references is written anew -/
def hv_rI (μ : hv_M) (k : Nat) (f : Nat → Int32) : hv_M := (fun k' => if k' = k then f else μ.1 k', μ.2.1, μ.2.2)
def hv_uI (μ : hv_M) (k j : Nat) (v : Int32) : hv_M := hv_rI μ k (upd (μ.1 k) j v)
def hv_uL (μ : hv_M) (k j : Nat) (v : Int64) : hv_M := (μ.1, fun k' j' => if k' = k ∧ j' = j then v else μ.2.1 k' j', μ.2.2)
def hv_uP (μ : hv_M) (k j : Nat) (v : Option Nat) : hv_M := (μ.1, μ.2.1, fun k' j' => if k' = k ∧ j' = j then v else μ.2.2 k' j')
/-- all from place k on is blank -/
def hv_zz (μ : hv_M) (k : Nat) : hv_M := (fun k' j => if k' < k then μ.1 k' j else 0, fun k' j => if k' < k then μ.2.1 k' j else 0, fun k' j => if k' < k then μ.2.2 k' j else none)
def hv_ref? : Value → Option (Option Nat)
  | .ref k => some (some k)
  | .null => some none
  | _ => none
/-! ===== the links of the code, by own class times 1000 and the index ===== -/
def hv_fl : List (Nat × Nat × Nat) := [(11, 0, 0), (15, 0, 1), (18, 0, 2), (21, 0, 5), (30, 0, 3), (34, 0, 4), (37, 0, 6), (46, 4, 3), (55, 4, 2), (1011, 1, 0), (1016, 1, 1), (1020, 1, 3), (1023, 1, 7), (1026, 1, 8), (1029, 1, 9), (1032, 1, 10), (1035, 1, 2), (1039, 1, 6), (1042, 4, 1), (1054, 4, 3), (1080, 4, 2), (1084, 1, 4), (1087, 1, 5), (2009, 2, 0), (2015, 2, 1), (2018, 2, 3), (2021, 2, 4), (2024, 2, 2), (2036, 4, 3), (2047, 4, 1), (2068, 4, 2), (3009, 3, 0), (3015, 3, 1), (3024, 3, 2), (3030, 3, 4), (3037, 3, 3), (3040, 3, 5), (3047, 4, 3), (3053, 4, 5), (3060, 4, 1), (3067, 4, 0), (3077, 4, 2), (3081, 4, 4), (4009, 4, 0), (4017, 4, 2), (4020, 4, 1), (4024, 4, 3), (4027, 4, 4), (4030, 4, 5), (5009, 5, 0), (5015, 5, 3), (5018, 5, 2), (5023, 5, 1), (5027, 4, 4), (5036, 4, 3), (5045, 4, 2), (6010, 6, 0), (6019, 6, 1), (6023, 6, 2), (6029, 6, 3), (6033, 6, 4), (6037, 6, 5), (6044, 6, 6), (6051, 6, 7), (6058, 6, 8), (6062, 6, 9), (6066, 3, 1), (6085, 4, 0), (6088, 0, 0), (6103, 4, 2), (6116, 0, 1), (6119, 0, 2), (6136, 0, 4), (6142, 0, 6), (6148, 0, 3), (6168, 1, 1), (6171, 4, 3), (6177, 1, 4), (6180, 1, 3), (6183, 4, 1), (6202, 2, 2), (6218, 5, 1), (6221, 5, 0), (6246, 4, 4), (6249, 6, 10), (7007, 7, 1), (7013, 7, 3), (7016, 7, 4), (7019, 7, 5), (7022, 7, 6), (7025, 7, 7), (7029, 7, 8), (7032, 7, 14), (7046, 7, 2), (7050, 7, 10), (7057, 7, 12), (7064, 7, 11), (7067, 7, 13), (7085, 7, 9), (7138, 7, 0)]
def hv_sl : List (Nat × Nat × Nat) := [(3074, 1, 1)]
def hv_ml : List (Nat × MethodName × Nat × Nat) := [(24, yJ7_fill_53178, 2, 0), (51, yX4_leftOfFamily, 2, 1), (59, yX0_turnsOf, 1, 1), (1048, yJ7_fill_53178, 2, 0), (1057, yX1_firstBest, 3, 1), (1061, yX1_joyFrom, 4, 1), (1065, yX4_lastWhoMayBe, 1, 1), (1069, yX4_joy, 3, 1), (1073, yX1_findMost, 1, 1), (1077, yX1_lookAhead, 1, 1), (1090, yX1_tryFrom, 4, 1), (1094, yX4_isWinter, 1, 1), (1098, yX1_mayBeFairer, 3, 1), (1108, yX1_leastOfLefts, 1, 1), (1112, yX1_mayAllHave, 3, 1), (1115, yJ9_min_7cf53, 2, 0), (2028, yX2_waysWith, 3, 1), (2032, yX2_waysInAll, 1, 1), (2041, yJ7_fill_53178, 2, 0), (2050, yX2_sumOf, 1, 0), (2054, yX4_lastWhoMayBe, 1, 1), (2058, yX2_agrees, 3, 1), (3019, yX4_begin, 0, 1), (3027, yX3_next, 0, 1), (3033, yX3_readItem, 2, 1), (3043, yX3_readYear, 1, 1), (3050, yX3_readFamily, 1, 1), (3057, yX3_readWalks, 1, 1), (3063, yX3_seasonOf, 1, 0), (3070, yX3_readStop, 0, 1), (3084, yX3_isDigit, 1, 0), (3088, yX3_nextNumber, 0, 1), (3091, yJ9_min_7cf53, 2, 0), (4034, yX4_isWinter, 1, 1), (4038, yX4_hasFamily, 1, 1), (4041, yX4_aheadOf, 2, 0), (4045, yX4_joy, 3, 1), (4049, yX4_joyOfTurn, 2, 1), (4052, yX4_joyOfFamily, 2, 1), (4056, yX4_leftOfFamily, 2, 1), (4059, yJ9_min_7cf53, 2, 0), (5032, yX5_tryFrom, 4, 1), (6009, yX3_init, 0, 3), (6018, yX4_init, 0, 3), (6028, yX0_init, 0, 3), (6043, yX2_init, 0, 3), (6050, yX1_init, 0, 3), (6057, yX5_init, 0, 3), (6070, yX3_add, 1, 1), (6074, yX3_readInto, 1, 1), (6078, yX6_beginAnew, 0, 1), (6081, yX4_hasTurn, 1, 1), (6091, yX6_orNone, 1, 0), (6095, yX4_joyOfTurn, 2, 1), (6099, yX4_hasFamily, 1, 1), (6107, yX0_turnsOf, 1, 1), (6110, yX4_joyOfFamily, 2, 1), (6113, yX4_leftOfFamily, 2, 1), (6122, yX4_isWinter, 1, 1), (6125, yX0_remember, 0, 1), (6128, yX6_exchange, 3, 0), (6132, yX4_joyOfAll, 1, 1), (6139, yX0_passYear, 1, 1), (6145, yX0_recall, 0, 1), (6151, yX4_leastLeft, 1, 1), (6154, yX6_familiesWithoutTurn, 0, 1), (6158, yX6_turnsOfNobody, 0, 1), (6161, yX1_findMost, 1, 1), (6165, yX1_mostJoy, 0, 1), (6174, yX1_findFair, 1, 1), (6186, yX6_bothWouldRather, 2, 1), (6190, yX6_joyOfAllBut, 1, 1), (6195, yX6_hundredthsOfTurn, 2, 1), (6199, yX6_commonWithHundred, 1, 0), (6205, yX2_add, 2, 1), (6208, yX2_waysInAll, 1, 1), (6211, yX2_sureOf, 2, 1), (6215, yX5_find, 1, 1), (6224, yX6_asFamily, 1, 1), (6227, yX6_asButcher, 1, 1), (6230, yX6_asAunt, 1, 1), (6233, yX6_asWife, 1, 1), (6236, yX6_asTwelfth, 1, 1), (6239, yX6_asChild, 1, 1), (6242, yX0_become, 1, 1), (6253, yX0_begin, 0, 1), (6256, yX1_begin, 0, 1), (6257, yX5_begin, 0, 1), (6264, yX4_aheadOf, 2, 0), (6267, yX4_joy, 3, 1), (6273, yJ6_bitCount_0f7a4, 1, 0), (7035, yX7_reads, 0, 1), (7039, yX7_tells, 0, 1), (7042, yX7_in, 3, 0), (7053, yX7_letterAt, 1, 1), (7060, yX7_isDigit, 1, 0), (7070, yX7_token, 0, 1), (7073, yX7_number, 3, 1), (7076, yX7_readsYear, 0, 1), (7079, yX7_readsFamily, 0, 1), (7082, yX7_readsItem, 0, 1), (7088, yX7_isWinter, 1, 1), (7091, yX7_joyAt, 1, 1), (7095, yX7_joyOf, 1, 1), (7098, yX7_isTurn, 1, 1), (7101, yX7_isNow, 0, 1), (7104, yX7_isFamily, 1, 1), (7108, yX7_turnsOf, 1, 1), (7111, yX7_keeps, 0, 1), (7114, yX7_allJoy, 0, 1), (7118, yX7_leastLeft, 0, 1), (7121, yX7_codes, 0, 1), (7124, yX7_isWay, 1, 1), (7127, yX7_wouldRather, 2, 1), (7135, yX7_isSo, 0, 1), (7152, yX7_ones, 1, 0), (10009, yX6_init, 0, 2), (10012, yX7_init, 0, 2), (10013, yX6_type, 1, 1), (10017, yX7_type, 1, 1), (10018, yX6_clear, 0, 1), (10022, yX7_clear, 0, 1), (10023, yX6_grotto, 0, 1), (10026, yX7_grotto, 0, 1), (10027, yX6_turn, 2, 1), (10031, yX7_turn, 2, 1), (10032, yX6_family, 2, 1), (10035, yX7_family, 2, 1), (10036, yX6_gives, 2, 1), (10039, yX7_gives, 2, 1), (10040, yX6_swaps, 2, 1), (10043, yX7_swaps, 2, 1), (10044, yX6_year, 0, 1), (10047, yX7_year, 0, 1), (10048, yX6_undo, 0, 1), (10051, yX7_undo, 0, 1), (10052, yX6_now, 1, 1), (10055, yX7_now, 1, 1), (10056, yX6_most, 1, 1), (10059, yX7_most, 1, 1), (10060, yX6_fair, 1, 1), (10063, yX7_fair, 1, 1), (10064, yX6_rather, 1, 1), (10067, yX7_rather, 1, 1), (10068, yX6_entry, 3, 1), (10072, yX7_entry, 3, 1), (10073, yX6_odds, 2, 1), (10077, yX7_odds, 2, 1), (10078, yX6_saw, 2, 1), (10081, yX7_saw, 2, 1), (10082, yX6_forget, 0, 1), (10085, yX7_forget, 0, 1), (10086, yX6_ways, 1, 1), (10089, yX7_ways, 1, 1), (10090, yX6_cheese, 1, 1), (10093, yX7_cheese, 1, 1), (10094, yX6_free, 1, 1), (10097, yX7_free, 1, 1), (10098, yX6_mark, 2, 1), (10101, yX7_mark, 2, 1), (10102, yX6_keep, 1, 1), (10105, yX7_keep, 1, 1), (10106, yX6_back, 1, 1), (10109, yX7_back, 1, 1), (10110, yX6_count, 1, 1), (10113, yX7_count, 1, 1), (10114, yX6_trace, 0, 1), (10118, yX7_trace, 0, 1)]
def hv_ol : List Nat := [5, 1003, 2003, 3003, 4003, 5003, 6001, 7001]
def hv_al : List Nat := [40, 1102, 2062, 5039, 6258]
def hv_co : List (Nat × Int32) := [(1083, -1000000), (4055, -1000000), (5022, -1000000), (6102, -1000000), (7094, 1000000), (7107, -1000000), (8265, 1431655765), (8266, 858993459), (8267, 252645135)]
def hv_col : List (Nat × Int64) := [(6193, -1), (6271, 10), (6278, 100), (6280, 1000), (6282, 10000), (6284, 100000), (7131, -1), (7133, 10), (7142, 11), (7144, 101), (7146, 1011), (7148, 10101), (7150, 100001)]
def hv_nl : List (Nat × Nat) := [(6007, 3), (6016, 4), (6026, 0), (6041, 2), (6048, 1), (6055, 5), (10007, 6), (10010, 7)]
def hv_gl : List Nat := [1009, 4015]
/-! ===== one step ===== -/
def hv_cmp (c : Jvm.ClassFile.Cond) (x y : Int32) : Bool := match c with
  | .eq => decide (x = y)
  | .ne => decide (x ≠ y)
  | .lt => decide (x < y)
  | .ge => decide (y ≤ x)
  | .gt => decide (y < x)
  | .le => decide (x ≤ y)
def hv_ldi (ls : hv_Ls) (k pc : Nat) (st : List Value) : Option (Nat × hv_Ls × List Value) := match ls[k]? with
  | some (some (.int x)) => some (pc, ls, .int x :: st)
  | _ => none
def hv_ldl (ls : hv_Ls) (k pc : Nat) (st : List Value) : Option (Nat × hv_Ls × List Value) := match ls[k]? with
  | some (some (.long x)) => some (pc, ls, .long x :: st)
  | _ => none
def hv_lda (ls : hv_Ls) (k pc : Nat) (st : List Value) : Option (Nat × hv_Ls × List Value) := match ls[k]? with
  | some (some (.ref x)) => some (pc, ls, .ref x :: st)
  | some (some (.retAddr x)) => some (pc, ls, .retAddr x :: st)
  | _ => none
def hv_sti (ls : hv_Ls) (k pc : Nat) (st : List Value) : Option (Nat × hv_Ls × List Value) := match st with
  | .int x :: r => if k < ls.length then some (pc, hv_s1 ls k (.int x), r) else none
  | _ => none
def hv_stl (ls : hv_Ls) (k pc : Nat) (st : List Value) : Option (Nat × hv_Ls × List Value) := match st with
  | .long x :: r => if k + 1 < ls.length then some (pc, hv_s2 ls k (.long x), r) else none
  | _ => none
def hv_sta (ls : hv_Ls) (k pc : Nat) (st : List Value) : Option (Nat × hv_Ls × List Value) := match st with
  | .ref x :: r => if k < ls.length then some (pc, hv_s1 ls k (.ref x), r) else none
  | _ => none
def hv_b2 (f : Int32 → Int32 → Int32) (ls : hv_Ls) (pc : Nat) (st : List Value) : Option (Nat × hv_Ls × List Value) := match st with
  | .int y :: .int x :: r => some (pc, ls, .int (f x y) :: r)
  | _ => none
def hv_d2 (f : Int32 → Int32 → Int32) (ls : hv_Ls) (pc : Nat) (st : List Value) : Option (Nat × hv_Ls × List Value) := match st with
  | .int y :: .int x :: r => if y = 0 then none else some (pc, ls, .int (f x y) :: r)
  | _ => none
def hv_l2 (f : Int64 → Int64 → Int64) (ls : hv_Ls) (pc : Nat) (st : List Value) : Option (Nat × hv_Ls × List Value) := match st with
  | .long y :: .long x :: r => some (pc, ls, .long (f x y) :: r)
  | _ => none
def hv_ld2 (f : Int64 → Int64 → Int64) (ls : hv_Ls) (pc : Nat) (st : List Value) : Option (Nat × hv_Ls × List Value) := match st with
  | .long y :: .long x :: r => if y = 0 then none else some (pc, ls, .long (f x y) :: r)
  | _ => none
def hv_jmp (pc : Nat) (off : Int) (ls : hv_Ls) (st : List Value) : Option (Nat × hv_Ls × List Value) :=
  if 0 ≤ (pc : Int) + off then some (((pc : Int) + off).toNat, ls, st) else none
/-- constants, locals, stack, arithmetic, branches -/
def hv_sA (i : Instr) (pc : Nat) (ls : hv_Ls) (st : List Value) : Option (Nat × hv_Ls × List Value) := match i with
  | .iconst n => some (pc + 1, ls, .int (Int32.ofInt n) :: st)
  | .bipush n => some (pc + 2, ls, .int (Int8.ofInt n).toInt32 :: st)
  | .sipush n => some (pc + 3, ls, .int (Int16.ofInt n).toInt32 :: st)
  | .lconst n => some (pc + 1, ls, .long (Int64.ofNat (n : Nat)) :: st)
  | .iload_n k => hv_ldi ls k (pc + 1) st
  | .iload k => hv_ldi ls k (pc + 2) st
  | .lload_n k => hv_ldl ls k (pc + 1) st
  | .lload k => hv_ldl ls k (pc + 2) st
  | .aload_n k => hv_lda ls k (pc + 1) st
  | .istore_n k => hv_sti ls k (pc + 1) st
  | .istore k => hv_sti ls k (pc + 2) st
  | .lstore_n k => hv_stl ls k (pc + 1) st
  | .lstore k => hv_stl ls k (pc + 2) st
  | .astore_n k => hv_sta ls k (pc + 1) st
  | .iinc k n => match ls[k]? with
    | some (some (.int x)) => some (pc + 3, hv_s1 ls k (.int (x + Int32.ofInt n)), st)
    | _ => none
  | .iadd => hv_b2 (fun x y => x + y) ls (pc + 1) st
  | .isub => hv_b2 (fun x y => x - y) ls (pc + 1) st
  | .imul => hv_b2 (fun x y => x * y) ls (pc + 1) st
  | .iand => hv_b2 (fun x y => x &&& y) ls (pc + 1) st
  | .ior => hv_b2 (fun x y => x ||| y) ls (pc + 1) st
  | .ixor => hv_b2 (fun x y => x ^^^ y) ls (pc + 1) st
  | .ishl => hv_b2 (fun x y => x <<< (y &&& 31)) ls (pc + 1) st
  | .ishr => hv_b2 (fun x y => x >>> (y &&& 31)) ls (pc + 1) st
  | .iushr => hv_b2 (fun x y => (x.toUInt32 >>> (y.toUInt32 &&& Int32.toUInt32 31)).toInt32) ls (pc + 1) st
  | .idiv => hv_d2 (fun x y => x / y) ls (pc + 1) st
  | .irem => hv_d2 (fun x y => x - x / y * y) ls (pc + 1) st
  | .ineg => match st with
    | .int x :: r => some (pc + 1, ls, .int (-x) :: r)
    | _ => none
  | .ladd => hv_l2 (fun x y => x + y) ls (pc + 1) st
  | .lmul => hv_l2 (fun x y => x * y) ls (pc + 1) st
  | .ldiv => hv_ld2 (fun x y => x / y) ls (pc + 1) st
  | .lrem => hv_ld2 (fun x y => x - x / y * y) ls (pc + 1) st
  | .lcmp => match st with
    | .long y :: .long x :: r => some (pc + 1, ls, .int (lg_cmp x y) :: r)
    | _ => none
  | .i2l => match st with
    | .int x :: r => some (pc + 1, ls, .long x.toInt64 :: r)
    | _ => none
  | .dup => match st with
    | v :: r => if v.category = 1 then some (pc + 1, ls, v :: v :: r) else none
    | _ => none
  | .pop => match st with
    | v :: r => if v.category = 1 then some (pc + 1, ls, r) else none
    | _ => none
  | .dup2 => match st with
    | v :: w :: r => if v.category = 1 ∧ w.category = 1 then some (pc + 1, ls, v :: w :: v :: w :: r) else none
    | _ => none
  | .goto off => hv_jmp pc off ls st
  | .ifCond c off => match st with
    | .int x :: r => if 0 ≤ (pc : Int) + off then (if hv_cmp c x 0 then hv_jmp pc off ls r else some (pc + 3, ls, r)) else none
    | _ => none
  | .if_icmp c off => match st with
    | .int y :: .int x :: r => if 0 ≤ (pc : Int) + off then (if hv_cmp c x y then hv_jmp pc off ls r else some (pc + 3, ls, r)) else none
    | _ => none
  | .tableswitch dflt lo hi offs => match st with
    | .int x :: r => if x.toInt < lo ∨ hi < x.toInt then hv_jmp pc dflt ls r else match offs[(x.toInt - lo).toNat]? with
      | some off => hv_jmp pc off ls r
      | none => none
    | _ => none
  | .lookupswitch dflt ps => match st with
    | .int x :: r => if (ps.toList.zip (ps.toList.drop 1)).all (fun (a, next) => a.1 < next.1) = true then hv_jmp pc (Op.lookupswitch.offset ps.toList dflt x.toInt) ls r else none
    | _ => none
  | _ => none
/-- what of it fits a field: its kind, booleans 0 or 1 -/
def hv_putv (μ : hv_M) (p c j : Nat) (v : Value) : Option hv_M := match hv_ty c j, v with
  | .int, .int x => some (hv_uI μ p j x)
  | .boolean, .int x => if x = 0 ∨ x = 1 then some (hv_uI μ p j x) else none
  | .long, .long x => some (hv_uL μ p j x)
  | .array _, .ref x => some (hv_uP μ p j (some x))
  | .object _, .ref x => some (hv_uP μ p j (some x))
  | _, _ => none
def hv_fv0 (μ : hv_M) (k c j : Nat) : Value := match hv_fk (hv_ty c j) with
  | 0 => .int (μ.1 k j)
  | 1 => .long (μ.2.1 k j)
  | _ => va_rf (μ.2.2 k j)
def hv_ix (i : Int32) (n : Nat) : Bool := !(decide (i < 0) || decide (n ≤ i.toNatClampNeg))
/-- memory: fields, arrays, statics, constants, new cells; Object's constructor; arraycopy -/
def hv_sM (own : Nat) (xs : hv_X) (rt D MC MS : Nat) (i : Instr) (pc : Nat) (ls : hv_Ls) (st : List Value) (S : hv_S) (μ : hv_M) : Option hv_C := match i with
  | .getfield x => match st, hv_fl.lookup (hv_kx own x) with
    | .ref p :: r, some (c, j) => if hv_kd S p = some c then some (pc + 3, ls, hv_fv0 μ p c j :: r, S, μ) else none
    | _, _ => none
  | .putfield x => match st, hv_fl.lookup (hv_kx own x) with
    | v :: .ref p :: r, some (c, j) => if hv_kd S p = some c ∧ ((hv_T c j).2.2.2 = true → rt = 4 ∧ own = c) then (hv_putv μ p c j v).map (fun μ' => (pc + 3, ls, r, S, μ')) else none
    | _, _ => none
  | .iaload => match st with
    | .int i :: .ref p :: r => if hv_ix i (hv_ln S p 10) then some (pc + 1, ls, .int (μ.1 p i.toNatClampNeg) :: r, S, μ) else none
    | .int i :: .retAddr j :: r => if j < 4 ∧ hv_ix i (hv_oc xs j).1 then some (pc + 1, ls, .int ((hv_oc xs j).2 i.toNatClampNeg) :: r, S, μ) else none
    | _ => none
  | .baload => match st with
    | .int i :: .ref p :: r => if hv_ix i (hv_ln S p 11) then some (pc + 1, ls, .int (μ.1 p i.toNatClampNeg) :: r, S, μ) else none
    | _ => none
  | .aaload => match st with
    | .int i :: .ref p :: r => if hv_ix i (hv_ln S p 12) ∨ hv_ix i (hv_ln S p 13) then some (pc + 1, ls, va_rf (μ.2.2 p i.toNatClampNeg) :: r, S, μ) else none
    | _ => none
  | .arraylength => match st with
    | .ref p :: r => if hv_kd S p = some 10 ∨ hv_kd S p = some 11 then some (pc + 1, ls, .int (Int32.ofNat (hv_ln S p 10 + hv_ln S p 11)) :: r, S, μ) else none
    | .retAddr j :: r => if j < 4 then some (pc + 1, ls, .int (Int32.ofNat (hv_oc xs j).1) :: r, S, μ) else none
    | _ => none
  | .iastore => match st with
    | .int v :: .int i :: .ref p :: r => if hv_ix i (hv_ln S p 10) then some (pc + 1, ls, r, S, hv_uI μ p i.toNatClampNeg v) else none
    | _ => none
  | .bastore => match st with
    | .int v :: .int i :: .ref p :: r => if hv_ix i (hv_ln S p 11) ∧ (v = 0 ∨ v = 1) then some (pc + 1, ls, r, S, hv_uI μ p i.toNatClampNeg v) else none
    | _ => none
  | .aastore => match st with
    | .ref v :: .int i :: .ref p :: r => if hv_ix i (hv_ln S p 13) ∧ hv_kd S v = some 0 then some (pc + 1, ls, r, S, hv_uP μ p i.toNatClampNeg (some v)) else none
    | _ => none
  | .getstatic x => match hv_sl.lookup (hv_kx own x) with
    | some (j, _) => some (pc + 3, ls, .retAddr j :: st, S, μ)
    | none => none
  | .ldc x => (hv_co.lookup (hv_kx own x)).map (fun v => (pc + 2, ls, .int v :: st, S, μ))
  | .ldc_w x => (hv_co.lookup (hv_kx own x)).map (fun v => (pc + 3, ls, .int v :: st, S, μ))
  | .ldc2_w x => (hv_col.lookup (hv_kx own x)).map (fun v => (pc + 3, ls, .long v :: st, S, μ))
  | .new x => match hv_nl.lookup (hv_kx own x) with
    | some c => if S.2.1 + 1 ≤ MC ∧ S.2.2 + hv_nf c ≤ MS then some (pc + 3, ls, .ref S.1.length :: st, (S.1 ++ [(c, 0)], S.2.1 + 1, S.2.2 + hv_nf c), hv_zz μ S.1.length) else none
    | none => none
  | .newarray t => match st, t with
    | .int n :: r, .int => if ¬ n < 0 ∧ n.toNatClampNeg ≤ 10000 ∧ S.2.1 + 1 ≤ MC ∧ S.2.2 + n.toNatClampNeg ≤ MS then some (pc + 2, ls, .ref S.1.length :: r, (S.1 ++ [(10, n.toNatClampNeg)], S.2.1 + 1, S.2.2 + n.toNatClampNeg), hv_zz μ S.1.length) else none
    | .int n :: r, .boolean => if ¬ n < 0 ∧ n.toNatClampNeg ≤ 10000 ∧ S.2.1 + 1 ≤ MC ∧ S.2.2 + n.toNatClampNeg ≤ MS then some (pc + 2, ls, .ref S.1.length :: r, (S.1 ++ [(11, n.toNatClampNeg)], S.2.1 + 1, S.2.2 + n.toNatClampNeg), hv_zz μ S.1.length) else none
    | _, _ => none
  | .anewarray x => match st, hv_nl.lookup (hv_kx own x) with
    | .int n :: r, some 0 => if ¬ n < 0 ∧ n.toNatClampNeg ≤ 10000 ∧ S.2.1 + 1 ≤ MC ∧ S.2.2 + n.toNatClampNeg ≤ MS then some (pc + 3, ls, .ref S.1.length :: r, (S.1 ++ [(13, n.toNatClampNeg)], S.2.1 + 1, S.2.2 + n.toNatClampNeg), hv_zz μ S.1.length) else none
    | _, _ => none
  | .multianewarray x dm => match st with
    | .int k :: .int n :: r => if dm = 2 ∧ hv_gl.contains (hv_kx own x) = true ∧ ¬ n < 0 ∧ ¬ k < 0 ∧ n.toNatClampNeg ≤ 10000 ∧ k.toNatClampNeg ≤ 10000 ∧ S.2.1 + (1 + n.toNatClampNeg) ≤ MC ∧ S.2.2 + (n.toNatClampNeg + n.toNatClampNeg * k.toNatClampNeg) ≤ MS then some (pc + 4, ls, .ref S.1.length :: r, (S.1 ++ (12, n.toNatClampNeg) :: List.replicate n.toNatClampNeg (10, k.toNatClampNeg), S.2.1 + 1 + n.toNatClampNeg, S.2.2 + n.toNatClampNeg + n.toNatClampNeg * k.toNatClampNeg), ((hv_zz μ S.1.length).1, (hv_zz μ S.1.length).2.1, fun k' j => if k' < S.1.length then μ.2.2 k' j else if k' = S.1.length ∧ j < n.toNatClampNeg then some (S.1.length + 1 + j) else none)) else none
    | _ => none
  | .invokespecial x => match st with
    | .ref p :: r => if hv_ol.contains (hv_kx own x) = true ∧ 1 ≤ D ∧ (r.map fun v => v.category).sum ≤ 8 then some (pc + 3, ls, r, S, μ) else none
    | _ => none
  | .invokestatic x => match st with
    | .int n :: .int dp :: .ref b :: .int sp :: .ref a :: r => if hv_al.contains (hv_kx own x) = true ∧ 1 ≤ D ∧ (r.map fun v => v.category).sum ≤ 8 ∧ hv_kd S a = some 10 ∧ hv_kd S b = some 10 ∧ ¬ sp < 0 ∧ ¬ dp < 0 ∧ ¬ n < 0 ∧ sp.toNatClampNeg + n.toNatClampNeg ≤ hv_ln S a 10 ∧ dp.toNatClampNeg + n.toNatClampNeg ≤ hv_ln S b 10 then some (pc + 3, ls, r, S, hv_rI μ b (va_cpy (μ.1 a) (μ.1 b) sp.toNatClampNeg dp.toNatClampNeg n.toNatClampNeg)) else none
    | _ => none
  | _ => none
def hv_step (own : Nat) (xs : hv_X) (rt D MC MS : Nat) (i : Instr) (pc : Nat) (ls : hv_Ls) (st : List Value) (S : hv_S) (μ : hv_M) : Option hv_C := match hv_sA i pc ls st with
  | some q => some (q.1, q.2.1, q.2.2, S, μ)
  | none => hv_sM own xs rt D MC MS i pc ls st S μ
/-- the answer of a return: 0 void, 1 int, 2 long, 3 boolean, 4 a constructor -/
def hv_ret (rt : Nat) (i : Instr) (st : List Value) : Option (Option Value) := match i, st with
  | .ireturn, [.int v] => if rt = 1 ∨ (rt = 3 ∧ (v = 0 ∨ v = 1)) then some (some (.int v)) else none
  | .lreturn, [.long v] => if rt = 2 then some (some (.long v)) else none
  | .return_, [] => if rt = 0 ∨ rt = 4 then some none else none
  | _, _ => none
/-- which instruction calls by which kind of link -/
def hv_inv (i : Instr) : Option (Nat × Nat) := match i with
  | .invokestatic x => some (x, 0)
  | .invokevirtual x => some (x, 1)
  | .invokespecial x => some (x, 2)
  | _ => none
/-! ===== contracts ===== -/
def hv_rm (d mc ms : Nat) : Room := { frames := d, cells := mc, slots := ms, locals := 40 * d }
def hv_Pc (g : hv_G) (av : List Value) (sh : hv_Sh) (μ : hv_M) : Array Value → State → Prop := va_Pc (av.map (hv_cv g)) (fun U => hv_H g sh μ U.heap ∧ hv_K g U U.heap)
abbrev hv_Po : Type := Option Value → hv_Sh → hv_M → Prop
def hv_Qc (g : hv_G) (post : hv_Po) : Array Value → State → Outcome → State → Prop := fun _ st o t => ∃ (r : Option Value) (sh : hv_Sh) (μ : hv_M), o = .returned (r.map (hv_cv g)) ∧ post r sh μ ∧ hv_H g sh μ t.heap ∧ st.heap.size ≤ t.heap.size ∧ ∀ q : Nat, q < st.heap.size → ¬ g.1 ≤ q → t.heap[q]? = st.heap[q]?
def hv_Does (xs : hv_X) (d mc ms : Nat) (y : MethodName) (av : List Value) (sh : hv_Sh) (μ : hv_M) (post : hv_Po) : Prop :=
  ∃ (bytes : ByteArray) (maxL : Nat) (ret : Option FieldType), maxL ≤ 20 ∧ Cond.code y bytes maxL ret ∈ hv_tbl ∧ (y.name = "<init>" → ret = none) ∧
    ∀ (l : Launch) (g : hv_G), g.2.2.2.2 = xs → Met l y (Cond.code y bytes maxL ret :: hv_tbl) (hv_rm d mc ms) (hv_Pc g av sh μ) (hv_Qc g post) mc ms (fun q => g.1 ≤ q)
def hv_call (own : Nat) (xs : hv_X) (D MC MS : Nat) (i : Instr) (pc : Nat) (ls : hv_Ls) (st : List Value) (S : hv_S) (μ : hv_M) (X : hv_C → Prop) : Prop :=
  ∃ (x k0 : Nat) (y : MethodName) (n kd : Nat) (av rest : List Value) (d mc ms : Nat) (post : hv_Po), hv_inv i = some (x, k0) ∧ hv_ml.lookup (hv_kx own x) = some (y, n, kd) ∧ min kd 2 = k0 ∧ st = av.reverse ++ rest ∧ av.length = n + min kd 1 ∧ (rest.map fun v => v.category).sum ≤ 8 ∧
    (kd ≠ 0 → ∃ (p : Nat) (As : List Value), av = .ref p :: As ∧ (kd = 1 → ∃ c, c < 8 ∧ hv_kd S p = some c ∧ hv_nm c = y.cls)) ∧
    hv_Does xs d mc ms y av S.1 μ post ∧ d + 1 ≤ D ∧ S.2.1 + mc ≤ MC ∧ S.2.2 + ms ≤ MS ∧ ∀ (r : Option Value) (sh' : hv_Sh) (μ' : hv_M), post r sh' μ' → X (pc + 3, ls, r.toList ++ rest, (sh', S.2.1 + mc, S.2.2 + ms), μ')
abbrev hv_Q : Type := Option Value → hv_S → hv_M → Prop
/-- the length that an instruction has -/
def hv_lo (i : Instr) (len : Nat) : Bool := match i with
  | .bipush _ => len == 2 | .iload _ => len == 2 | .istore _ => len == 2 | .lload _ => len == 2 | .lstore _ => len == 2 | .newarray _ => len == 2 | .ldc _ => len == 2
  | .sipush _ => len == 3 | .iinc .. => len == 3 | .goto _ => len == 3 | .ifCond .. => len == 3 | .if_icmp .. => len == 3 | .getfield _ => len == 3 | .putfield _ => len == 3 | .getstatic _ => len == 3
  | .ldc_w _ => len == 3 | .ldc2_w _ => len == 3 | .new _ => len == 3 | .anewarray _ => len == 3 | .invokespecial _ => len == 3 | .invokestatic _ => len == 3 | .invokevirtual _ => len == 3
  | .multianewarray .. => len == 4 | .tableswitch .. => true | .lookupswitch .. => true
  | _ => len == 1
def hv_next (own : Nat) (xs : hv_X) (cc : ByteArray) (rt D MC MS : Nat) (Q : hv_Q) (X : hv_C → Prop) (q : hv_C) : Prop :=
  ∃ (i : Instr) (len : Nat), decode cc q.1 = .ok (i, len) ∧ hv_lo i len = true ∧ ((∃ q', hv_step own xs rt D MC MS i q.1 q.2.1 q.2.2.1 q.2.2.2.1 q.2.2.2.2 = some q' ∧ X q') ∨ hv_call own xs D MC MS i q.1 q.2.1 q.2.2.1 q.2.2.2.1 q.2.2.2.2 X ∨ ∃ r, hv_ret rt i q.2.2.1 = some r ∧ Q r q.2.2.2.1 q.2.2.2.2)
/-- the run from here comes to its end, and there Q -/
def hv_R (own : Nat) (xs : hv_X) (cc : ByteArray) (rt D MC MS : Nat) (Q : hv_Q) (q : hv_C) : Prop := ∀ X : hv_C → Prop, (∀ q', hv_next own xs cc rt D MC MS Q X q' → X q') → X q
