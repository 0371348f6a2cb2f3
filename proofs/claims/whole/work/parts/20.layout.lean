/-! ===== where all cells lie behind the two constructors ===== -/
def hv_SH : hv_Sh := [(6, 0), (3, 0), (10, 150), (4, 0), (10, 6), (12, 5), (10, 5), (10, 5), (10, 5), (10, 5), (10, 5), (4, 0), (10, 6), (12, 5), (10, 5), (10, 5), (10, 5), (10, 5), (10, 5), (0, 0), (10, 6), (10, 5), (10, 5), (10, 180), (13, 2), (0, 0), (10, 6), (10, 5), (10, 5), (10, 180), (0, 0), (10, 6), (10, 5), (10, 5), (10, 180), (11, 2), (2, 0), (10, 6), (10, 6), (10, 6), (10, 6), (1, 0), (12, 7), (10, 6), (10, 6), (10, 6), (10, 6), (10, 6), (10, 6), (10, 6), (10, 6), (10, 6), (10, 6), (10, 5), (10, 7), (12, 7), (10, 5), (10, 5), (10, 5), (10, 5), (10, 5), (10, 5), (10, 5), (5, 0), (10, 5), (10, 5), (10, 6), (7, 0), (10, 150), (10, 36), (10, 36), (10, 199), (10, 398), (11, 2), (10, 6), (10, 6)]
abbrev hS : hv_S := (hv_SH, 0, 0)
def hv_PP (τ : Bool) (k j : Nat) : Option Nat := match k with
  | 0 => (match j with | 1 => some (bif τ then 11 else 3) | 2 => some (bif τ then 3 else 11) | 0 => some 1 | 3 => some 19 | 4 => some 24 | 5 => some 35 | 6 => some 36 | 7 => some 41 | 8 => some 63 | 9 => some 66 | _ => none)
  | 1 => (match j with | 0 => some 2 | _ => none)
  | 3 => (match j with | 0 => some 4 | 2 => some 5 | _ => none)
  | 5 => if j < 5 then some (6 + j) else none
  | 11 => (match j with | 0 => some 12 | 2 => some 13 | _ => none)
  | 13 => if j < 5 then some (14 + j) else none
  | 19 => (match j with | 0 => some 20 | 1 => some 21 | 2 => some 22 | 5 => some 23 | _ => none)
  | 24 => (match j with | 0 => some 25 | 1 => some 30 | _ => none)
  | 25 => (match j with | 0 => some 26 | 1 => some 27 | 2 => some 28 | 5 => some 29 | _ => none)
  | 30 => (match j with | 0 => some 31 | 1 => some 32 | 2 => some 33 | 5 => some 34 | _ => none)
  | 36 => (match j with | 0 => some 37 | 1 => some 38 | 3 => some 39 | 4 => some 40 | _ => none)
  | 41 => (match j with | 0 => some 42 | 1 => some 50 | 3 => some 51 | 7 => some 52 | 8 => some 53 | 9 => some 54 | 10 => some 55 | _ => none)
  | 42 => if j < 7 then some (43 + j) else none
  | 55 => if j < 7 then some (56 + j) else none
  | 63 => (match j with | 0 => some 64 | 3 => some 65 | _ => none)
  | 67 => (match j with | 1 => some 68 | 3 => some 69 | 4 => some 70 | 5 => some 71 | 6 => some 72 | 7 => some 73 | 8 => some 74 | 14 => some 75 | _ => none)
  | _ => none
theorem kd0 : hv_kd hS 0 = some 6 := rfl
theorem kd1 : hv_kd hS 1 = some 3 := rfl
theorem kd2 : hv_kd hS 2 = some 10 := rfl
theorem ln2 : hv_ln hS 2 10 = 150 := rfl
theorem kd3 : hv_kd hS 3 = some 4 := rfl
theorem kd4 : hv_kd hS 4 = some 10 := rfl
theorem ln4 : hv_ln hS 4 10 = 6 := rfl
theorem kd5 : hv_kd hS 5 = some 12 := rfl
theorem ln5 : hv_ln hS 5 12 = 5 := rfl
theorem ln5_13 : hv_ln hS 5 13 = 0 := rfl
theorem kd6 : hv_kd hS 6 = some 10 := rfl
theorem ln6 : hv_ln hS 6 10 = 5 := rfl
theorem kd7 : hv_kd hS 7 = some 10 := rfl
theorem ln7 : hv_ln hS 7 10 = 5 := rfl
theorem kd8 : hv_kd hS 8 = some 10 := rfl
theorem ln8 : hv_ln hS 8 10 = 5 := rfl
theorem kd9 : hv_kd hS 9 = some 10 := rfl
theorem ln9 : hv_ln hS 9 10 = 5 := rfl
theorem kd10 : hv_kd hS 10 = some 10 := rfl
theorem ln10 : hv_ln hS 10 10 = 5 := rfl
theorem kd11 : hv_kd hS 11 = some 4 := rfl
theorem kd12 : hv_kd hS 12 = some 10 := rfl
theorem ln12 : hv_ln hS 12 10 = 6 := rfl
theorem kd13 : hv_kd hS 13 = some 12 := rfl
theorem ln13 : hv_ln hS 13 12 = 5 := rfl
theorem ln13_13 : hv_ln hS 13 13 = 0 := rfl
theorem kd14 : hv_kd hS 14 = some 10 := rfl
theorem ln14 : hv_ln hS 14 10 = 5 := rfl
theorem kd15 : hv_kd hS 15 = some 10 := rfl
theorem ln15 : hv_ln hS 15 10 = 5 := rfl
theorem kd16 : hv_kd hS 16 = some 10 := rfl
theorem ln16 : hv_ln hS 16 10 = 5 := rfl
theorem kd17 : hv_kd hS 17 = some 10 := rfl
theorem ln17 : hv_ln hS 17 10 = 5 := rfl
theorem kd18 : hv_kd hS 18 = some 10 := rfl
theorem ln18 : hv_ln hS 18 10 = 5 := rfl
theorem kd19 : hv_kd hS 19 = some 0 := rfl
theorem kd20 : hv_kd hS 20 = some 10 := rfl
theorem ln20 : hv_ln hS 20 10 = 6 := rfl
theorem kd21 : hv_kd hS 21 = some 10 := rfl
theorem ln21 : hv_ln hS 21 10 = 5 := rfl
theorem kd22 : hv_kd hS 22 = some 10 := rfl
theorem ln22 : hv_ln hS 22 10 = 5 := rfl
theorem kd23 : hv_kd hS 23 = some 10 := rfl
theorem ln23 : hv_ln hS 23 10 = 180 := rfl
theorem kd24 : hv_kd hS 24 = some 13 := rfl
theorem ln24 : hv_ln hS 24 13 = 2 := rfl
theorem ln24_12 : hv_ln hS 24 12 = 0 := rfl
theorem kd25 : hv_kd hS 25 = some 0 := rfl
theorem kd26 : hv_kd hS 26 = some 10 := rfl
theorem ln26 : hv_ln hS 26 10 = 6 := rfl
theorem kd27 : hv_kd hS 27 = some 10 := rfl
theorem ln27 : hv_ln hS 27 10 = 5 := rfl
theorem kd28 : hv_kd hS 28 = some 10 := rfl
theorem ln28 : hv_ln hS 28 10 = 5 := rfl
theorem kd29 : hv_kd hS 29 = some 10 := rfl
theorem ln29 : hv_ln hS 29 10 = 180 := rfl
theorem kd30 : hv_kd hS 30 = some 0 := rfl
theorem kd31 : hv_kd hS 31 = some 10 := rfl
theorem ln31 : hv_ln hS 31 10 = 6 := rfl
theorem kd32 : hv_kd hS 32 = some 10 := rfl
theorem ln32 : hv_ln hS 32 10 = 5 := rfl
theorem kd33 : hv_kd hS 33 = some 10 := rfl
theorem ln33 : hv_ln hS 33 10 = 5 := rfl
theorem kd34 : hv_kd hS 34 = some 10 := rfl
theorem ln34 : hv_ln hS 34 10 = 180 := rfl
theorem kd35 : hv_kd hS 35 = some 11 := rfl
theorem ln35 : hv_ln hS 35 11 = 2 := rfl
theorem kd36 : hv_kd hS 36 = some 2 := rfl
theorem kd37 : hv_kd hS 37 = some 10 := rfl
theorem ln37 : hv_ln hS 37 10 = 6 := rfl
theorem kd38 : hv_kd hS 38 = some 10 := rfl
theorem ln38 : hv_ln hS 38 10 = 6 := rfl
theorem kd39 : hv_kd hS 39 = some 10 := rfl
theorem ln39 : hv_ln hS 39 10 = 6 := rfl
theorem kd40 : hv_kd hS 40 = some 10 := rfl
theorem ln40 : hv_ln hS 40 10 = 6 := rfl
theorem kd41 : hv_kd hS 41 = some 1 := rfl
theorem kd42 : hv_kd hS 42 = some 12 := rfl
theorem ln42 : hv_ln hS 42 12 = 7 := rfl
theorem ln42_13 : hv_ln hS 42 13 = 0 := rfl
theorem kd43 : hv_kd hS 43 = some 10 := rfl
theorem ln43 : hv_ln hS 43 10 = 6 := rfl
theorem kd44 : hv_kd hS 44 = some 10 := rfl
theorem ln44 : hv_ln hS 44 10 = 6 := rfl
theorem kd45 : hv_kd hS 45 = some 10 := rfl
theorem ln45 : hv_ln hS 45 10 = 6 := rfl
theorem kd46 : hv_kd hS 46 = some 10 := rfl
theorem ln46 : hv_ln hS 46 10 = 6 := rfl
theorem kd47 : hv_kd hS 47 = some 10 := rfl
theorem ln47 : hv_ln hS 47 10 = 6 := rfl
theorem kd48 : hv_kd hS 48 = some 10 := rfl
theorem ln48 : hv_ln hS 48 10 = 6 := rfl
theorem kd49 : hv_kd hS 49 = some 10 := rfl
theorem ln49 : hv_ln hS 49 10 = 6 := rfl
theorem kd50 : hv_kd hS 50 = some 10 := rfl
theorem ln50 : hv_ln hS 50 10 = 6 := rfl
theorem kd51 : hv_kd hS 51 = some 10 := rfl
theorem ln51 : hv_ln hS 51 10 = 6 := rfl
theorem kd52 : hv_kd hS 52 = some 10 := rfl
theorem ln52 : hv_ln hS 52 10 = 6 := rfl
theorem kd53 : hv_kd hS 53 = some 10 := rfl
theorem ln53 : hv_ln hS 53 10 = 5 := rfl
theorem kd54 : hv_kd hS 54 = some 10 := rfl
theorem ln54 : hv_ln hS 54 10 = 7 := rfl
theorem kd55 : hv_kd hS 55 = some 12 := rfl
theorem ln55 : hv_ln hS 55 12 = 7 := rfl
theorem ln55_13 : hv_ln hS 55 13 = 0 := rfl
theorem kd56 : hv_kd hS 56 = some 10 := rfl
theorem ln56 : hv_ln hS 56 10 = 5 := rfl
theorem kd57 : hv_kd hS 57 = some 10 := rfl
theorem ln57 : hv_ln hS 57 10 = 5 := rfl
theorem kd58 : hv_kd hS 58 = some 10 := rfl
theorem ln58 : hv_ln hS 58 10 = 5 := rfl
theorem kd59 : hv_kd hS 59 = some 10 := rfl
theorem ln59 : hv_ln hS 59 10 = 5 := rfl
theorem kd60 : hv_kd hS 60 = some 10 := rfl
theorem ln60 : hv_ln hS 60 10 = 5 := rfl
theorem kd61 : hv_kd hS 61 = some 10 := rfl
theorem ln61 : hv_ln hS 61 10 = 5 := rfl
theorem kd62 : hv_kd hS 62 = some 10 := rfl
theorem ln62 : hv_ln hS 62 10 = 5 := rfl
theorem kd63 : hv_kd hS 63 = some 5 := rfl
theorem kd64 : hv_kd hS 64 = some 10 := rfl
theorem ln64 : hv_ln hS 64 10 = 5 := rfl
theorem kd65 : hv_kd hS 65 = some 10 := rfl
theorem ln65 : hv_ln hS 65 10 = 5 := rfl
theorem kd66 : hv_kd hS 66 = some 10 := rfl
theorem ln66 : hv_ln hS 66 10 = 6 := rfl
theorem kd67 : hv_kd hS 67 = some 7 := rfl
theorem kd68 : hv_kd hS 68 = some 10 := rfl
theorem ln68 : hv_ln hS 68 10 = 150 := rfl
theorem kd69 : hv_kd hS 69 = some 10 := rfl
theorem ln69 : hv_ln hS 69 10 = 36 := rfl
theorem kd70 : hv_kd hS 70 = some 10 := rfl
theorem ln70 : hv_ln hS 70 10 = 36 := rfl
theorem kd71 : hv_kd hS 71 = some 10 := rfl
theorem ln71 : hv_ln hS 71 10 = 199 := rfl
theorem kd72 : hv_kd hS 72 = some 10 := rfl
theorem ln72 : hv_ln hS 72 10 = 398 := rfl
theorem kd73 : hv_kd hS 73 = some 11 := rfl
theorem ln73 : hv_ln hS 73 11 = 2 := rfl
theorem kd74 : hv_kd hS 74 = some 10 := rfl
theorem ln74 : hv_ln hS 74 10 = 6 := rfl
theorem kd75 : hv_kd hS 75 = some 10 := rfl
theorem ln75 : hv_ln hS 75 10 = 6 := rfl
theorem pp0_0 {τ : Bool} : hv_PP τ 0 0 = some 1 := rfl
theorem pp0_3 {τ : Bool} : hv_PP τ 0 3 = some 19 := rfl
theorem pp0_4 {τ : Bool} : hv_PP τ 0 4 = some 24 := rfl
theorem pp0_5 {τ : Bool} : hv_PP τ 0 5 = some 35 := rfl
theorem pp0_6 {τ : Bool} : hv_PP τ 0 6 = some 36 := rfl
theorem pp0_7 {τ : Bool} : hv_PP τ 0 7 = some 41 := rfl
theorem pp0_8 {τ : Bool} : hv_PP τ 0 8 = some 63 := rfl
theorem pp0_9 {τ : Bool} : hv_PP τ 0 9 = some 66 := rfl
theorem pp1_0 {τ : Bool} : hv_PP τ 1 0 = some 2 := rfl
theorem pp3_0 {τ : Bool} : hv_PP τ 3 0 = some 4 := rfl
theorem pp3_2 {τ : Bool} : hv_PP τ 3 2 = some 5 := rfl
theorem pp11_0 {τ : Bool} : hv_PP τ 11 0 = some 12 := rfl
theorem pp11_2 {τ : Bool} : hv_PP τ 11 2 = some 13 := rfl
theorem pp19_0 {τ : Bool} : hv_PP τ 19 0 = some 20 := rfl
theorem pp19_1 {τ : Bool} : hv_PP τ 19 1 = some 21 := rfl
theorem pp19_2 {τ : Bool} : hv_PP τ 19 2 = some 22 := rfl
theorem pp19_5 {τ : Bool} : hv_PP τ 19 5 = some 23 := rfl
theorem pp24_0 {τ : Bool} : hv_PP τ 24 0 = some 25 := rfl
theorem pp24_1 {τ : Bool} : hv_PP τ 24 1 = some 30 := rfl
theorem pp25_0 {τ : Bool} : hv_PP τ 25 0 = some 26 := rfl
theorem pp25_1 {τ : Bool} : hv_PP τ 25 1 = some 27 := rfl
theorem pp25_2 {τ : Bool} : hv_PP τ 25 2 = some 28 := rfl
theorem pp25_5 {τ : Bool} : hv_PP τ 25 5 = some 29 := rfl
theorem pp30_0 {τ : Bool} : hv_PP τ 30 0 = some 31 := rfl
theorem pp30_1 {τ : Bool} : hv_PP τ 30 1 = some 32 := rfl
theorem pp30_2 {τ : Bool} : hv_PP τ 30 2 = some 33 := rfl
theorem pp30_5 {τ : Bool} : hv_PP τ 30 5 = some 34 := rfl
theorem pp36_0 {τ : Bool} : hv_PP τ 36 0 = some 37 := rfl
theorem pp36_1 {τ : Bool} : hv_PP τ 36 1 = some 38 := rfl
theorem pp36_3 {τ : Bool} : hv_PP τ 36 3 = some 39 := rfl
theorem pp36_4 {τ : Bool} : hv_PP τ 36 4 = some 40 := rfl
theorem pp41_0 {τ : Bool} : hv_PP τ 41 0 = some 42 := rfl
theorem pp41_1 {τ : Bool} : hv_PP τ 41 1 = some 50 := rfl
theorem pp41_3 {τ : Bool} : hv_PP τ 41 3 = some 51 := rfl
theorem pp41_7 {τ : Bool} : hv_PP τ 41 7 = some 52 := rfl
theorem pp41_8 {τ : Bool} : hv_PP τ 41 8 = some 53 := rfl
theorem pp41_9 {τ : Bool} : hv_PP τ 41 9 = some 54 := rfl
theorem pp41_10 {τ : Bool} : hv_PP τ 41 10 = some 55 := rfl
theorem pp63_0 {τ : Bool} : hv_PP τ 63 0 = some 64 := rfl
theorem pp63_3 {τ : Bool} : hv_PP τ 63 3 = some 65 := rfl
theorem pp67_1 {τ : Bool} : hv_PP τ 67 1 = some 68 := rfl
theorem pp67_3 {τ : Bool} : hv_PP τ 67 3 = some 69 := rfl
theorem pp67_4 {τ : Bool} : hv_PP τ 67 4 = some 70 := rfl
theorem pp67_5 {τ : Bool} : hv_PP τ 67 5 = some 71 := rfl
theorem pp67_6 {τ : Bool} : hv_PP τ 67 6 = some 72 := rfl
theorem pp67_7 {τ : Bool} : hv_PP τ 67 7 = some 73 := rfl
theorem pp67_8 {τ : Bool} : hv_PP τ 67 8 = some 74 := rfl
theorem pp67_14 {τ : Bool} : hv_PP τ 67 14 = some 75 := rfl
def hv_tp (τ : Bool) : Nat := bif τ then 11 else 3
def hv_sp (τ : Bool) : Nat := bif τ then 3 else 11
theorem pp0_1 {τ : Bool} : hv_PP τ 0 1 = some (hv_tp τ) := rfl
theorem pp0_2 {τ : Bool} : hv_PP τ 0 2 = some (hv_sp τ) := rfl
