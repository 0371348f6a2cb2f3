/-! ===== CHEESE: plain ===== -/
theorem hb_bit (m h : Nat) : hrBit m h = bit m h := by unfold hrBit bit; by_cases q : m / 2 ^ h % 2 = 1 <;> simp [q]
theorem hb_or : ∀ m : Fin 64, ∀ g : Fin 6, ∀ h : Fin 6, hrBit (m.1 ||| 2 ^ g.1) h.1 = (hrBit m.1 h.1 || decide (g.1 = h.1)) := by decide +kernel
theorem or_lt64 : ∀ m : Fin 64, ∀ g : Fin 6, m.1 ||| 2 ^ g.1 < 64 := by decide +kernel
theorem or_shl : ∀ m : Fin 64, ∀ g : Fin 6, nI m.1 ||| ((1 : Int32) <<< (nI g.1 &&& 31)) = nI (m.1 ||| 2 ^ g.1) := by decide +kernel
theorem and_not : ∀ a : Fin 64, ∀ b : Fin 64, nI a.1 &&& (nI b.1 ^^^ (-1)) = nI (a.1 &&& (63 ^^^ b.1)) := by decide +kernel
theorem and_lt : ∀ a : Fin 64, ∀ b : Fin 64, a.1 &&& (63 ^^^ b.1) < 64 := by decide +kernel
theorem and_shl : ∀ a : Fin 64, ∀ g : Fin 6, nI a.1 &&& ((1 : Int32) <<< (nI g.1 &&& 31)) = 0 ↔ hrBit a.1 g.1 = false := by decide +kernel
theorem hb_and (a b h : Nat) (hh : h < 6) : hrBit (a &&& (63 ^^^ b)) h = (hrBit a h && !hrBit b h) := by
  have e : ∀ m, hrBit m h = m.testBit h := fun m => by rw [Nat.testBit_eq_decide_div_mod_eq]; rfl
  rw [e, e, e, Nat.testBit_and, Nat.testBit_xor]
  have e63 : (63 : Nat).testBit h = true := by
    have : h = 0 ∨ h = 1 ∨ h = 2 ∨ h = 3 ∨ h = 4 ∨ h = 5 := by omega
    rcases this with rfl | rfl | rfl | rfl | rfl | rfl <;> decide
  rw [e63, Bool.true_xor]
/-- what is taken behind the first j; whether they can be; how many come -/
def tkG (d : Nat → Nat) (W : Nat) : Nat → Nat
  | 0 => W
  | j + 1 => if d j = 6 then tkG d W j else tkG d W j ||| 2 ^ d j
def gOk (d own : Nat → Nat) (W : Nat) : Nat → Bool
  | 0 => true
  | j + 1 => gOk d own W j && (decide (d j = 6) || (hrBit (own j) (d j) && !hrBit (tkG d W j) (d j)))
def cG (d : Nat → Nat) (j : Nat) : Nat := sumN (fun u => if d u = 6 then 0 else 1) j
theorem cG_s (d : Nat → Nat) (j : Nat) : cG d (j + 1) = cG d j + if d j = 6 then 0 else 1 := rfl
theorem tkG_c {d d' : Nat → Nat} {W : Nat} : ∀ {j : Nat}, (∀ u, u < j → d u = d' u) → tkG d W j = tkG d' W j
  | 0, _ => rfl
  | j + 1, h => by
    show (if d j = 6 then _ else _) = (if d' j = 6 then _ else _)
    rw [tkG_c (j := j) (fun u hu => h u (by omega)), h j (by omega)]
theorem gOk_c {d d' own : Nat → Nat} {W : Nat} : ∀ {j : Nat}, (∀ u, u < j → d u = d' u) → gOk d own W j = gOk d' own W j
  | 0, _ => rfl
  | j + 1, h => by
    show (gOk d own W j && _) = (gOk d' own W j && _)
    rw [gOk_c (j := j) (fun u hu => h u (by omega)), tkG_c (W := W) (j := j) (fun u hu => h u (by omega)), h j (by omega)]
theorem cG_c {d d' : Nat → Nat} {j : Nat} (h : ∀ u, u < j → d u = d' u) : cG d j = cG d' j := sumN_congr (fun u hu => by rw [h u hu])
theorem cG_le (d : Nat → Nat) : ∀ j, cG d j ≤ j
  | 0 => Nat.le_refl _
  | j + 1 => by
    have ih := cG_le d j
    rw [cG_s]
    split <;> omega
theorem cG_grow (d : Nat → Nat) (j : Nat) : ∀ k, cG d (j + k) ≤ cG d j + k
  | 0 => Nat.le_refl _
  | k + 1 => by
    have ih := cG_grow d j k
    show cG d (j + k + 1) ≤ _
    rw [cG_s]
    split <;> omega
theorem tkG_lt {d : Nat → Nat} {W : Nat} (hW : W ≤ 63) : ∀ {j : Nat}, (∀ u, u < j → d u < 7) → tkG d W j < 64
  | 0, _ => by show W < 64; omega
  | j + 1, h => by
    have ih := tkG_lt hW (j := j) (fun u hu => h u (by omega))
    have hd := h j (by omega)
    show (if d j = 6 then tkG d W j else tkG d W j ||| 2 ^ d j) < 64
    split
    · exact ih
    · exact or_lt64 ⟨tkG d W j, ih⟩ ⟨d j, by omega⟩
theorem tkG_bit {d : Nat → Nat} {W : Nat} (hW : W ≤ 63) {h : Nat} (hh : h < 6) : ∀ {j : Nat}, (∀ u, u < j → d u < 7) → (hrBit (tkG d W j) h = true ↔ hrBit W h = true ∨ ∃ e, e < j ∧ d e = h)
  | 0, _ => ⟨fun z => Or.inl z, fun z => z.elim id (fun ⟨e, q, _⟩ => absurd q (Nat.not_lt_zero _))⟩
  | j + 1, hd => by
    have ih := tkG_bit hW hh (j := j) (fun u hu => hd u (by omega))
    have l := tkG_lt hW (j := j) (fun u hu => hd u (by omega))
    have hj := hd j (by omega)
    show hrBit (if d j = 6 then tkG d W j else tkG d W j ||| 2 ^ d j) h = true ↔ _
    by_cases q : d j = 6
    · rw [if_pos q, ih]
      constructor
      · rintro (z | ⟨e, z1, z2⟩)
        · exact Or.inl z
        · exact Or.inr ⟨e, by omega, z2⟩
      · rintro (z | ⟨e, z1, z2⟩)
        · exact Or.inl z
        · refine Or.inr ⟨e, ?_, z2⟩
          have : e ≠ j := fun y => by subst y; omega
          omega
    · rw [if_neg q]
      have e := hb_or ⟨tkG d W j, l⟩ ⟨d j, by omega⟩ ⟨h, hh⟩
      have e' : hrBit (tkG d W j ||| 2 ^ d j) h = (hrBit (tkG d W j) h || decide (d j = h)) := e
      rw [e', Bool.or_eq_true, decide_eq_true_eq, ih]
      constructor
      · rintro ((z | ⟨e, z1, z2⟩) | z)
        · exact Or.inl z
        · exact Or.inr ⟨e, by omega, z2⟩
        · exact Or.inr ⟨j, by omega, z⟩
      · rintro (z | ⟨e, z1, z2⟩)
        · exact Or.inl (Or.inl z)
        · by_cases y : e = j
          · subst y; exact Or.inr z2
          · exact Or.inl (Or.inr ⟨e, by omega, z2⟩)
theorem gOk_iff {d own : Nat → Nat} {W : Nat} (hW : W ≤ 63) : ∀ {j : Nat}, (∀ u, u < j → d u < 7) → (gOk d own W j = true ↔ ∀ u, u < j → d u = 6 ∨ (hrBit (own u) (d u) = true ∧ ¬ hrBit W (d u) = true ∧ ∀ e, e < u → d e ≠ d u))
  | 0, _ => ⟨fun _ u hu => absurd hu (Nat.not_lt_zero _), fun _ => rfl⟩
  | j + 1, hd => by
    have ih := gOk_iff (own := own) hW (j := j) (fun u hu => hd u (by omega))
    have hj := hd j (by omega)
    show (gOk d own W j && (decide (d j = 6) || (hrBit (own j) (d j) && !hrBit (tkG d W j) (d j)))) = true ↔ _
    rw [Bool.and_eq_true, Bool.or_eq_true, Bool.and_eq_true, decide_eq_true_eq, Bool.not_eq_true', ih]
    have step : (d j = 6 ∨ (hrBit (own j) (d j) = true ∧ hrBit (tkG d W j) (d j) = false)) ↔ (d j = 6 ∨ (hrBit (own j) (d j) = true ∧ ¬ hrBit W (d j) = true ∧ ∀ e, e < j → d e ≠ d j)) := by
      by_cases q : d j = 6
      · exact ⟨fun _ => Or.inl q, fun _ => Or.inl q⟩
      · have b := tkG_bit (d := d) hW (h := d j) (by omega) (j := j) (fun u hu => hd u (by omega))
        rw [← Bool.not_eq_true, b]
        constructor
        · rintro (z | ⟨z1, z2⟩)
          · exact Or.inl z
          · exact Or.inr ⟨z1, fun y => z2 (Or.inl y), fun e he y => z2 (Or.inr ⟨e, he, y⟩)⟩
        · rintro (z | ⟨z1, z2, z3⟩)
          · exact Or.inl z
          · exact Or.inr ⟨z1, fun y => y.elim z2 (fun ⟨e, q1, q2⟩ => z3 e q1 q2)⟩
    rw [step]
    constructor
    · rintro ⟨h1, h2⟩ u hu
      by_cases y : u = j
      · subst y; exact h2
      · exact h1 u (by omega)
    · intro h
      exact ⟨fun u hu => h u (by omega), h j (by omega)⟩
/-! codes of hours -/
def hP (t q u : Nat) : Nat := if u < t then (q / 7 ^ (t - 1 - u)) % 7 else 6
theorem hP_lt (t q u : Nat) : hP t q u < 7 := by unfold hP; split <;> omega
theorem hr_lt (T : TD) (c f : Nat) : hr T c f < 7 := by unfold hr; omega
theorem hr_hP {T : TD} {c u : Nat} (hu : u < tF T) : hr T c u = hP (tF T) c u := by unfold hr hP; rw [if_pos hu]
theorem hP_blk {t k q r u : Nat} (hr : r < 7 ^ k) (hu : u < t) : hP (t + k) (q * 7 ^ k + r) u = hP t q u := by
  unfold hP
  rw [if_pos (by omega), if_pos hu]
  congr 1
  rw [show t + k - 1 - u = k + (t - 1 - u) by omega, Nat.pow_add, ← Nat.div_div_eq_div_mul]
  congr 1
  rw [Nat.add_comm, Nat.add_mul_div_right _ _ (Nat.pow_pos (by decide)), Nat.div_eq_of_lt hr, Nat.zero_add]
theorem hP_s {t q h u : Nat} (hh : h < 7) (hu : u < t) : hP (t + 1) (q * 7 + h) u = hP t q u := by
  have := hP_blk (t := t) (k := 1) (q := q) (r := h) (u := u) (by omega) hu
  rw [Nat.pow_one] at this
  exact this
theorem hP_t {t q h : Nat} (hh : h < 7) : hP (t + 1) (q * 7 + h) t = h := by
  unfold hP
  rw [if_pos (by omega), show t + 1 - 1 - t = 0 by omega, Nat.pow_zero, Nat.div_one]
  omega
theorem hrOk_g {T : TD} (hT : tOk T) (c : Nat) : hrOk T c = gOk (hr T c) (fun u => tQ T u 4) (tW T) (tF T) := by
  rw [Bool.eq_iff_iff, gOk_iff hT.2.2.2.2 (fun u _ => hr_lt T c u)]
  unfold hrOk
  rw [List.all_eq_true]
  constructor
  · intro h u hu
    have := h u (List.mem_range.mpr hu)
    rw [Bool.or_eq_true, decide_eq_true_eq, Bool.and_eq_true, Bool.and_eq_true, Bool.not_eq_true', List.all_eq_true, ← Bool.not_eq_true] at this
    rcases this with z | ⟨⟨z1, z2⟩, z3⟩
    · exact Or.inl z
    · exact Or.inr ⟨z1, z2, fun e he => of_decide_eq_true (z3 e (List.mem_range.mpr he))⟩
  · intro h u hu
    rw [Bool.or_eq_true, decide_eq_true_eq, Bool.and_eq_true, Bool.and_eq_true, Bool.not_eq_true', List.all_eq_true, ← Bool.not_eq_true]
    rcases h u (List.mem_range.mp hu) with z | ⟨z1, z2, z3⟩
    · exact Or.inl z
    · exact Or.inr ⟨⟨z1, z2⟩, fun e he => decide_eq_true (z3 e (List.mem_range.mp he))⟩
theorem hrC_g (T : TD) (c : Nat) : hrC T c = cG (hr T c) (tF T) := rfl
theorem hrC_le {T : TD} (hT : tOk T) (c : Nat) : hrC T c ≤ 5 := by
  have := cG_le (hr T c) (tF T)
  have := hT.2.1
  rw [hrC_g]
  omega
theorem hrN_le {T : TD} (hT : tOk T) : hrN T ≤ 16807 := by
  unfold hrN
  exact Nat.le_trans (Nat.pow_le_pow_right (by decide) hT.2.1) (by decide)
theorem hrN_pos (T : TD) : 0 < hrN T := Nat.pow_pos (by decide)
theorem hr_last {T : TD} {u : Nat} (hu : u < tF T) : hr T (hrN T - 1) u = 6 := by
  unfold hr hrN
  obtain ⟨a, ha⟩ : ∃ a, tF T = (tF T - 1 - u) + 1 + a := ⟨u, by omega⟩
  generalize hb : tF T - 1 - u = b at ha ⊢
  rw [ha]
  have hp : 0 < 7 ^ b := Nat.pow_pos (by decide)
  have ha1 : 0 < 7 ^ a := Nat.pow_pos (by decide)
  have e : 7 ^ (b + 1 + a) - 1 = (7 * 7 ^ a - 1) * 7 ^ b + (7 ^ b - 1) := by
    rw [Nat.sub_mul, Nat.one_mul]
    have : 7 ^ (b + 1 + a) = 7 * 7 ^ a * 7 ^ b := by rw [Nat.pow_add, Nat.pow_succ, Nat.mul_comm (7 ^ b) 7, Nat.mul_assoc, Nat.mul_assoc, Nat.mul_comm (7 ^ b)]
    rw [this]
    have : 7 ^ b ≤ 7 * 7 ^ a * 7 ^ b := Nat.le_mul_of_pos_left _ (by omega)
    omega
  rw [e, Nat.add_comm, Nat.add_mul_div_right _ _ hp, Nat.div_eq_of_lt (by omega), Nat.zero_add]
  omega
theorem hrOk_last {T : TD} (hT : tOk T) : hrOk T (hrN T - 1) = true := by
  rw [hrOk_g hT, gOk_iff hT.2.2.2.2 (fun u _ => hr_lt T _ u)]
  exact fun u hu => Or.inl (hr_last hu)
/-- as the class has it: nothing found yet is NO -/
def crC (T : TD) : Nat → Int32 × Nat
  | 0 => (-1000000, hrN T - 1)
  | c + 1 => if hrOk T c = true ∧ (crC T c).1 < nI (hrC T c) then (nI (hrC T c), c) else crC T c
theorem m1i : (-1 : Int32).toInt = -1 := by decide
theorem crC_S {T : TD} (hT : tOk T) : ∀ c, ((∀ c', c' < c → ¬ hrOk T c' = true) ∧ crC T c = (-1000000, hrN T - 1) ∧ crS T c = (-1, hrN T - 1)) ∨ crC T c = crS T c
  | 0 => Or.inl ⟨fun c' h => absurd h (Nat.not_lt_zero _), rfl, rfl⟩
  | c + 1 => by
    have e1 : crC T (c + 1) = if hrOk T c = true ∧ (crC T c).1 < nI (hrC T c) then (nI (hrC T c), c) else crC T c := rfl
    have e2 : crS T (c + 1) = if hrOk T c = true ∧ (crS T c).1 < nI (hrC T c) then (nI (hrC T c), c) else crS T c := rfl
    have l := hrC_le hT c
    rcases crC_S hT c with ⟨h1, h2, h3⟩ | h
    · by_cases q : hrOk T c = true
      · right
        rw [e1, e2, h2, h3]
        have c1 : (-1000000 : Int32) < nI (hrC T c) := by rw [i_lt, NOi, nI_toInt (by omega)]; omega
        have c2 : (-1 : Int32) < nI (hrC T c) := by rw [i_lt, m1i, nI_toInt (by omega)]; omega
        rw [if_pos ⟨q, c1⟩, if_pos ⟨q, c2⟩]
      · left
        rw [e1, e2, if_neg (fun z => q z.1), if_neg (fun z => q z.1)]
        refine ⟨fun c' hc => ?_, h2, h3⟩
        by_cases y : c' = c
        · subst y; exact q
        · exact h1 c' (by omega)
    · right
      rw [e1, e2, h]
theorem crC_end {T : TD} (hT : tOk T) : crC T (hrN T) = crS T (hrN T) := by
  have hp := hrN_pos T
  rcases crC_S hT (hrN T) with ⟨h1, -, -⟩ | h
  · exact absurd (hrOk_last hT) (h1 _ (by omega))
  · exact h
theorem crC_skip {T : TD} {c : Nat} : ∀ {m : Nat}, (∀ i, c ≤ i → i < c + m → hrOk T i = true → ¬ (crC T c).1 < nI (hrC T i)) → crC T (c + m) = crC T c
  | 0, _ => rfl
  | m + 1, h => by
    have ih := crC_skip (T := T) (c := c) (m := m) (fun i h1 h2 => h i h1 (by omega))
    have hn : ¬ (hrOk T (c + m) = true ∧ (crC T (c + m)).1 < nI (hrC T (c + m))) := by
      rintro ⟨h1, h2⟩
      rw [ih] at h2
      exact h (c + m) (by omega) (by omega) h1 h2
    exact (if_neg hn).trans ih
theorem crC_rng {T : TD} (hT : tOk T) : ∀ c, (crC T c).1 = -1000000 ∨ ∃ n, n ≤ 5 ∧ (crC T c).1 = nI n
  | 0 => Or.inl rfl
  | c + 1 => by
    have e1 : crC T (c + 1) = if hrOk T c = true ∧ (crC T c).1 < nI (hrC T c) then (nI (hrC T c), c) else crC T c := rfl
    rw [e1]
    split
    · exact Or.inr ⟨hrC T c, hrC_le hT c, rfl⟩
    · exact crC_rng hT c
def hE (h : Nat) : Int32 := if h = 6 then -1 else nI h
