/-! ===== what is told, who is IT, JOY: plain numbers ===== -/
abbrev TD : Type := Nat × Nat × (Nat → Nat) × (Nat → Nat → Nat) × Nat
def tN (T : TD) : Nat := T.1
def tF (T : TD) : Nat := T.2.1
def tS (T : TD) : Nat → Nat := T.2.2.1
def tQ (T : TD) : Nat → Nat → Nat := T.2.2.2.1
def tW (T : TD) : Nat := T.2.2.2.2
def tOk (T : TD) : Prop := tN T ≤ 6 ∧ tF T ≤ 5 ∧ (∀ t, t < tN T → tS T t ≤ 2) ∧ (∀ f, f < tF T → tQ T f 0 ≤ 20 ∧ tQ T f 1 ≤ 20 ∧ tQ T f 2 ≤ 30 ∧ tQ T f 3 ≤ 3 ∧ tQ T f 4 ≤ 63) ∧ tW T ≤ 63
/-- JOY of a TURN t in which a - 1 is IT (0: nobody), b - 1 ahead -/
def jy1 (T : TD) (t a b : Nat) : Nat := if a = 0 ∨ tS T t = 2 then 0 else if a = b then tQ T (a - 1) (if tS T t = 0 then 0 else 1) / 2 else tQ T (a - 1) (if tS T t = 0 then 0 else 1)
def jyB (w : Nat → Nat) (t : Nat) : Nat := if 0 < t then w (t - 1) else 0
def jy (T : TD) (w : Nat → Nat) (t : Nat) : Nat := jy1 T t (w t) (jyB w t)
def sumN (f : Nat → Nat) : Nat → Nat
  | 0 => 0
  | n + 1 => sumN f n + f n
def jyF (T : TD) (w : Nat → Nat) (f : Nat) : Nat := sumN (fun t => if w t = f + 1 then jy T w t else 0) (tN T)
def jyA (T : TD) (w : Nat → Nat) : Nat := sumN (jy T w) (tN T)
abbrev hI : Type := Nat → Nat → Int32
abbrev hL : Type := Nat → Nat → Int64
/-- what is told, at place p of the class; in the reference -/
def TC (T : TD) (I : hI) (p : Nat) : Prop := I p 1 = nI (tN T) ∧ I p 3 = nI (tF T) ∧ I p 4 = nI (tW T) ∧ (∀ t, t < tN T → I (p + 1) t = nI (tS T t)) ∧ ∀ f i, f < tF T → i < 5 → I (p + 3 + f) i = nI (tQ T f i)
def TM (T : TD) (I : hI) : Prop := I 69 0 = nI (tN T) ∧ I 69 1 = nI (tF T) ∧ I 69 2 = nI (tW T) ∧ (∀ t, t < tN T → I 69 (5 + t) = nI (tS T t)) ∧ ∀ f i, f < tF T → i < 5 → I 69 (11 + 5 * i + f) = nI (tQ T f i)
def cW (k : Nat) : Int32 := nI k - 1
def rW (k : Nat) : Int32 := if k = 0 then -9 else nI (k - 1)
theorem cW_0 : cW 0 = -1 := by decide
theorem cW_s (k : Nat) : cW (k + 1) = nI k := nI_pred k
theorem rW_0 : rW 0 = -9 := rfl
theorem rW_s (k : Nat) : rW (k + 1) = nI k := rfl
theorem hv_ix_nI {n N : Nat} (h : n < N) (hN : N < 2 ^ 31) : hv_ix (nI n) N = true := by
  have h1 := nI_pos (n := n) (by omega)
  have h2 := nI_clamp (n := n) (by omega)
  simp [hv_ix, h1, h2, h]
theorem cW_toInt {k : Nat} (h : k < 2 ^ 30) : (cW k).toInt = (k : Int) - 1 := by
  cases k with
  | zero => decide
  | succ k => rw [cW_s, nI_toInt (by omega)]; omega
theorem i_lt {a b : Int32} : a < b ↔ a.toInt < b.toInt := Int32.lt_iff_toInt_lt
theorem i_le {a b : Int32} : a ≤ b ↔ a.toInt ≤ b.toInt := Int32.le_iff_toInt_le
theorem i_eq {a b : Int32} : a = b ↔ a.toInt = b.toInt := Int32.toInt_inj.symm
theorem cW_inj {a b : Nat} (ha : a < 2 ^ 30) (hb : b < 2 ^ 30) : cW a = cW b ↔ a = b := by
  rw [i_eq, cW_toInt ha, cW_toInt hb]; omega
theorem cW_neg {k : Nat} (h : k < 2 ^ 30) : cW k < 0 ↔ k = 0 := by
  rw [i_lt, cW_toInt h, Int32.toInt_zero]; omega
theorem sumN_le {f : Nat → Nat} {m : Nat} : ∀ {n : Nat}, (∀ t, t < n → f t ≤ m) → sumN f n ≤ n * m
  | 0, _ => by simp [sumN]
  | n + 1, h => by
    have h1 := sumN_le (n := n) (fun t ht => h t (by omega))
    have h2 := h n (by omega)
    rw [Nat.succ_mul]
    show sumN f n + f n ≤ _
    omega
theorem jy1_le {T : TD} (hT : tOk T) {t a b : Nat} (ha : a ≤ tF T) : jy1 T t a b ≤ 20 := by
  unfold jy1
  by_cases h : a = 0 ∨ tS T t = 2
  · rw [if_pos h]; omega
  · rw [if_neg h]
    have hq := hT.2.2.2.1 (a - 1) (by omega)
    have h3 : tQ T (a - 1) (if tS T t = 0 then 0 else 1) ≤ 20 := by split <;> omega
    split <;> omega
