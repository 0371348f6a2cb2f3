/-! ===== odds: plain sums ===== -/
theorem sumN_add {f g : Nat → Nat} : ∀ n, sumN (fun s => f s + g s) n = sumN f n + sumN g n
  | 0 => rfl
  | n + 1 => by
    have ih := sumN_add (f := f) (g := g) n
    show sumN (fun s => f s + g s) n + (f n + g n) = (sumN f n + f n) + (sumN g n + g n)
    omega
theorem sumN_mulr {f : Nat → Nat} {c : Nat} : ∀ n, sumN (fun s => f s * c) n = sumN f n * c
  | 0 => by simp [sumN]
  | n + 1 => by
    have ih := sumN_mulr (f := f) (c := c) n
    show sumN (fun s => f s * c) n + f n * c = (sumN f n + f n) * c
    rw [ih, Nat.add_mul]
theorem sumN_congr {f g : Nat → Nat} : ∀ {n}, (∀ s, s < n → f s = g s) → sumN f n = sumN g n
  | 0, _ => rfl
  | n + 1, h => by
    show sumN f n + f n = sumN g n + g n
    rw [sumN_congr (n := n) (fun s hs => h s (by omega)), h n (by omega)]
theorem sumN_split {g : Nat → Nat} {a : Nat} : ∀ b, sumN g (a + b) = sumN g a + sumN (fun s => g (a + s)) b
  | 0 => rfl
  | b + 1 => by
    have ih := sumN_split (g := g) (a := a) b
    show sumN g (a + b) + g (a + b) = sumN g a + (sumN (fun s => g (a + s)) b + g (a + b))
    omega
def bit (s t : Nat) : Bool := (s / 2 ^ t) % 2 == 1
theorem bit_hi {n s t : Nat} (ht : t < n) : bit (2 ^ n + s) t = bit s t := by
  unfold bit
  obtain ⟨k, rfl⟩ : ∃ k, n = t + 1 + k := ⟨n - (t + 1), by omega⟩
  have e : 2 ^ (t + 1 + k) + s = 2 ^ t * (2 * 2 ^ k) + s := by
    rw [Nat.pow_add, Nat.pow_succ, Nat.mul_assoc]
  rw [e, Nat.mul_add_div (Nat.two_pow_pos t)]
  have : (2 * 2 ^ k + s / 2 ^ t) % 2 = (s / 2 ^ t) % 2 := by omega
  rw [this]
theorem bit_n1 {n s : Nat} (hs : s < 2 ^ n) : bit (2 ^ n + s) n = true := by
  unfold bit
  have e : (2 ^ n + s) / 2 ^ n = 1 := by
    rw [Nat.add_comm, Nat.add_div_right _ (Nat.two_pow_pos n), Nat.div_eq_of_lt hs]
  rw [e]
  rfl
theorem bit_n0 {n s : Nat} (hs : s < 2 ^ n) : bit s n = false := by
  unfold bit
  rw [Nat.div_eq_of_lt hs]
  rfl
def oW (x k s : Nat) : Nat → Nat
  | 0 => 1
  | t + 1 => oW x k s t * if bit s t = true then x else k
def oM (w : Nat → Nat) (s : Nat) : Nat → Nat := fun t => if bit s t = true then 0 else w t
def oJ (T : TD) (w : Nat → Nat) (s n : Nat) : Nat := sumN (jy T (oM w s)) n
def oA (T : TD) (w : Nat → Nat) (x k n : Nat) : Nat := sumN (fun s => oW x k s n * oJ T w s n) (2 ^ n)
def oH (T : TD) (w : Nat → Nat) (x k t : Nat) : Nat := k * (k * jy1 T t (w t) (jyB w t) + x * jy1 T t (w t) 0)
theorem oW_c {x k s s' : Nat} : ∀ {n}, (∀ t, t < n → bit s t = bit s' t) → oW x k s n = oW x k s' n
  | 0, _ => rfl
  | n + 1, h => by
    show oW x k s n * (if bit s n = true then x else k) = oW x k s' n * (if bit s' n = true then x else k)
    rw [oW_c (n := n) (fun t ht => h t (by omega)), h n (by omega)]
theorem oJ_c {T : TD} {w : Nat → Nat} {s s' n : Nat} (h : ∀ t, t < n → bit s t = bit s' t) : oJ T w s n = oJ T w s' n := by
  unfold oJ
  refine sumN_congr (fun t ht => ?_)
  unfold jy jyB oM
  rw [h t ht]
  by_cases q : 0 < t
  · rw [if_pos q, if_pos q, h (t - 1) (by omega)]
  · rw [if_neg q, if_neg q]
theorem sum_dbl {g : Nat → Nat} {n : Nat} : sumN g (2 ^ (n + 1)) = sumN (fun s => g s + g (2 ^ n + s)) (2 ^ n) := by
  rw [show 2 ^ (n + 1) = 2 ^ n + 2 ^ n by rw [Nat.pow_succ]; omega, sumN_split, sumN_add]
theorem oB_eq {x k : Nat} (h : k + x = 10) : ∀ n, sumN (fun s => oW x k s n) (2 ^ n) = 10 ^ n
  | 0 => rfl
  | n + 1 => by
    have ih := oB_eq h n
    rw [sum_dbl]
    have : sumN (fun s => oW x k s (n + 1) + oW x k (2 ^ n + s) (n + 1)) (2 ^ n) = sumN (fun s => oW x k s n * 10) (2 ^ n) := by
      refine sumN_congr (fun s hs => ?_)
      show oW x k s n * (if bit s n = true then x else k) + oW x k (2 ^ n + s) n * (if bit (2 ^ n + s) n = true then x else k) = _
      rw [bit_n0 hs, bit_n1 hs, oW_c (s := 2 ^ n + s) (s' := s) (fun t ht => bit_hi ht), ← h]
      simp
      rw [Nat.mul_add]
    rw [this, sumN_mulr, ih, Nat.pow_succ]
theorem oE_eq {T : TD} {w : Nat → Nat} {x k : Nat} (h : k + x = 10) (n : Nat) : sumN (fun s => oW x k s n * jy1 T n (w n) (jyB (oM w s) n)) (2 ^ n) * k * 100 = 10 ^ (n + 1) * oH T w x k n := by
  cases n with
  | zero =>
    show (0 + 1 * jy1 T 0 (w 0) (jyB (oM w 0) 0)) * k * 100 = 10 ^ 1 * oH T w x k 0
    unfold oH jyB
    rw [if_neg (by omega), if_neg (by omega)]
    generalize jy1 T 0 (w 0) 0 = j
    have : x = 10 - k := by omega
    grind
  | succ n =>
    rw [sum_dbl]
    have e : sumN (fun s => oW x k s (n + 1) * jy1 T (n + 1) (w (n + 1)) (jyB (oM w s) (n + 1)) + oW x k (2 ^ n + s) (n + 1) * jy1 T (n + 1) (w (n + 1)) (jyB (oM w (2 ^ n + s)) (n + 1))) (2 ^ n) = sumN (fun s => oW x k s n * (k * jy1 T (n + 1) (w (n + 1)) (w n) + x * jy1 T (n + 1) (w (n + 1)) 0)) (2 ^ n) := by
      refine sumN_congr (fun s hs => ?_)
      have e1 : jyB (oM w s) (n + 1) = w n := by
        unfold jyB oM
        rw [if_pos (by omega), Nat.add_sub_cancel, bit_n0 hs]
        rfl
      have e2 : jyB (oM w (2 ^ n + s)) (n + 1) = 0 := by
        unfold jyB oM
        rw [if_pos (by omega), Nat.add_sub_cancel, bit_n1 hs]
        rfl
      show oW x k s n * (if bit s n = true then x else k) * _ + oW x k (2 ^ n + s) n * (if bit (2 ^ n + s) n = true then x else k) * _ = _
      rw [e1, e2, bit_n0 hs, bit_n1 hs, oW_c (s := 2 ^ n + s) (s' := s) (fun t ht => bit_hi ht)]
      simp
      grind
    rw [e, sumN_mulr, oB_eq h]
    unfold oH
    have e3 : jyB w (n + 1) = w n := by
      unfold jyB
      rw [if_pos (by omega), Nat.add_sub_cancel]
    rw [e3, show 10 ^ (n + 1 + 1) = 10 ^ n * 100 by rw [Nat.pow_succ, Nat.pow_succ, Nat.mul_assoc]]
    grind
theorem oA_eq {T : TD} {w : Nat → Nat} {x k : Nat} (h : k + x = 10) : ∀ n, 100 * oA T w x k n = 10 ^ n * sumN (oH T w x k) n
  | 0 => by
    show 100 * (0 + 1 * 0) = 1 * 0
    rfl
  | n + 1 => by
    have ih := oA_eq (T := T) (w := w) h n
    have e : oA T w x k (n + 1) = oA T w x k n * 10 + sumN (fun s => oW x k s n * jy1 T n (w n) (jyB (oM w s) n)) (2 ^ n) * k := by
      unfold oA
      rw [sum_dbl, ← sumN_mulr, ← sumN_mulr, ← sumN_add]
      refine sumN_congr (fun s hs => ?_)
      show oW x k s n * (if bit s n = true then x else k) * (oJ T w s n + jy T (oM w s) n) + oW x k (2 ^ n + s) n * (if bit (2 ^ n + s) n = true then x else k) * (oJ T w (2 ^ n + s) n + jy T (oM w (2 ^ n + s)) n) = _
      have e1 : jy T (oM w (2 ^ n + s)) n = 0 := by
        unfold jy jy1 oM
        rw [bit_n1 hs]
        simp
      have e2 : jy T (oM w s) n = jy1 T n (w n) (jyB (oM w s) n) := by
        unfold jy
        have : oM w s n = w n := by unfold oM; rw [bit_n0 hs]; rfl
        rw [this]
      rw [e1, e2, bit_n0 hs, bit_n1 hs, oW_c (s := 2 ^ n + s) (s' := s) (fun t ht => bit_hi ht), oJ_c (s := 2 ^ n + s) (s' := s) (fun t ht => bit_hi ht)]
      simp
      grind
    have e2 := oE_eq (T := T) (w := w) h n
    rw [e]
    show 100 * (_ + _) = 10 ^ (n + 1) * (sumN (oH T w x k) n + oH T w x k n)
    rw [Nat.mul_add, Nat.mul_add, ← e2, show 10 ^ (n + 1) = 10 ^ n * 10 from Nat.pow_succ 10 n]
    grind
/-- least terms -/
theorem low_terms {a b c d : Nat} (hb : 0 < b) (hd : 0 < d) (h : a * d = c * b) : a / Nat.gcd a b = c / Nat.gcd c d ∧ b / Nat.gcd a b = d / Nat.gcd c d := by
  have g1 : 0 < Nat.gcd a b := Nat.gcd_pos_of_pos_right _ hb
  have g2 : 0 < Nat.gcd c d := Nat.gcd_pos_of_pos_right _ hd
  have hg : Nat.gcd a b * d = Nat.gcd c d * b := by
    rw [← Nat.gcd_mul_right, ← Nat.gcd_mul_right, h, Nat.mul_comm b d]
  have hb2 : b / Nat.gcd a b = d / Nat.gcd c d := by
    obtain ⟨b', eb⟩ := Nat.gcd_dvd_right a b
    obtain ⟨d', ed⟩ := Nat.gcd_dvd_right c d
    have : b' = d' := by
      have h1 : Nat.gcd a b * (Nat.gcd c d * d') = Nat.gcd c d * (Nat.gcd a b * b') := by rw [← ed, ← eb]; exact hg
      have h2 : (Nat.gcd a b * Nat.gcd c d) * d' = (Nat.gcd a b * Nat.gcd c d) * b' := by grind
      exact (Nat.eq_of_mul_eq_mul_left (Nat.mul_pos g1 g2) h2).symm
    have h3 : b / Nat.gcd a b = b' := Nat.div_eq_of_eq_mul_right g1 eb
    have h4 : d / Nat.gcd c d = d' := Nat.div_eq_of_eq_mul_right g2 ed
    rw [h3, h4, this]
  refine ⟨?_, hb2⟩
  obtain ⟨a', ea⟩ := Nat.gcd_dvd_left a b
  obtain ⟨c', ec⟩ := Nat.gcd_dvd_left c d
  have h3 : a / Nat.gcd a b = a' := Nat.div_eq_of_eq_mul_right g1 ea
  have h4 : c / Nat.gcd c d = c' := Nat.div_eq_of_eq_mul_right g2 ec
  rw [h3, h4]
  have h5 : Nat.gcd a b * a' * d = Nat.gcd c d * c' * b := by rw [← ea, ← ec]; exact h
  have h6 : (Nat.gcd a b * d) * a' = (Nat.gcd a b * d) * c' := by grind
  exact Nat.eq_of_mul_eq_mul_left (Nat.mul_pos g1 hd) h6
