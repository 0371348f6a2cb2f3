/-! ===== the TEXT: TOKENS, plain ===== -/
def dg (c : Nat) : Prop := 48 ≤ c ∧ c ≤ 57
theorem dg_dec (c : Nat) : dg c ∨ ¬ dg c := Classical.em _
def zSk (n : Nat) (b : Nat → Nat) : Nat → Nat → Nat
  | 0, p => p
  | k + 1, p => if p < n ∧ b p = 32 then zSk n b k (p + 1) else p
def zS (n : Nat) (b : Nat → Nat) (p : Nat) : Nat := zSk n b (n - p) p
theorem zS_t {n : Nat} {b : Nat → Nat} {p : Nat} (h : p < n) (hb : b p = 32) : zS n b p = zS n b (p + 1) := by
  unfold zS
  rw [show n - p = (n - (p + 1)) + 1 by omega]
  show (if p < n ∧ b p = 32 then _ else _) = _
  rw [if_pos ⟨h, hb⟩]
theorem zS_f {n : Nat} {b : Nat → Nat} {p : Nat} (h : ¬ (p < n ∧ b p = 32)) : zS n b p = p := by
  unfold zS
  cases n - p with
  | zero => rfl
  | succ k =>
    show (if p < n ∧ b p = 32 then _ else _) = _
    rw [if_neg h]
theorem zS_rng {n : Nat} {b : Nat → Nat} : ∀ k p, p + k = n → p ≤ zS n b p ∧ zS n b p ≤ n
  | 0, p, h => by
    rw [zS_f (by omega)]
    omega
  | k + 1, p, h => by
    by_cases q : p < n ∧ b p = 32
    · rw [zS_t q.1 q.2]
      have := zS_rng (n := n) (b := b) k (p + 1) (by omega)
      omega
    · rw [zS_f q]
      omega
theorem zS_le {n : Nat} {b : Nat → Nat} {p : Nat} (h : p ≤ n) : p ≤ zS n b p ∧ zS n b p ≤ n := zS_rng (n - p) p (by omega)
def zDk (n : Nat) (b : Nat → Nat) : Nat → Nat → Nat
  | 0, p => p
  | k + 1, p => if p < n ∧ 48 ≤ b p ∧ b p ≤ 57 then zDk n b k (p + 1) else p
def zD (n : Nat) (b : Nat → Nat) (p : Nat) : Nat := zDk n b (n - p) p
theorem zD_t {n : Nat} {b : Nat → Nat} {p : Nat} (h : p < n) (hb : dg (b p)) : zD n b p = zD n b (p + 1) := by
  unfold zD
  rw [show n - p = (n - (p + 1)) + 1 by omega]
  show (if p < n ∧ 48 ≤ b p ∧ b p ≤ 57 then _ else _) = _
  rw [if_pos ⟨h, hb⟩]
theorem zD_f {n : Nat} {b : Nat → Nat} {p : Nat} (h : ¬ (p < n ∧ dg (b p))) : zD n b p = p := by
  unfold zD
  cases n - p with
  | zero => rfl
  | succ k =>
    show (if p < n ∧ 48 ≤ b p ∧ b p ≤ 57 then _ else _) = _
    rw [if_neg (show ¬ (p < n ∧ 48 ≤ b p ∧ b p ≤ 57) from h)]
theorem zD_rng {n : Nat} {b : Nat → Nat} : ∀ k p, p + k = n → p ≤ zD n b p ∧ zD n b p ≤ n
  | 0, p, h => by
    rw [zD_f (by omega)]
    omega
  | k + 1, p, h => by
    by_cases q : p < n ∧ dg (b p)
    · rw [zD_t q.1 q.2]
      have := zD_rng (n := n) (b := b) k (p + 1) (by omega)
      omega
    · rw [zD_f q]
      omega
theorem zD_le {n : Nat} {b : Nat → Nat} {p : Nat} (h : p ≤ n) : p ≤ zD n b p ∧ zD n b p ≤ n := zD_rng (n - p) p (by omega)
/-- a number as the class counts it; as the reference does -/
def zCk (n : Nat) (b : Nat → Nat) : Nat → Nat → Nat → Nat
  | 0, x, _ => x
  | k + 1, x, p => if p < n ∧ 48 ≤ b p ∧ b p ≤ 57 then zCk n b k (min (x * 10 + (b p - 48)) 100) (p + 1) else x
def zC (n : Nat) (b : Nat → Nat) (x p : Nat) : Nat := zCk n b (n - p) x p
theorem zC_t {n : Nat} {b : Nat → Nat} {x p : Nat} (h : p < n) (hb : dg (b p)) : zC n b x p = zC n b (min (x * 10 + (b p - 48)) 100) (p + 1) := by
  unfold zC
  rw [show n - p = (n - (p + 1)) + 1 by omega]
  show (if p < n ∧ 48 ≤ b p ∧ b p ≤ 57 then _ else _) = _
  rw [if_pos ⟨h, hb⟩]
theorem zC_f {n : Nat} {b : Nat → Nat} {x p : Nat} (h : ¬ (p < n ∧ dg (b p))) : zC n b x p = x := by
  unfold zC
  cases n - p with
  | zero => rfl
  | succ k =>
    show (if p < n ∧ 48 ≤ b p ∧ b p ≤ 57 then _ else _) = _
    rw [if_neg (show ¬ (p < n ∧ 48 ≤ b p ∧ b p ≤ 57) from h)]
def zMk (n : Nat) (b : Nat → Nat) (z : Bool) : Nat → Nat → Nat → Nat
  | 0, x, _ => x
  | k + 1, x, p => if p < n ∧ 48 ≤ b p ∧ b p ≤ 57 then zMk n b z k (if z = true ∨ 99 < x then 1000 else 10 * x + (b p - 48)) (p + 1) else x
def zM (n : Nat) (b : Nat → Nat) (z : Bool) (x p : Nat) : Nat := zMk n b z (n - p) x p
theorem zM_t {n : Nat} {b : Nat → Nat} {z : Bool} {x p : Nat} (h : p < n) (hb : dg (b p)) : zM n b z x p = zM n b z (if z = true ∨ 99 < x then 1000 else 10 * x + (b p - 48)) (p + 1) := by
  unfold zM
  rw [show n - p = (n - (p + 1)) + 1 by omega]
  show (if p < n ∧ 48 ≤ b p ∧ b p ≤ 57 then _ else _) = _
  rw [if_pos ⟨h, hb⟩]
theorem zM_f {n : Nat} {b : Nat → Nat} {z : Bool} {x p : Nat} (h : ¬ (p < n ∧ dg (b p))) : zM n b z x p = x := by
  unfold zM
  cases n - p with
  | zero => rfl
  | succ k =>
    show (if p < n ∧ 48 ≤ b p ∧ b p ≤ 57 then _ else _) = _
    rw [if_neg (show ¬ (p < n ∧ 48 ≤ b p ∧ b p ≤ 57) from h)]
theorem zM_C {n : Nat} {b : Nat → Nat} : ∀ k x p, p + k = n → x ≤ 1000 → zC n b (min x 100) p = min (zM n b false x p) 100 ∧ zM n b false x p ≤ 1000
  | 0, x, p, h, hx => by
    rw [zC_f (by omega), zM_f (by omega)]
    exact ⟨rfl, hx⟩
  | k + 1, x, p, h, hx => by
    by_cases q : p < n ∧ dg (b p)
    · have hd := q.2
      unfold dg at hd
      rw [zC_t q.1 q.2, zM_t q.1 q.2]
      by_cases y : 99 < x
      · rw [if_pos (Or.inr y)]
        have := zM_C (n := n) (b := b) k 1000 (p + 1) (by omega) (by omega)
        rw [show min (min x 100 * 10 + (b p - 48)) 100 = min 1000 100 by omega]
        exact this
      · rw [if_neg (fun w => w.elim (fun w => absurd w (by decide)) y)]
        have := zM_C (n := n) (b := b) k (10 * x + (b p - 48)) (p + 1) (by omega) (by omega)
        rw [show min (min x 100 * 10 + (b p - 48)) 100 = min (10 * x + (b p - 48)) 100 by omega]
        exact this
    · rw [zC_f q, zM_f q]
      exact ⟨rfl, hx⟩
theorem zM_z {n : Nat} {b : Nat → Nat} : ∀ k p, p + k = n → zM n b true 1000 p = 1000
  | 0, p, h => zM_f (by omega)
  | k + 1, p, h => by
    by_cases q : p < n ∧ dg (b p)
    · rw [zM_t q.1 q.2, if_pos (Or.inl rfl)]
      exact zM_z k (p + 1) (by omega)
    · exact zM_f q
theorem zC_le {n : Nat} {b : Nat → Nat} : ∀ k x p, p + k = n → x ≤ 100 → zC n b x p ≤ 100
  | 0, x, p, h, hx => by rw [zC_f (by omega)]; exact hx
  | k + 1, x, p, h, hx => by
    by_cases q : p < n ∧ dg (b p)
    · rw [zC_t q.1 q.2]
      exact zC_le k _ (p + 1) (by omega) (by omega)
    · rw [zC_f q]; exact hx
/-- a TOKEN: what it is, its value, where the next begins -/
def zK (n : Nat) (b : Nat → Nat) (p : Nat) : Nat := if n ≤ zS n b p then 0 else if 48 ≤ b (zS n b p) ∧ b (zS n b p) ≤ 57 then 2 else if b (zS n b p) = 59 then 3 else if 97 ≤ b (zS n b p) ∧ b (zS n b p) ≤ 122 then 1 else 4
def zV (n : Nat) (b : Nat → Nat) (p : Nat) : Nat := if 48 ≤ b (zS n b p) ∧ b (zS n b p) ≤ 57 then (if (b (zS n b p) = 48 ∧ 1 < zD n b (zS n b p) - zS n b p) ∨ 99 < zC n b 0 (zS n b p) then 100 else zC n b 0 (zS n b p)) else b (zS n b p)
def zE (n : Nat) (b : Nat → Nat) (p : Nat) : Nat := if n ≤ zS n b p then zS n b p else if 48 ≤ b (zS n b p) ∧ b (zS n b p) ≤ 57 then zD n b (zS n b p) else zS n b p + 1
theorem zE_le {n : Nat} {b : Nat → Nat} {p : Nat} (h : p ≤ n) : p ≤ zE n b p ∧ zE n b p ≤ n := by
  have h1 := zS_le (b := b) h
  have h2 := zD_le (b := b) h1.2
  unfold zE
  split
  · omega
  · split <;> omega
theorem zK_0 {n : Nat} {b : Nat → Nat} {p : Nat} (h : p ≤ n) (hk : zK n b p ≠ 0) : zS n b p < n ∧ p < zE n b p := by
  have h1 := zS_le (b := b) h
  have hl : ¬ n ≤ zS n b p := fun z => hk (by unfold zK; rw [if_pos z])
  refine ⟨by omega, ?_⟩
  unfold zE
  rw [if_neg hl]
  split
  · rename_i q
    have e : zD n b (zS n b p) = zD n b (zS n b p + 1) := zD_t (by omega) q
    have h2 := zD_le (b := b) (show zS n b p + 1 ≤ n by omega)
    omega
  · omega
theorem zM_V {n : Nat} {b : Nat → Nat} {s : Nat} (hs : s < n) (hd : dg (b s)) :
    zM n b (decide (b s = 48)) (b s - 48) (s + 1) ≤ 1000 ∧
    (((b s = 48 ∧ 1 < zD n b s - s) ∨ 99 < zC n b 0 s) → 99 < zM n b (decide (b s = 48)) (b s - 48) (s + 1)) ∧
    (¬ ((b s = 48 ∧ 1 < zD n b s - s) ∨ 99 < zC n b 0 s) → zM n b (decide (b s = 48)) (b s - 48) (s + 1) = zC n b 0 s) := by
  have hd' := hd
  unfold dg at hd'
  have e1 : zC n b 0 s = zC n b (min (b s - 48) 100) (s + 1) := by
    rw [zC_t hs hd]
    congr 2
    omega
  have e2 : zD n b s = zD n b (s + 1) := zD_t hs hd
  by_cases q : b s = 48
  · rw [decide_eq_true q]
    by_cases y : s + 1 < n ∧ dg (b (s + 1))
    · have e3 : zM n b true (b s - 48) (s + 1) = 1000 := by
        rw [zM_t y.1 y.2, if_pos (Or.inl rfl)]
        exact zM_z (n - (s + 1 + 1)) _ (by omega)
      have e4 : zD n b (s + 1) = zD n b (s + 1 + 1) := zD_t y.1 y.2
      have l := zD_le (b := b) (show s + 1 + 1 ≤ n by omega)
      rw [e3]
      refine ⟨by omega, fun _ => by omega, fun z => absurd (Or.inl ⟨q, ?_⟩) z⟩
      omega
    · have e3 : zM n b true (b s - 48) (s + 1) = 0 := by rw [zM_f y]; omega
      have e4 : zC n b 0 s = 0 := by rw [e1, zC_f y]; omega
      have e5 : zD n b s = s + 1 := by rw [e2, zD_f y]
      rw [e3, e4, e5]
      refine ⟨by omega, ?_, fun _ => rfl⟩
      rintro (⟨-, z⟩ | z) <;> omega
  · rw [decide_eq_false q]
    have m := zM_C (n := n) (b := b) (n - (s + 1)) (b s - 48) (s + 1) (by omega) (by omega)
    rw [← e1] at m
    refine ⟨m.2, ?_, ?_⟩
    · rintro (⟨z, -⟩ | z)
      · exact absurd z q
      · omega
    · intro z
      have : ¬ 99 < zC n b 0 s := fun w => z (Or.inr w)
      omega
/-! ITEMS -/
def ssn (c : Nat) : Nat := if c = 109 then 0 else if c = 115 then 1 else if c = 119 then 2 else 3
def updN (s : Nat → Nat) (j v : Nat) : Nat → Nat := fun k => if k = j then v else s k
def yr (n : Nat) (b : Nat → Nat) : Nat → Nat → (Nat → Nat) → Nat → Nat × (Nat → Nat) × Nat
  | 0, N, s, p => (N, s, p)
  | k + 1, N, s, p => if zK n b p = 1 ∧ ssn (zV n b p) ≤ 2 then yr n b k (N + 1) (updN s N (ssn (zV n b p))) (zE n b p) else (N, s, p)
def mxN (i : Nat) : Nat := if i = 0 then 20 else if i = 1 then 20 else if i = 2 then 30 else if i = 3 then 3 else 63
def nOk (n : Nat) (b : Nat → Nat) (p i : Nat) : Prop := zK n b p = 2 ∧ zV n b p ≤ mxN i
/-- the numbers from the i-th on: whether all are there, what they are, where it ends -/
noncomputable def fm (n : Nat) (b : Nat → Nat) : Nat → Nat → (Nat → Nat) → Nat → Bool × (Nat → Nat) × Nat
  | 0, _, r, p => (true, r, p)
  | k + 1, i, r, p => if zK n b p = 2 ∧ zV n b p ≤ mxN i then fm n b k (i + 1) (updN r i (zV n b p)) (zE n b p) else (false, r, p)
abbrev PS : Type := TD × Bool
def pN (s : PS) (N : Nat) (S : Nat → Nat) : PS := ((N, tF s.1, S, tQ s.1, tW s.1), s.2)
def pF (s : PS) (r : Nat → Nat) : PS := ((tN s.1, tF s.1 + 1, tS s.1, (fun f => if f = tF s.1 then r else tQ s.1 f), tW s.1), s.2)
def pW (s : PS) (w : Nat) : PS := ((tN s.1, tF s.1, tS s.1, tQ s.1, w), true)
noncomputable def itm (n : Nat) (b : Nat → Nat) (i : Nat) (s : PS) (p : Nat) : Bool × PS × Nat :=
  if zK n b p ≠ 1 then (false, s, p)
  else if zV n b p = 116 then (if i ≠ 0 then (false, s, p) else
    (decide (zK n b (yr n b 6 0 (tS s.1) (zE n b p)).2.2 = 3), pN s (yr n b 6 0 (tS s.1) (zE n b p)).1 (yr n b 6 0 (tS s.1) (zE n b p)).2.1, (yr n b 6 0 (tS s.1) (zE n b p)).2.2))
  else if zV n b p = 102 then (if tF s.1 = 5 then (false, s, p) else
    if (fm n b 5 0 (fun _ => 0) (zE n b p)).1 = true then (decide (zK n b (fm n b 5 0 (fun _ => 0) (zE n b p)).2.2 = 3), pF s (fm n b 5 0 (fun _ => 0) (zE n b p)).2.1, (fm n b 5 0 (fun _ => 0) (zE n b p)).2.2)
    else (false, s, (fm n b 5 0 (fun _ => 0) (zE n b p)).2.2))
  else if zV n b p = 104 then (if s.2 = true then (false, s, p) else
    if zK n b (zE n b p) = 2 ∧ zV n b (zE n b p) ≤ 63 then (decide (zK n b (zE n b (zE n b p)) = 3), pW s (zV n b (zE n b p)), zE n b (zE n b p))
    else (false, s, zE n b p))
  else (false, s, p)
noncomputable def rdI (n : Nat) (b : Nat → Nat) : Nat → Nat → PS → Nat → Bool × Nat × PS × Nat
  | 0, i, s, p => (true, i, s, p)
  | k + 1, i, s, p => if zK n b p = 0 then (true, i, s, p) else if (itm n b i s p).1 = true then rdI n b k (i + 1) (itm n b i s p).2.1 (zE n b (itm n b i s p).2.2) else (false, i, (itm n b i s p).2.1, (itm n b i s p).2.2)
