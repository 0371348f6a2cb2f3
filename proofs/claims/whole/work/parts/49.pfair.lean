/-! ===== FAIR: plain ===== -/
def bett (T : TD) (S : Int32 × Int32 × Nat) (c : Nat) : Prop := S.1 < mnL T (wy T c) (tF T) ∨ (mnL T (wy T c) (tF T) = S.1 ∧ S.2.1 < nI (jyA T (wy T c)))
noncomputable def frC (T : TD) : Nat → Int32 × Int32 × Nat
  | 0 => (-1000000, -1000000, 0)
  | c + 1 => if isWy T c = true ∧ (frC T c).1 < mnL T (wy T c) (tF T) ∨ isWy T c = true ∧ (mnL T (wy T c) (tF T) = (frC T c).1 ∧ (frC T c).2.1 < nI (jyA T (wy T c))) then (mnL T (wy T c) (tF T), nI (jyA T (wy T c)), c) else frC T c
theorem frC_t {T : TD} {c : Nat} (h : isWy T c = true) (hb : bett T (frC T c) c) : frC T (c + 1) = (mnL T (wy T c) (tF T), nI (jyA T (wy T c)), c) := by
  show (if _ then _ else _) = _
  rw [if_pos]
  rcases hb with hb | hb
  · exact Or.inl ⟨h, hb⟩
  · exact Or.inr ⟨h, hb⟩
theorem frC_f {T : TD} {c : Nat} (h : ¬ (isWy T c = true ∧ bett T (frC T c) c)) : frC T (c + 1) = frC T c := by
  show (if _ then _ else _) = _
  rw [if_neg]
  rintro (⟨h1, h2⟩ | ⟨h1, h2⟩)
  · exact h ⟨h1, Or.inl h2⟩
  · exact h ⟨h1, Or.inr h2⟩
theorem NOi : (-1000000 : Int32).toInt = -1000000 := by decide
theorem mn_rng {T : TD} (hT : tOk T) (hF : 0 < tF T) (c : Nat) : -30 ≤ (mnL T (wy T c) (tF T)).toInt ∧ (mnL T (wy T c) (tF T)).toInt ≤ 120 := by
  obtain ⟨k, hk⟩ : ∃ k, tF T = k + 1 := ⟨tF T - 1, by omega⟩
  have := mnL_lt hT (fun t => wy_lt (T := T) c t) (k := k) (by omega)
  rw [hk]
  exact ⟨this.2, this.1⟩
theorem jw_rng {T : TD} (hT : tOk T) (c : Nat) : jyA T (wy T c) ≤ 120 := jyA_le hT (fun t => wy_lt (T := T) c t)
theorem frC_rng {T : TD} (hT : tOk T) (hF : 0 < tF T) : ∀ c, (-1000000 ≤ (frC T c).1.toInt ∧ (frC T c).1.toInt ≤ 120) ∧ (-1000000 ≤ (frC T c).2.1.toInt ∧ (frC T c).2.1.toInt ≤ 120)
  | 0 => by
    have e : frC T 0 = (-1000000, -1000000, 0) := rfl
    rw [e]
    show (-1000000 ≤ (-1000000 : Int32).toInt ∧ (-1000000 : Int32).toInt ≤ 120) ∧ (-1000000 ≤ (-1000000 : Int32).toInt ∧ (-1000000 : Int32).toInt ≤ 120)
    rw [NOi]
    omega
  | c + 1 => by
    have ih := frC_rng hT hF c
    by_cases h : isWy T c = true ∧ bett T (frC T c) c
    · rw [frC_t h.1 h.2]
      have h1 := mn_rng hT hF c
      have h2 := jw_rng hT c
      show (-1000000 ≤ (mnL T (wy T c) (tF T)).toInt ∧ (mnL T (wy T c) (tF T)).toInt ≤ 120) ∧ (-1000000 ≤ (nI (jyA T (wy T c))).toInt ∧ (nI (jyA T (wy T c))).toInt ≤ 120)
      rw [nI_toInt (by omega)]
      omega
    · rw [frC_f h]
      exact ih
theorem fr_eq {T : TD} (hT : tOk T) (hF : 0 < tF T) : ∀ c, frC T (c + 1) = frS T (c + 1)
  | 0 => by
    have h1 := mn_rng hT hF 0
    have hl : (-1000000 : Int32) < mnL T (wy T 0) (tF T) := by rw [i_lt, NOi]; omega
    rw [frC_t (isWy_0 T) (Or.inl hl)]
    show _ = (if _ then _ else _)
    rw [if_pos ⟨isWy_0 T, Or.inl hl⟩]
  | c + 1 => by
    have ih := fr_eq hT hF c
    by_cases h : isWy T (c + 1) = true ∧ bett T (frC T (c + 1)) (c + 1)
    · rw [frC_t h.1 h.2]
      show _ = (if _ then _ else _)
      rw [if_pos]
      refine ⟨h.1, ?_⟩
      have := h.2
      rw [ih] at this
      exact this
    · rw [frC_f h]
      show _ = (if _ then _ else _)
      rw [if_neg, ih]
      intro q
      apply h
      refine ⟨q.1, ?_⟩
      rw [ih]
      exact q.2
theorem frC_skip {T : TD} {c : Nat} : ∀ {m : Nat}, (∀ i, c ≤ i → i < c + m → isWy T i = true → ¬ bett T (frC T c) i) → frC T (c + m) = frC T c
  | 0, _ => rfl
  | m + 1, h => by
    have ih := frC_skip (T := T) (c := c) (m := m) (fun i h1 h2 => h i h1 (by omega))
    show frC T (c + m + 1) = _
    rw [frC_f, ih]
    rintro ⟨h1, h2⟩
    rw [ih] at h2
    exact h (c + m) (by omega) (by omega) h1 h2
theorem mnL_ge {T : TD} {w : Nat → Nat} {W : Int} (hW : W ≤ 1000000) : ∀ {k : Nat}, W ≤ (mnL T w k).toInt ↔ ∀ f, f < k → W ≤ (lf T w f).toInt
  | 0 => by
    have e : (mnL T w 0).toInt = 1000000 := by show (1000000 : Int32).toInt = _; decide
    rw [e]
    exact ⟨fun _ f hf => absurd hf (Nat.not_lt_zero _), fun _ => hW⟩
  | k + 1 => by
    have ih := mnL_ge (T := T) (w := w) hW (k := k)
    have e : mnL T w (k + 1) = if lf T w k < mnL T w k then lf T w k else mnL T w k := rfl
    rw [e]
    by_cases h : lf T w k < mnL T w k
    · rw [if_pos h]
      have h' := i_lt.mp h
      constructor
      · intro q f hf
        by_cases z : f = k
        · rw [z]; exact q
        · exact ih.mp (by omega) f (by omega)
      · intro q
        exact q k (by omega)
    · rw [if_neg h]
      have h' : (mnL T w k).toInt ≤ (lf T w k).toInt := i_le.mp (Int32.not_lt.mp h)
      constructor
      · intro q f hf
        by_cases z : f = k
        · rw [z]; omega
        · exact ih.mp q f (by omega)
      · intro q
        exact ih.mpr (fun f hf => q f (by omega))
/-! sums over the last TURNS -/
def sG (g : Nat → Nat) (n : Nat) : Nat → Nat
  | 0 => 0
  | k + 1 => g (n - 1 - k) + sG g n k
theorem sG_sum {g : Nat → Nat} {n : Nat} : ∀ {k : Nat}, k ≤ n → sumN g (n - k) + sG g n k = sumN g n
  | 0, _ => rfl
  | k + 1, h => by
    have ih := sG_sum (g := g) (n := n) (k := k) (by omega)
    rw [show n - k = (n - (k + 1)) + 1 by omega] at ih
    have e : sumN g (n - (k + 1) + 1) = sumN g (n - (k + 1)) + g (n - (k + 1)) := rfl
    rw [e] at ih
    show sumN g (n - (k + 1)) + (g (n - 1 - k) + sG g n k) = _
    rw [show n - 1 - k = n - (k + 1) by omega]
    omega
theorem sG_le {g h : Nat → Nat} {n : Nat} : ∀ {k : Nat}, k ≤ n → (∀ u, n ≤ u + k → u < n → g u ≤ h u) → sG g n k ≤ sG h n k
  | 0, _, _ => Nat.le_refl _
  | k + 1, hk, hg => by
    have ih := sG_le (g := g) (h := h) (n := n) (k := k) (by omega) (fun u h1 h2 => hg u (by omega) h2)
    have := hg (n - 1 - k) (by omega) (by omega)
    show g _ + sG g n k ≤ h _ + sG h n k
    omega
theorem sG_zero {n : Nat} : ∀ {k : Nat}, sG (fun _ => 0) n k = 0
  | 0 => rfl
  | k + 1 => by
    show 0 + sG (fun _ => 0) n k = 0
    rw [sG_zero]
theorem sG_pos {g h : Nat → Nat} {n : Nat} : ∀ {k : Nat}, k ≤ n → (∀ u, n ≤ u + k → u < n → 0 < g u → 1 ≤ h u) → 0 < sG g n k → 1 ≤ sG h n k
  | 0, _, _, h0 => absurd h0 (Nat.lt_irrefl _)
  | k + 1, hk, hg, h0 => by
    have h0' : 0 < g (n - 1 - k) + sG g n k := h0
    show 1 ≤ h _ + sG h n k
    by_cases q : 0 < g (n - 1 - k)
    · have := hg (n - 1 - k) (by omega) (by omega) q
      omega
    · have := sG_pos (g := g) (h := h) (n := n) (k := k) (by omega) (fun u h1 h2 => hg u (by omega) h2) (by omega)
      omega
def whF (T : TD) (k f : Nat) : Nat := sG (fun u => jy1 T u (f + 1) 0) (tN T) k
def opF (T : TD) (k : Nat) : Nat := sG (fun u => if tS T u = 2 then 0 else 1) (tN T) k
theorem jy1_whole {T : TD} {u f b : Nat} : jy1 T u (f + 1) b ≤ jy1 T u (f + 1) 0 := by
  unfold jy1
  by_cases h : f + 1 = 0 ∨ tS T u = 2
  · rw [if_pos h, if_pos h]; exact Nat.le_refl _
  · rw [if_neg h, if_neg h]
    rw [if_neg (show ¬ f + 1 = 0 by omega)]
    split
    · exact Nat.div_le_self _ _
    · exact Nat.le_refl _
/-- how many are below, of the first FAMILIES -/
def blw (l : Nat → Int32) (W : Int32) : Nat → Nat
  | 0 => 0
  | f + 1 => blw l W f + if l f < W then 1 else 0
def gdA (l wh : Nat → Int32) (W : Int32) : Nat → Bool
  | 0 => true
  | f + 1 => gdA l wh W f && !(decide (l f < W) && decide (l f + wh f < W))
theorem gdA_iff {l wh : Nat → Int32} {W : Int32} : ∀ {n : Nat}, gdA l wh W n = true ↔ ∀ f, f < n → ¬ (l f < W ∧ l f + wh f < W)
  | 0 => ⟨fun _ f hf => absurd hf (Nat.not_lt_zero _), fun _ => rfl⟩
  | n + 1 => by
    have ih := gdA_iff (l := l) (wh := wh) (W := W) (n := n)
    show (gdA l wh W n && !(decide (l n < W) && decide (l n + wh n < W))) = true ↔ _
    rw [Bool.and_eq_true, ih]
    constructor
    · rintro ⟨h1, h2⟩ f hf
      by_cases q : f = n
      · subst q
        intro z
        simp [z.1, z.2] at h2
      · exact h1 f (by omega)
    · intro h
      refine ⟨fun f hf => h f (by omega), ?_⟩
      have := h n (by omega)
      by_cases z : l n < W
      · have z2 : ¬ l n + wh n < W := fun q => this ⟨z, q⟩
        simp [z2]
      · simp [z]
theorem blw_le {l : Nat → Int32} {W : Int32} {c : Nat → Nat} : ∀ {n : Nat}, (∀ f, f < n → l f < W → 1 ≤ c f) → blw l W n ≤ sumN c n
  | 0, _ => Nat.le_refl _
  | n + 1, h => by
    have ih := blw_le (l := l) (W := W) (c := c) (n := n) (fun f hf => h f (by omega))
    show blw l W n + (if l n < W then 1 else 0) ≤ sumN c n + c n
    by_cases q : l n < W
    · have := h n (by omega) q
      rw [if_pos q]
      omega
    · rw [if_neg q]
      omega
theorem one_le {a c : Nat} : ∀ n, sumN (fun f => if a = f + 1 then c else 0) n ≤ c
  | n => by
    have key : ∀ n, sumN (fun f => if a = f + 1 then c else 0) n = if 1 ≤ a ∧ a ≤ n then c else 0 := by
      intro n
      induction n with
      | zero => rw [if_neg (by omega)]; rfl
      | succ n ih =>
        show sumN _ n + (if a = n + 1 then c else 0) = _
        rw [ih]
        by_cases h1 : a = n + 1
        · rw [if_neg (by omega), if_pos h1, if_pos (by omega)]; omega
        · by_cases h2 : 1 ≤ a ∧ a ≤ n
          · rw [if_pos h2, if_neg h1, if_pos (by omega)]; omega
          · rw [if_neg h2, if_neg h1, if_neg (by omega)]
    rw [key]
    split <;> omega
theorem cnt_op {T : TD} {w : Nat → Nat} {m : Nat} : ∀ {k : Nat}, sumN (fun f => sG (fun u => if w u = f + 1 then (if tS T u = 2 then 0 else 1) else 0) (tN T) k) m ≤ opF T k
  | 0 => by
    have : sumN (fun f => sG (fun u => if w u = f + 1 then (if tS T u = 2 then 0 else 1) else 0) (tN T) 0) m = sumN (fun _ => 0) m := rfl
    rw [this]
    have z : ∀ m, sumN (fun _ => 0) m = 0 := fun m => by
      induction m with
      | zero => rfl
      | succ m ih => show sumN (fun _ => 0) m + 0 = 0; omega
    rw [z]
    exact Nat.zero_le _
  | k + 1 => by
    have ih := cnt_op (T := T) (w := w) (m := m) (k := k)
    have e : (fun f => sG (fun u => if w u = f + 1 then (if tS T u = 2 then 0 else 1) else 0) (tN T) (k + 1)) = (fun f => (if w (tN T - 1 - k) = f + 1 then (if tS T (tN T - 1 - k) = 2 then 0 else 1) else 0) + sG (fun u => if w u = f + 1 then (if tS T u = 2 then 0 else 1) else 0) (tN T) k) := rfl
    rw [e, sumN_add]
    have := one_le (a := w (tN T - 1 - k)) (c := if tS T (tN T - 1 - k) = 2 then 0 else 1) m
    show _ ≤ (if tS T (tN T - 1 - k) = 2 then 0 else 1) + opF T k
    omega
