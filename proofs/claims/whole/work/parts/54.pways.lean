/-! ===== WAYS: plain ===== -/
def okP (T : TD) (loc : Nat → Nat → Bool) : Nat → Nat → Bool
  | 0, _ => true
  | t + 1, q => okP T loc t (q / wyB T) && (loc t (q % wyB T) && (decide (q % wyB T = 0) || decide (q % wyB T ≠ q / wyB T % wyB T)))
theorem cnt_congr {p p' : Nat → Bool} : ∀ {n : Nat}, (∀ i, i < n → p i = p' i) → cnt p n = cnt p' n
  | 0, _ => rfl
  | n + 1, h => by
    show cnt p n + _ = cnt p' n + _
    rw [cnt_congr (n := n) (fun i hi => h i (by omega)), h n (by omega)]
theorem cnt_false {p : Nat → Bool} : ∀ {n : Nat}, (∀ i, i < n → p i = false) → cnt p n = 0
  | 0, _ => rfl
  | n + 1, h => by
    show cnt p n + _ = 0
    rw [cnt_false (n := n) (fun i hi => h i (by omega)), h n (by omega)]
    rfl
theorem cnt_add {p : Nat → Bool} {a : Nat} : ∀ b, cnt p (a + b) = cnt p a + cnt (fun i => p (a + i)) b
  | 0 => rfl
  | b + 1 => by
    have ih := cnt_add (p := p) (a := a) b
    show cnt p (a + b) + (if p (a + b) = true then 1 else 0) = cnt p a + (cnt (fun i => p (a + i)) b + (if p (a + b) = true then 1 else 0))
    rw [ih]
    omega
theorem cnt_blk {p : Nat → Bool} {B : Nat} : ∀ M, cnt p (M * B) = sumN (fun q => cnt (fun g => p (q * B + g)) B) M
  | 0 => by rw [Nat.zero_mul]; rfl
  | M + 1 => by
    rw [Nat.add_mul, Nat.one_mul, cnt_add, cnt_blk M]
    rfl
theorem cnt_sum {p : Nat → Bool} : ∀ n, cnt p n = sumN (fun q => if p q = true then 1 else 0) n
  | 0 => rfl
  | n + 1 => by
    show cnt p n + _ = sumN _ n + _
    rw [cnt_sum n]
theorem cnt_one {p : Nat → Bool} {g : Nat} : ∀ {B : Nat}, g < B → (∀ i, i < B → i ≠ g → p i = false) → cnt p B = if p g = true then 1 else 0
  | 0, h, _ => absurd h (Nat.not_lt_zero _)
  | B + 1, h, hp => by
    show cnt p B + _ = _
    by_cases q : g = B
    · subst q
      rw [cnt_false (fun i hi => hp i (by omega) (by omega)), Nat.zero_add]
    · rw [cnt_one (B := B) (by omega) (fun i hi => hp i (by omega)), hp B (by omega) (fun e => q e.symm)]
      simp
theorem cnt_split {p r : Nat → Bool} : ∀ n, cnt p n = cnt (fun i => p i && r i) n + cnt (fun i => p i && !r i) n
  | 0 => rfl
  | n + 1 => by
    show cnt p n + (if p n = true then 1 else 0) = (cnt (fun i => p i && r i) n + (if (p n && r n) = true then 1 else 0)) + (cnt (fun i => p i && !r i) n + (if (p n && !r n) = true then 1 else 0))
    rw [cnt_split (p := p) (r := r) n]
    generalize cnt (fun i => p i && r i) n = x
    generalize cnt (fun i => p i && !r i) n = y
    cases p n <;> cases r n <;> simp <;> omega
theorem cnt_all {p r : Nat → Bool} {n : Nat} : cnt (fun i => p i && r i) n = cnt p n ↔ ∀ i, i < n → p i = true → r i = true := by
  have e := cnt_split (p := p) (r := r) n
  constructor
  · intro h
    have h0 : cnt (fun i => p i && !r i) n = 0 := by omega
    have key : ∀ {p : Nat → Bool} {n : Nat}, cnt p n = 0 → ∀ i, i < n → p i = false := by
      intro p n
      induction n with
      | zero => intro _ i hi; exact absurd hi (Nat.not_lt_zero _)
      | succ n ih =>
        intro h i hi
        have h' : cnt p n + (if p n = true then 1 else 0) = 0 := h
        by_cases q : i = n
        · subst q
          cases hp : p i with
          | false => rfl
          | true => rw [hp] at h'; simp at h'
        · exact ih (by omega) i (by omega)
    intro i hi hp
    have := key h0 i hi
    rw [hp] at this
    simpa using this
  · intro h
    have h0 : cnt (fun i => p i && !r i) n = 0 := cnt_false (fun i hi => by
      cases hp : p i with
      | false => simp
      | true => simp [h i hi hp])
    omega
theorem cnt_pos {p : Nat → Bool} : ∀ {n : Nat}, 0 < cnt p n ↔ ∃ i, i < n ∧ p i = true
  | 0 => ⟨fun h => absurd h (Nat.lt_irrefl _), fun ⟨i, h, _⟩ => absurd h (Nat.not_lt_zero _)⟩
  | n + 1 => by
    have ih := cnt_pos (p := p) (n := n)
    show 0 < cnt p n + (if p n = true then 1 else 0) ↔ _
    constructor
    · intro h
      by_cases q : p n = true
      · exact ⟨n, by omega, q⟩
      · rw [if_neg q] at h
        obtain ⟨i, h1, h2⟩ := ih.mp (by omega)
        exact ⟨i, by omega, h2⟩
    · rintro ⟨i, h1, h2⟩
      by_cases q : i = n
      · subst q; rw [if_pos h2]; omega
      · have := ih.mpr ⟨i, by omega, h2⟩
        omega
def eN (T : TD) (loc : Nat → Nat → Bool) (t : Nat) : Nat := cnt (okP T loc t) (wyB T ^ t)
def eG (T : TD) (loc : Nat → Nat → Bool) (t g : Nat) : Nat := cnt (fun q => okP T loc t q && decide (q % wyB T = g)) (wyB T ^ t)
theorem eG_0 (T : TD) (loc : Nat → Nat → Bool) (g : Nat) : eG T loc 0 g = if g = 0 then 1 else 0 := by
  show cnt _ (0 + 1) = _
  show 0 + (if (true && decide (0 % wyB T = g)) = true then 1 else 0) = _
  rw [Nat.zero_mod]
  by_cases h : g = 0
  · subst h; rfl
  · rw [if_neg h, if_neg]
    simp
    omega
theorem eG_s {T : TD} {loc : Nat → Nat → Bool} {t g : Nat} (hg : g < wyB T) : eG T loc (t + 1) g = if loc t g = true then (if g = 0 then eN T loc t else eN T loc t - eG T loc t g) else 0 := by
  have hB := wyB_pos T
  unfold eG
  rw [show wyB T ^ (t + 1) = wyB T ^ t * wyB T from Nat.pow_succ _ _, cnt_blk]
  have e : ∀ q, cnt (fun g' => okP T loc (t + 1) (q * wyB T + g') && decide ((q * wyB T + g') % wyB T = g)) (wyB T) = if (okP T loc t q && (loc t g && (decide (g = 0) || decide (g ≠ q % wyB T)))) = true then 1 else 0 := fun q => by
    have md : ∀ g', g' < wyB T → (q * wyB T + g') % wyB T = g' := fun g' h => by rw [Nat.mul_add_mod_self_right]; exact Nat.mod_eq_of_lt h
    have dv : ∀ g', g' < wyB T → (q * wyB T + g') / wyB T = q := fun g' h => by rw [Nat.add_comm, Nat.add_mul_div_right _ _ hB, Nat.div_eq_of_lt h, Nat.zero_add]
    rw [cnt_one (g := g) hg (fun i hi hne => by rw [md i hi]; simp [hne])]
    show (if (okP T loc t ((q * wyB T + g) / wyB T) && (loc t ((q * wyB T + g) % wyB T) && (decide ((q * wyB T + g) % wyB T = 0) || decide ((q * wyB T + g) % wyB T ≠ (q * wyB T + g) / wyB T % wyB T))) && decide ((q * wyB T + g) % wyB T = g)) = true then 1 else 0) = _
    rw [md g hg, dv g hg]
    simp
  rw [sumN_congr (fun q _ => e q), ← cnt_sum]
  by_cases h1 : loc t g = true
  · rw [if_pos h1]
    by_cases h2 : g = 0
    · rw [if_pos h2]
      refine cnt_congr (fun q _ => ?_)
      subst h2
      simp [h1]
    · rw [if_neg h2]
      have sp := cnt_split (p := okP T loc t) (r := fun q => decide (q % wyB T = g)) (wyB T ^ t)
      have e2 : cnt (fun q => okP T loc t q && (loc t g && (decide (g = 0) || decide (g ≠ q % wyB T)))) (wyB T ^ t) = cnt (fun q => okP T loc t q && !decide (q % wyB T = g)) (wyB T ^ t) := cnt_congr (fun q _ => by
        by_cases z : q % wyB T = g
        · simp [h1, h2, z]
        · have z' : ¬ g = q % wyB T := fun e => z e.symm
          simp [h1, h2, z, z'])
      rw [e2]
      unfold eN
      omega
  · rw [if_neg h1]
    exact cnt_false (fun q _ => by simp [h1])
theorem eG_hi {T : TD} {loc : Nat → Nat → Bool} {t g : Nat} (hg : wyB T ≤ g) : eG T loc t g = 0 := cnt_false (fun q _ => by
  have := Nat.mod_lt q (wyB_pos T)
  have h : ¬ q % wyB T = g := by omega
  simp [h])
theorem eG_sum {T : TD} {loc : Nat → Nat → Bool} {t m : Nat} (hm : wyB T ≤ m) : sumN (eG T loc t) m = eN T loc t := by
  unfold eN
  have key : ∀ n, sumN (fun g => cnt (fun q => okP T loc t q && decide (q % wyB T = g)) n) m = cnt (okP T loc t) n := by
    intro n
    induction n with
    | zero =>
      have z : ∀ m, sumN (fun _ => 0) m = 0 := fun m => by
        induction m with
        | zero => rfl
        | succ m ih => show sumN (fun _ => 0) m + 0 = 0; omega
      exact z m
    | succ n ih =>
      have e : (fun g => cnt (fun q => okP T loc t q && decide (q % wyB T = g)) (n + 1)) = (fun g => cnt (fun q => okP T loc t q && decide (q % wyB T = g)) n + if (okP T loc t n && decide (n % wyB T = g)) = true then 1 else 0) := rfl
      rw [e, sumN_add, ih]
      show _ = cnt (okP T loc t) n + _
      congr 1
      have hl := Nat.mod_lt n (wyB_pos T)
      have : ∀ m, sumN (fun g => if (okP T loc t n && decide (n % wyB T = g)) = true then 1 else 0) m = if okP T loc t n = true ∧ n % wyB T < m then 1 else 0 := by
        intro m
        induction m with
        | zero => rw [if_neg (by omega)]; rfl
        | succ m ihm =>
          show sumN _ m + _ = _
          rw [ihm]
          cases okP T loc t n with
          | false => simp
          | true =>
            by_cases h1 : n % wyB T = m
            · rw [if_neg (fun z => absurd z.2 (by omega)), if_pos ⟨rfl, by omega⟩]; simp [h1]
            · by_cases h2 : n % wyB T < m
              · rw [if_pos ⟨rfl, h2⟩, if_pos ⟨rfl, by omega⟩]; simp [h1]
              · rw [if_neg (fun z => absurd z.2 (by omega)), if_neg (fun z => absurd z.2 (by omega))]; simp [h1]
      rw [this]
      cases okP T loc t n with
      | false => simp
      | true => rw [if_pos ⟨rfl, by omega⟩]; rfl
  exact key _
/-- what is asked of a way, by its figures -/
theorem okP_iff {T : TD} {loc : Nat → Nat → Bool} : ∀ {t q : Nat}, q < wyB T ^ t → (okP T loc t q = true ↔ ∀ u, u < t → loc u (pD T t q u) = true ∧ (pD T t q u = 0 ∨ pD T t q u ≠ jyB (pD T t q) u))
  | 0, _, _ => ⟨fun _ u hu => absurd hu (Nat.not_lt_zero _), fun _ => rfl⟩
  | t + 1, q, hq => by
    have hB := wyB_pos T
    have hq2 : q / wyB T < wyB T ^ t := by
      rw [Nat.div_lt_iff_lt_mul hB, ← Nat.pow_succ]
      exact hq
    have hl := Nat.mod_lt q hB
    have ih := okP_iff (T := T) (loc := loc) (t := t) (q := q / wyB T) hq2
    have eq : q / wyB T * wyB T + q % wyB T = q := by rw [Nat.mul_comm]; exact Nat.div_add_mod q (wyB T)
    have p1 : ∀ u, u < t → pD T (t + 1) q u = pD T t (q / wyB T) u := fun u hu => by
      have := pD_s (T := T) (t := t) (q := q / wyB T) (g := q % wyB T) hl hu
      rw [eq] at this
      exact this
    have p2 : pD T (t + 1) q t = q % wyB T := by
      have := pD_t (T := T) (t := t) (q := q / wyB T) (g := q % wyB T) hl
      rw [eq] at this
      exact this
    have p3 : ∀ u, u ≤ t → jyB (pD T (t + 1) q) u = jyB (pD T t (q / wyB T)) u := fun u hu => by
      unfold jyB
      by_cases h : 0 < u
      · rw [if_pos h, if_pos h, p1 _ (by omega)]
      · rw [if_neg h, if_neg h]
    have p4 : jyB (pD T t (q / wyB T)) t = q / wyB T % wyB T := by
      unfold jyB
      by_cases h : 0 < t
      · rw [if_pos h]
        unfold pD
        rw [if_pos (by omega), show t - 1 - (t - 1) = 0 by omega, Nat.pow_zero, Nat.div_one]
      · have : t = 0 := by omega
        subst this
        rw [if_neg h]
        rw [Nat.pow_zero] at hq2
        have : q / wyB T = 0 := Nat.lt_one_iff.mp hq2
        rw [this, Nat.zero_mod]
    show (okP T loc t (q / wyB T) && (loc t (q % wyB T) && (decide (q % wyB T = 0) || decide (q % wyB T ≠ q / wyB T % wyB T)))) = true ↔ _
    rw [Bool.and_eq_true, Bool.and_eq_true, Bool.or_eq_true, decide_eq_true_eq, decide_eq_true_eq, ih]
    constructor
    · rintro ⟨h1, h2, h3⟩ u hu
      by_cases e : u = t
      · subst e
        rw [p2, p3 _ (Nat.le_refl _), p4]
        exact ⟨h2, h3⟩
      · rw [p1 u (by omega), p3 u (by omega)]
        exact h1 u (by omega)
    · intro h
      have ht := h t (by omega)
      rw [p2, p3 _ (Nat.le_refl _), p4] at ht
      refine ⟨fun u hu => ?_, ht.1, ht.2⟩
      have := h u (by omega)
      rw [p1 u hu, p3 u (by omega)] at this
      exact this
/-! what was SEEN -/
def agB (T : TD) (st sr : Nat → Nat) (t g : Nat) : Nat → Bool
  | 0 => true
  | k + 1 => agB T st sr t g k && (decide (st k ≠ t) || (decide (g ≠ 0) && decide (tQ T (g - 1) 3 = sr k)))
theorem agB_iff {T : TD} {st sr : Nat → Nat} {t g : Nat} : ∀ {m : Nat}, agB T st sr t g m = true ↔ ∀ k, k < m → st k ≠ t ∨ (g ≠ 0 ∧ tQ T (g - 1) 3 = sr k)
  | 0 => ⟨fun _ k hk => absurd hk (Nat.not_lt_zero _), fun _ => rfl⟩
  | m + 1 => by
    have ih := agB_iff (T := T) (st := st) (sr := sr) (t := t) (g := g) (m := m)
    show (agB T st sr t g m && (decide (st m ≠ t) || (decide (g ≠ 0) && decide (tQ T (g - 1) 3 = sr m)))) = true ↔ _
    rw [Bool.and_eq_true, Bool.or_eq_true, Bool.and_eq_true, decide_eq_true_eq, decide_eq_true_eq, decide_eq_true_eq, ih]
    constructor
    · rintro ⟨h1, h2⟩ k hk
      by_cases e : k = m
      · subst e; exact h2
      · exact h1 k (by omega)
    · intro h
      exact ⟨fun k hk => h k (by omega), h m (by omega)⟩
def locB (T : TD) (st sr : Nat → Nat) (m : Nat) (t g : Nat) : Bool := decide (g ≤ lastW T t) && agB T st sr t g m
def locF (T : TD) (st sr : Nat → Nat) (m : Nat) (u f : Nat) (t g : Nat) : Bool := locB T st sr m t g && (decide (t ≠ u) || decide (g = f + 1))
/-- the reference's question -/
def adB (w : Nat → Nat) : Nat → Bool
  | 0 => true
  | t + 1 => adB w t && (decide (w t = 0) || decide (w t ≠ jyB w t))
theorem adB_iff {w : Nat → Nat} : ∀ {n : Nat}, adB w n = true ↔ ∀ t, t < n → w t = 0 ∨ w t ≠ jyB w t
  | 0 => ⟨fun _ t ht => absurd ht (Nat.not_lt_zero _), fun _ => rfl⟩
  | n + 1 => by
    have ih := adB_iff (w := w) (n := n)
    show (adB w n && (decide (w n = 0) || decide (w n ≠ jyB w n))) = true ↔ _
    rw [Bool.and_eq_true, Bool.or_eq_true, decide_eq_true_eq, decide_eq_true_eq, ih]
    constructor
    · rintro ⟨h1, h2⟩ t ht
      by_cases e : t = n
      · subst e; exact h2
      · exact h1 t (by omega)
    · intro h
      exact ⟨fun t ht => h t (by omega), h n (by omega)⟩
def seB (T : TD) (w st sr : Nat → Nat) : Nat → Bool
  | 0 => true
  | k + 1 => seB T w st sr k && (decide (w (st k) ≠ 0) && decide (tQ T (w (st k) - 1) 3 = sr k))
theorem seB_iff {T : TD} {w st sr : Nat → Nat} : ∀ {m : Nat}, seB T w st sr m = true ↔ ∀ k, k < m → w (st k) ≠ 0 ∧ tQ T (w (st k) - 1) 3 = sr k
  | 0 => ⟨fun _ k hk => absurd hk (Nat.not_lt_zero _), fun _ => rfl⟩
  | m + 1 => by
    have ih := seB_iff (T := T) (w := w) (st := st) (sr := sr) (m := m)
    show (seB T w st sr m && (decide (w (st m) ≠ 0) && decide (tQ T (w (st m) - 1) 3 = sr m))) = true ↔ _
    rw [Bool.and_eq_true, Bool.and_eq_true, decide_eq_true_eq, decide_eq_true_eq, ih]
    constructor
    · rintro ⟨h1, h2⟩ k hk
      by_cases e : k = m
      · subst e; exact h2
      · exact h1 k (by omega)
    · intro h
      exact ⟨fun k hk => h k (by omega), h m (by omega)⟩
def wOk (T : TD) (st sr : Nat → Nat) (m c : Nat) : Bool := isWy T c && (adB (wy T c) (tN T) && seB T (wy T c) st sr m)
theorem wOk_eq {T : TD} {st sr : Nat → Nat} {m c : Nat} (hc : c < wyN T) (hs : ∀ k, k < m → st k < tN T) : wOk T st sr m c = okP T (locB T st sr m) (tN T) c := by
  rw [Bool.eq_iff_iff, okP_iff hc, ← wy_leaf]
  unfold wOk
  rw [Bool.and_eq_true, Bool.and_eq_true, isWy_v, adB_iff, seB_iff]
  constructor
  · rintro ⟨h1, h2, h3⟩ u hu
    refine ⟨?_, h2 u hu⟩
    unfold locB
    rw [Bool.and_eq_true, decide_eq_true_eq, agB_iff]
    refine ⟨h1 u hu, fun k hk => ?_⟩
    by_cases e : st k = u
    · right
      subst e
      exact h3 k hk
    · exact Or.inl e
  · intro h
    refine ⟨fun u hu => ?_, fun u hu => (h u hu).2, fun k hk => ?_⟩
    · have := (h u hu).1
      unfold locB at this
      rw [Bool.and_eq_true, decide_eq_true_eq] at this
      exact this.1
    · have := (h (st k) (hs k hk)).1
      unfold locB at this
      rw [Bool.and_eq_true, agB_iff] at this
      rcases this.2 k hk with z | z
      · exact absurd rfl z
      · exact z
theorem okF_eq {T : TD} {st sr : Nat → Nat} {m u f c : Nat} (hc : c < wyN T) (hu : u < tN T) : okP T (locF T st sr m u f) (tN T) c = (okP T (locB T st sr m) (tN T) c && decide (wy T c u = f + 1)) := by
  rw [Bool.eq_iff_iff, okP_iff hc, Bool.and_eq_true, okP_iff hc, decide_eq_true_eq, ← wy_leaf]
  constructor
  · intro h
    refine ⟨fun v hv => ⟨?_, (h v hv).2⟩, ?_⟩
    · have := (h v hv).1
      unfold locF at this
      rw [Bool.and_eq_true] at this
      exact this.1
    · have := (h u hu).1
      unfold locF at this
      rw [Bool.and_eq_true, Bool.or_eq_true, decide_eq_true_eq, decide_eq_true_eq] at this
      exact this.2.resolve_left (fun z => z rfl)
  · rintro ⟨h1, h2⟩ v hv
    refine ⟨?_, (h1 v hv).2⟩
    unfold locF
    rw [Bool.and_eq_true, Bool.or_eq_true, decide_eq_true_eq, decide_eq_true_eq]
    refine ⟨(h1 v hv).1, ?_⟩
    by_cases e : v = u
    · right; rw [e]; exact h2
    · exact Or.inl e
/-- who is IT in all the ways so far -/
def gS (p : Nat → Bool) (x : Nat → Int32) : Nat → Int32
  | 0 => -9
  | c + 1 => if p c = true then (if cnt p c = 0 ∨ gS p x c = x c then x c else -9) else gS p x c
theorem gS_inv {T : TD} (hT : tOk T) {p : Nat → Bool} {t : Nat} : ∀ c, (cnt p c = 0 ∧ gS p (fun c => rW (wy T c t)) c = -9) ∨ (∃ g, 0 < cnt p c ∧ g ≤ tF T ∧ (∀ i, i < c → p i = true → wy T i t = g) ∧ gS p (fun c => rW (wy T c t)) c = rW g) ∨ (∃ i j, i < c ∧ j < c ∧ p i = true ∧ p j = true ∧ wy T i t ≠ wy T j t ∧ gS p (fun c => rW (wy T c t)) c = -9)
  | 0 => Or.inl ⟨rfl, rfl⟩
  | c + 1 => by
    have ih := gS_inv hT (p := p) (t := t) c
    have hF5 := hT.2.1
    have e1 : cnt p (c + 1) = cnt p c + if p c = true then 1 else 0 := rfl
    have e2 : gS p (fun c => rW (wy T c t)) (c + 1) = if p c = true then (if cnt p c = 0 ∨ gS p (fun c => rW (wy T c t)) c = rW (wy T c t) then rW (wy T c t) else -9) else gS p (fun c => rW (wy T c t)) c := rfl
    by_cases hp : p c = true
    · rw [if_pos hp] at e1 e2
      rcases ih with ⟨h1, h2⟩ | ⟨g, h1, h2, h3, h4⟩ | ⟨i, j, h1, h2, h3, h4, h5, h6⟩
      · right; left
        rw [if_pos (Or.inl h1)] at e2
        refine ⟨wy T c t, by omega, wy_lt c t, fun i hi hpi => ?_, e2⟩
        by_cases q : i = c
        · rw [q]
        · exact absurd (show 0 < cnt p c from cnt_pos.mpr ⟨i, by omega, hpi⟩) (by omega)
      · by_cases q : wy T c t = g
        · right; left
          rw [h4, q, if_pos (Or.inr rfl)] at e2
          refine ⟨g, by omega, h2, fun i hi hpi => ?_, e2⟩
          by_cases z : i = c
          · rw [z]; exact q
          · exact h3 i (by omega) hpi
        · right; right
          have hl := wy_lt (T := T) c t
          obtain ⟨i, hi, hpi⟩ := cnt_pos.mp h1
          refine ⟨i, c, by omega, by omega, hpi, hp, by rw [h3 i hi hpi]; exact fun z => q z.symm, ?_⟩
          rw [e2, if_neg]
          rintro (z | z)
          · omega
          · rw [h4] at z
            have a1 : g = wy T c t := (rW_inj (by omega) (by omega)).mp z
            exact q a1.symm
      · right; right
        refine ⟨i, j, by omega, by omega, h3, h4, h5, ?_⟩
        rw [e2, h6]
        split
        · rename_i z
          rcases z with z | z
          · exact absurd (cnt_pos.mpr ⟨i, h1, h3⟩) (by omega)
          · exact z.symm
        · rfl
    · rw [if_neg hp] at e1 e2
      rw [e1, e2, Nat.add_zero]
      rcases ih with h | ⟨g, h1, h2, h3, h4⟩ | ⟨i, j, h1, h2, h3, h4, h5, h6⟩
      · exact Or.inl h
      · right; left
        refine ⟨g, h1, h2, fun i hi hpi => ?_, h4⟩
        by_cases z : i = c
        · rw [z] at hpi; exact absurd hpi hp
        · exact h3 i (by omega) hpi
      · exact Or.inr (Or.inr ⟨i, j, by omega, by omega, h3, h4, h5, h6⟩)
