/-! ===== FAIR: blocks of codes; what no way can reach ===== -/
def pD (T : TD) (t q u : Nat) : Nat := if u < t then (q / wyB T ^ (t - 1 - u)) % wyB T else 0
theorem pD_le (T : TD) (t q u : Nat) : pD T t q u ≤ tF T := by
  unfold pD
  split
  · have := Nat.mod_lt (q / wyB T ^ (t - 1 - u)) (wyB_pos T)
    unfold wyB at this ⊢
    omega
  · omega
theorem pD_hi {T : TD} {t q u : Nat} (h : t ≤ u) : pD T t q u = 0 := if_neg (by omega)
theorem wy_pD {T : TD} {t k q r : Nat} (htk : t + k = tN T) (hr : r < wyB T ^ k) {u : Nat} (hu : u < t) : wy T (q * wyB T ^ k + r) u = pD T t q u := by
  unfold wy pD
  rw [if_pos (by omega), if_pos hu]
  congr 1
  rw [show tN T - 1 - u = k + (t - 1 - u) by omega, Nat.pow_add, ← Nat.div_div_eq_div_mul]
  congr 1
  rw [Nat.add_comm, Nat.add_mul_div_right _ _ (Nat.pow_pos (wyB_pos T)), Nat.div_eq_of_lt hr, Nat.zero_add]
theorem wy_leaf {T : TD} {q : Nat} : wy T q = pD T (tN T) q := rfl
theorem pD_s {T : TD} {t q g u : Nat} (hg : g < wyB T) (hu : u < t) : pD T (t + 1) (q * wyB T + g) u = pD T t q u := by
  unfold pD
  rw [if_pos (by omega), if_pos hu]
  congr 1
  rw [show t + 1 - 1 - u = (t - 1 - u) + 1 by omega, code_div (wyB_pos T) _ hg]
theorem pD_t {T : TD} {t q g : Nat} (hg : g < wyB T) : pD T (t + 1) (q * wyB T + g) t = g := by
  unfold pD
  rw [if_pos (by omega), show t + 1 - 1 - t = 0 by omega, Nat.pow_zero, Nat.div_one, Nat.mul_add_mod_self_right]
  exact Nat.mod_eq_of_lt hg
theorem pD_s0 {T : TD} {t q g u : Nat} (hg : g < wyB T) (hu : u ≠ t) : pD T (t + 1) (q * wyB T + g) u = pD T t q u := by
  by_cases h : u < t
  · exact pD_s hg h
  · rw [pD_hi (by omega), pD_hi (by omega)]
theorem sumN_delta {g g' : Nat → Nat} {t d : Nat} : ∀ {n : Nat}, t < n → (∀ u, u < n → u ≠ t → g' u = g u) → g' t = g t + d → sumN g' n = sumN g n + d
  | 0, h, _, _ => absurd h (Nat.not_lt_zero _)
  | n + 1, h, h1, h2 => by
    show sumN g' n + g' n = sumN g n + g n + d
    by_cases q : t = n
    · subst q
      rw [h2, sumN_congr (f := g') (g := g) (fun u hu => h1 u (by omega) (by omega))]
      omega
    · rw [sumN_delta (n := n) (by omega) (fun u hu => h1 u (by omega)) h2, h1 n (by omega) (fun e => q e.symm)]
      omega
theorem jy_0 {T : TD} {w : Nat → Nat} {u : Nat} (h : w u = 0) : jy T w u = 0 := by
  unfold jy jy1
  rw [if_pos (Or.inl h)]
theorem jyB_pD {T : TD} {t q g u : Nat} (hg : g < wyB T) (hu : u ≤ t) : jyB (pD T (t + 1) (q * wyB T + g)) u = jyB (pD T t q) u := by
  unfold jyB
  by_cases h : 0 < u
  · rw [if_pos h, if_pos h, pD_s hg (by omega)]
  · rw [if_neg h, if_neg h]
theorem jyA_pD {T : TD} {t q g : Nat} (ht : t < tN T) (hg : g < wyB T) : jyA T (pD T (t + 1) (q * wyB T + g)) = jyA T (pD T t q) + jy1 T t g (jyB (pD T t q) t) := by
  unfold jyA
  refine sumN_delta ht (fun u hu hne => ?_) ?_
  · by_cases h : u < t
    · unfold jy
      rw [pD_s hg h, jyB_pD hg (by omega)]
    · rw [jy_0 (pD_hi (by omega)), jy_0 (pD_hi (by omega))]
  · rw [jy_0 (w := pD T t q) (pD_hi (Nat.le_refl _)), Nat.zero_add]
    unfold jy
    rw [pD_t hg, jyB_pD hg (Nat.le_refl _)]
theorem jyF_pD {T : TD} {t q g : Nat} (ht : t < tN T) (hg : g < wyB T) (f : Nat) : jyF T (pD T (t + 1) (q * wyB T + g)) f = jyF T (pD T t q) f + if g = f + 1 then jy1 T t g (jyB (pD T t q) t) else 0 := by
  unfold jyF
  refine sumN_delta ht (fun u hu hne => ?_) ?_
  · show (if pD T (t + 1) (q * wyB T + g) u = f + 1 then jy T (pD T (t + 1) (q * wyB T + g)) u else 0) = if pD T t q u = f + 1 then jy T (pD T t q) u else 0
    by_cases h : u < t
    · rw [pD_s hg h]
      unfold jy
      rw [pD_s hg h, jyB_pD hg (by omega)]
    · rw [pD_hi (by omega), pD_hi (by omega), if_neg (by omega), if_neg (by omega)]
  · show (if pD T (t + 1) (q * wyB T + g) t = f + 1 then jy T (pD T (t + 1) (q * wyB T + g)) t else 0) = (if pD T t q t = f + 1 then jy T (pD T t q) t else 0) + _
    rw [pD_t hg, pD_hi (Nat.le_refl _), if_neg (show ¬ 0 = f + 1 by omega), Nat.zero_add]
    unfold jy
    rw [pD_t hg, jyB_pD hg (Nat.le_refl _)]
/-- a way that begins so: what it can bring -/
theorem pre_A {T : TD} {t k q : Nat} {w : Nat → Nat} (htk : t + k = tN T) (hw : vW T w) (hp : ∀ u, u < t → w u = pD T t q u) : jyA T w ≤ jyA T (pD T t q) + mF T k (jyB (pD T t q) t) := by
  have s1 := sfx_sum (T := T) (w := w) (k := k) (by omega)
  have s2 := sfx_sum (T := T) (w := pD T t q) (k := k) (by omega)
  have e : tN T - k = t := by omega
  rw [e] at s1 s2
  have s3 := sfx_le hw (k := k) (by omega)
  rw [e] at s3
  have hB : jyB w t = jyB (pD T t q) t := by
    unfold jyB
    by_cases h : 0 < t
    · rw [if_pos h, if_pos h, hp (t - 1) (by omega)]
    · rw [if_neg h, if_neg h]
  have hs : sumN (jy T w) t = sumN (jy T (pD T t q)) t := by
    refine sumN_congr (fun u hu => ?_)
    unfold jy jyB
    rw [hp u hu]
    by_cases h : 0 < u
    · rw [if_pos h, if_pos h, hp (u - 1) (by omega)]
    · rw [if_neg h, if_neg h]
  rw [hB] at s3
  omega
theorem pre_F {T : TD} {t k q : Nat} {w : Nat → Nat} (htk : t + k = tN T) (hp : ∀ u, u < t → w u = pD T t q u) (f : Nat) : jyF T w f = jyF T (pD T t q) f + sG (fun u => if w u = f + 1 then jy T w u else 0) (tN T) k := by
  have s1 := sG_sum (g := fun u => if w u = f + 1 then jy T w u else 0) (n := tN T) (k := k) (by omega)
  have s2 := sG_sum (g := fun u => if pD T t q u = f + 1 then jy T (pD T t q) u else 0) (n := tN T) (k := k) (by omega)
  have e : tN T - k = t := by omega
  rw [e] at s1 s2
  have hs : sumN (fun u => if w u = f + 1 then jy T w u else 0) t = sumN (fun u => if pD T t q u = f + 1 then jy T (pD T t q) u else 0) t := by
    refine sumN_congr (fun u hu => ?_)
    show (if w u = f + 1 then jy T w u else 0) = if pD T t q u = f + 1 then jy T (pD T t q) u else 0
    unfold jy jyB
    rw [hp u hu]
    by_cases h : 0 < u
    · rw [if_pos h, if_pos h, hp (u - 1) (by omega)]
    · rw [if_neg h, if_neg h]
  have hz : sG (fun u => if pD T t q u = f + 1 then jy T (pD T t q) u else 0) (tN T) k ≤ sG (fun _ => 0) (tN T) k := by
    refine sG_le (by omega) (fun u h1 h2 => ?_)
    show (if pD T t q u = f + 1 then jy T (pD T t q) u else 0) ≤ 0
    rw [pD_hi (by omega), if_neg (by omega)]
    exact Nat.le_refl _
  rw [sG_zero] at hz
  unfold jyF
  omega
theorem pre_Fw {T : TD} {k : Nat} {w : Nat → Nat} (hk : k ≤ tN T) (f : Nat) : sG (fun u => if w u = f + 1 then jy T w u else 0) (tN T) k ≤ whF T k f := by
  refine sG_le hk (fun u h1 h2 => ?_)
  show (if w u = f + 1 then jy T w u else 0) ≤ jy1 T u (f + 1) 0
  split
  · rename_i h
    unfold jy
    rw [h]
    exact jy1_whole
  · exact Nat.zero_le _
theorem pre_Fc {T : TD} {k : Nat} {w : Nat → Nat} (hk : k ≤ tN T) (f : Nat) (h0 : 0 < sG (fun u => if w u = f + 1 then jy T w u else 0) (tN T) k) : 1 ≤ sG (fun u => if w u = f + 1 then (if tS T u = 2 then 0 else 1) else 0) (tN T) k := by
  refine sG_pos hk (fun u h1 h2 h3 => ?_) h0
  have h3' : 0 < if w u = f + 1 then jy T w u else 0 := h3
  show 1 ≤ if w u = f + 1 then (if tS T u = 2 then 0 else 1) else 0
  by_cases q : w u = f + 1
  · rw [if_pos q] at h3' ⊢
    by_cases z : tS T u = 2
    · have : jy T w u = 0 := by
        unfold jy jy1
        rw [if_pos (Or.inr z)]
      omega
    · rw [if_neg z]
      exact Nat.le_refl _
  · rw [if_neg q] at h3'
    omega
def wnt (S : Int32 × Int32 × Nat) (j : Int32) : Int32 := if S.2.1 < j then S.1 else S.1 + 1
theorem wnt_int {S : Int32 × Int32 × Nat} {j : Int32} (h : -1000000 ≤ S.1.toInt ∧ S.1.toInt ≤ 120) : (wnt S j).toInt = if S.2.1 < j then S.1.toInt else S.1.toInt + 1 := by
  unfold wnt
  split
  · rfl
  · have e1 : (1 : Int32).toInt = 1 := by decide
    rw [Int32.toInt_add, e1, Int.bmod_eq_of_le]
    · omega
    · omega
theorem wh_le {T : TD} (hT : tOk T) {f : Nat} (hf : f < tF T) : ∀ k, whF T k f ≤ 20 * k
  | 0 => Nat.le_refl _
  | k + 1 => by
    have ih := wh_le hT hf k
    have := jy1_le hT (t := tN T - 1 - k) (a := f + 1) (b := 0) (by omega)
    show jy1 T (tN T - 1 - k) (f + 1) 0 + whF T k f ≤ _
    omega
theorem op_le (T : TD) : ∀ k, opF T k ≤ k
  | 0 => Nat.le_refl _
  | k + 1 => by
    have ih := op_le T k
    show (if tS T (tN T - 1 - k) = 2 then 0 else 1) + opF T k ≤ _
    split <;> omega
def mayB (T : TD) (S : Int32 × Int32 × Nat) (t k q : Nat) : Prop := gdA (lf T (pD T t q)) (fun f => nI (whF T k f)) (wnt S (nI (jyA T (pD T t q) + mF T k (jyB (pD T t q) t)))) (tF T) = true ∧ blw (lf T (pD T t q)) (wnt S (nI (jyA T (pD T t q) + mF T k (jyB (pD T t q) t)))) (tF T) ≤ opF T k
theorem lf_wh {T : TD} (hT : tOk T) {t q k f : Nat} (hk : k ≤ 6) (hf : f < tF T) : (lf T (pD T t q) f + nI (whF T k f)).toInt = (jyF T (pD T t q) f : Int) - tQ T f 2 + whF T k f := by
  have h1 := lf_int hT (fun u => pD_le T t q u) hf
  have h2 := jyF_le hT (fun u => pD_le T t q u) f
  have h2' : jyF T (pD T t q) f ≤ 120 := h2
  have h3 := (hT.2.2.2.1 f hf).2.2.1
  have h4 := wh_le hT hf k
  have h1' : (lf T (pD T t q) f).toInt = (jyF T (pD T t q) f : Int) - tQ T f 2 := h1
  rw [Int32.toInt_add, h1', nI_toInt (by omega), Int.bmod_eq_of_le]
  · omega
  · omega
theorem may_of {T : TD} (hT : tOk T) {S : Int32 × Int32 × Nat} (hS : (-1000000 ≤ S.1.toInt ∧ S.1.toInt ≤ 120) ∧ (-1000000 ≤ S.2.1.toInt ∧ S.2.1.toInt ≤ 120)) {t k q c : Nat} (htk : t + k = tN T) (hc : isWy T c = true) (hp : ∀ u, u < t → wy T c u = pD T t q u) (hb : bett T S c) : mayB T S t k q := by
  have h6 := hT.1
  have vw := isWy_v.mp hc
  have a1 := pre_A htk vw hp
  have jr := jw_rng hT c
  have jp : jyA T (pD T t q) ≤ 120 := jyA_le hT (fun u => pD_le T t q u)
  have mr := mF_le hT k (jyB (pD T t q) t)
  have hW := wnt_int (j := nI (jyA T (pD T t q) + mF T k (jyB (pD T t q) t))) hS.1
  generalize hWe : wnt S (nI (jyA T (pD T t q) + mF T k (jyB (pD T t q) t))) = W at hW
  have hWm : W.toInt ≤ (mnL T (wy T c) (tF T)).toInt := by
    rw [hW]
    rcases hb with hb | ⟨hb1, hb2⟩
    · have := i_lt.mp hb
      split <;> omega
    · rw [hb1]
      have hb2' := i_lt.mp hb2
      rw [nI_toInt (by omega)] at hb2'
      have hj : S.2.1 < nI (jyA T (pD T t q) + mF T k (jyB (pD T t q) t)) := by
        rw [i_lt, nI_toInt (by omega)]
        omega
      rw [if_pos hj]
      omega
  have hall := (mnL_ge (by rw [hW]; split <;> omega)).mp hWm
  have lw : ∀ f, f < tF T → (lf T (wy T c) f).toInt = (jyF T (wy T c) f : Int) - tQ T f 2 := fun f hf => lf_int hT (fun u => wy_lt (T := T) c u) hf
  have lp : ∀ f, f < tF T → (lf T (pD T t q) f).toInt = (jyF T (pD T t q) f : Int) - tQ T f 2 := fun f hf => lf_int hT (fun u => pD_le T t q u) hf
  unfold mayB
  rw [hWe]
  refine ⟨gdA_iff.mpr (fun f hf z => ?_), Nat.le_trans (blw_le (c := fun f => sG (fun u => if wy T c u = f + 1 then (if tS T u = 2 then 0 else 1) else 0) (tN T) k) (fun f hf z => ?_)) cnt_op⟩
  · have z2 := i_lt.mp z.2
    have e1 := lf_wh hT (t := t) (q := q) (k := k) (by omega) hf
    have e1' : (lf T (pD T t q) f + (fun f => nI (whF T k f)) f).toInt = (jyF T (pD T t q) f : Int) - tQ T f 2 + whF T k f := e1
    rw [e1'] at z2
    have h1 := hall f hf
    rw [lw f hf, pre_F htk hp f] at h1
    have h2 := pre_Fw (T := T) (k := k) (w := wy T c) (by omega) f
    omega
  · have z2 := i_lt.mp z
    rw [lp f hf] at z2
    have h1 := hall f hf
    rw [lw f hf, pre_F htk hp f] at h1
    exact pre_Fc (by omega) f (by omega)
/-- a way that is whole: exact -/
theorem may_leaf {T : TD} (hT : tOk T) {S : Int32 × Int32 × Nat} (hS : (-1000000 ≤ S.1.toInt ∧ S.1.toInt ≤ 120) ∧ (-1000000 ≤ S.2.1.toInt ∧ S.2.1.toInt ≤ 120)) {c : Nat} (h : mayB T S (tN T) 0 c) : bett T S c := by
  have jr := jw_rng hT c
  obtain ⟨h1, -⟩ := h
  rw [← wy_leaf] at h1
  have e0 : mF T 0 (jyB (wy T c) (tN T)) = 0 := rfl
  rw [e0, Nat.add_zero] at h1
  have hW := wnt_int (j := nI (jyA T (wy T c))) hS.1
  generalize hWe : wnt S (nI (jyA T (wy T c))) = W at hW h1
  have hall : ∀ f, f < tF T → W.toInt ≤ (lf T (wy T c) f).toInt := fun f hf => by
    have := gdA_iff.mp h1 f hf
    have z : ¬ lf T (wy T c) f < W := fun q => this ⟨q, by
      have e : nI (whF T 0 f) = 0 := rfl
      rw [e, Int32.add_zero]
      exact q⟩
    exact i_le.mp (Int32.not_lt.mp z)
  have hm := (mnL_ge (w := wy T c) (by rw [hW]; split <;> omega)).mpr hall
  rw [hW] at hm
  unfold bett
  rw [i_lt, i_lt, i_eq, nI_toInt (by omega)]
  by_cases q : S.2.1 < nI (jyA T (wy T c))
  · rw [if_pos q] at hm
    have q' := i_lt.mp q
    rw [nI_toInt (by omega)] at q'
    omega
  · rw [if_neg q] at hm
    left
    omega
