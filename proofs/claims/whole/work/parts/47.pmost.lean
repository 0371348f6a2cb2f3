/-! ===== MOST: plain ===== -/
theorem bestG_spec (F : Nat → Nat) : ∀ n, (bestG F n).1 ≤ n ∧ (bestG F n).2 = F (bestG F n).1 ∧ (∀ g, g ≤ n → F g ≤ (bestG F n).2) ∧ ∀ g, g < (bestG F n).1 → F g < (bestG F n).2
  | 0 => ⟨Nat.le_refl _, rfl, fun g hg => by rw [show g = 0 by omega]; exact Nat.le_refl _, fun g hg => absurd hg (Nat.not_lt_zero _)⟩
  | n + 1 => by
    have ih := bestG_spec F n
    by_cases h : (bestG F n).2 < F (n + 1)
    · have e : bestG F (n + 1) = (n + 1, F (n + 1)) := if_pos h
      rw [e]
      refine ⟨Nat.le_refl _, rfl, fun g hg => ?_, fun g hg => ?_⟩
      · by_cases q : g = n + 1
        · rw [q]; exact Nat.le_refl _
        · have := ih.2.2.1 g (by omega)
          show F g ≤ F (n + 1)
          omega
      · have := ih.2.2.1 g (by have : g < n + 1 := hg; omega)
        show F g < F (n + 1)
        omega
    · have e : bestG F (n + 1) = bestG F n := if_neg h
      rw [e]
      refine ⟨by omega, ih.2.1, fun g hg => ?_, ih.2.2.2⟩
      by_cases q : g = n + 1
      · rw [q]; omega
      · exact ih.2.2.1 g (by omega)
def sfx (T : TD) (w : Nat → Nat) : Nat → Nat
  | 0 => 0
  | k + 1 => jy T w (tN T - 1 - k) + sfx T w k
theorem sfx_sum {T : TD} {w : Nat → Nat} : ∀ {k : Nat}, k ≤ tN T → sumN (jy T w) (tN T - k) + sfx T w k = jyA T w
  | 0, _ => rfl
  | k + 1, h => by
    have ih := sfx_sum (T := T) (w := w) (k := k) (by omega)
    rw [show tN T - k = (tN T - (k + 1)) + 1 by omega] at ih
    have e : sumN (jy T w) (tN T - (k + 1) + 1) = sumN (jy T w) (tN T - (k + 1)) + jy T w (tN T - (k + 1)) := rfl
    rw [e] at ih
    show sumN (jy T w) (tN T - (k + 1)) + (jy T w (tN T - 1 - k) + sfx T w k) = _
    rw [show tN T - 1 - k = tN T - (k + 1) by omega]
    omega
def vW (T : TD) (w : Nat → Nat) : Prop := ∀ t, t < tN T → w t ≤ lastW T t
def mG (T : TD) (t a : Nat) : Nat → Nat := fun g => jy1 T t g a + mF T (tN T - 1 - t) g
theorem mF_s {T : TD} {t a : Nat} (ht : t < tN T) : mF T (tN T - t) a = (bestG (mG T t a) (lastW T t)).2 := by
  obtain ⟨k, hk⟩ : ∃ k, tN T - t = k + 1 := ⟨tN T - t - 1, by omega⟩
  rw [hk]
  show (bestG (fun g => jy1 T (tN T - 1 - k) g a + mF T k g) (lastW T (tN T - 1 - k))).2 = _
  rw [show tN T - 1 - k = t by omega]
  unfold mG
  rw [show tN T - 1 - t = k by omega]
theorem sfx_le {T : TD} {w : Nat → Nat} (hw : vW T w) : ∀ {k : Nat}, k ≤ tN T → sfx T w k ≤ mF T k (jyB w (tN T - k))
  | 0, _ => Nat.le_refl _
  | k + 1, h => by
    have ih := sfx_le (T := T) hw (k := k) (by omega)
    have ht : tN T - (k + 1) < tN T := by omega
    have e := mF_s (a := jyB w (tN T - (k + 1))) ht
    rw [show tN T - (tN T - (k + 1)) = k + 1 by omega] at e
    rw [e]
    have e2 : jyB w (tN T - k) = w (tN T - (k + 1)) := by
      unfold jyB
      rw [if_pos (by omega)]
      exact congrArg w (by omega)
    rw [e2] at ih
    refine Nat.le_trans ?_ ((bestG_spec (mG T (tN T - (k + 1)) (jyB w (tN T - (k + 1)))) (lastW T (tN T - (k + 1)))).2.2.1 (w (tN T - (k + 1))) (hw _ ht))
    show jy T w (tN T - 1 - k) + sfx T w k ≤ jy1 T _ _ _ + mF T (tN T - 1 - (tN T - (k + 1))) _
    rw [show tN T - 1 - (tN T - (k + 1)) = k by omega, show tN T - 1 - k = tN T - (k + 1) by omega]
    exact Nat.add_le_add_left ih _
/-- who is IT in the first best way -/
def gA (T : TD) : Nat → Nat
  | 0 => 0
  | t + 1 => (bestG (mG T t (gA T t)) (lastW T t)).1
def gW (T : TD) (t : Nat) : Nat := if t < tN T then gA T (t + 1) else 0
def gC (T : TD) : Nat → Nat
  | 0 => 0
  | t + 1 => gC T t * wyB T + gA T (t + 1)
theorem lastW_le (T : TD) (t : Nat) : lastW T t ≤ tF T := by
  unfold lastW
  split <;> omega
theorem gA_le (T : TD) : ∀ t, gA T t ≤ tF T
  | 0 => Nat.zero_le _
  | t + 1 => Nat.le_trans (bestG_spec (mG T t (gA T t)) (lastW T t)).1 (lastW_le T t)
theorem gW_B {T : TD} {t : Nat} (ht : t ≤ tN T) : jyB (gW T) t = gA T t := by
  unfold jyB gW
  cases t with
  | zero => rfl
  | succ t => rw [if_pos (by omega), Nat.add_sub_cancel, if_pos (by omega)]
theorem gW_v (T : TD) : vW T (gW T) := fun t ht => by
  unfold gW
  rw [if_pos ht]
  exact (bestG_spec (mG T t (gA T t)) (lastW T t)).1
theorem gW_sfx {T : TD} : ∀ {k : Nat}, k ≤ tN T → sfx T (gW T) k = mF T k (gA T (tN T - k))
  | 0, _ => rfl
  | k + 1, h => by
    have ih := gW_sfx (T := T) (k := k) (by omega)
    have ht : tN T - (k + 1) < tN T := by omega
    have e := mF_s (a := gA T (tN T - (k + 1))) ht
    rw [show tN T - (tN T - (k + 1)) = k + 1 by omega] at e
    rw [e, (bestG_spec (mG T (tN T - (k + 1)) (gA T (tN T - (k + 1)))) (lastW T (tN T - (k + 1)))).2.1]
    show jy T (gW T) (tN T - 1 - k) + sfx T (gW T) k = jy1 T _ _ _ + mF T (tN T - 1 - (tN T - (k + 1))) _
    rw [show tN T - 1 - (tN T - (k + 1)) = k by omega, show tN T - 1 - k = tN T - (k + 1) by omega, ih]
    have e2 : gA T (tN T - k) = (bestG (mG T (tN T - (k + 1)) (gA T (tN T - (k + 1)))) (lastW T (tN T - (k + 1)))).1 := by
      rw [show tN T - k = (tN T - (k + 1)) + 1 by omega]
      rfl
    rw [e2]
    unfold jy
    rw [gW_B (by omega)]
    unfold gW
    rw [if_pos ht]
    rfl
theorem gW_all (T : TD) : jyA T (gW T) = mF T (tN T) 0 := by
  have h1 := sfx_sum (T := T) (w := gW T) (k := tN T) (Nat.le_refl _)
  have h2 := gW_sfx (T := T) (k := tN T) (Nat.le_refl _)
  rw [Nat.sub_self] at h1 h2
  have : sumN (jy T (gW T)) 0 = 0 := rfl
  rw [this] at h1
  rw [← h1, h2]
  exact Nat.zero_add _
theorem all_le {T : TD} {w : Nat → Nat} (hw : vW T w) : jyA T w ≤ mF T (tN T) 0 := by
  have h1 := sfx_sum (T := T) (w := w) (k := tN T) (Nat.le_refl _)
  have h2 := sfx_le (T := T) hw (k := tN T) (Nat.le_refl _)
  rw [Nat.sub_self] at h1 h2
  have : sumN (jy T w) 0 = 0 := rfl
  rw [this] at h1
  have : jyB w 0 = 0 := rfl
  rw [this] at h2
  omega
/-! codes and their figures -/
theorem code_div {B : Nat} (hB : 0 < B) {x : Nat} (d : Nat) (hd : d < B) (k : Nat) : (x * B + d) / B ^ (k + 1) = x / B ^ k := by
  rw [show B ^ (k + 1) = B * B ^ k by rw [Nat.pow_succ, Nat.mul_comm], ← Nat.div_div_eq_div_mul]
  congr 1
  rw [Nat.add_comm, Nat.add_mul_div_right _ _ hB, Nat.div_eq_of_lt hd, Nat.zero_add]
theorem gC_div {T : TD} {t : Nat} : ∀ k, gC T (t + k) / wyB T ^ k = gC T t
  | 0 => by rw [Nat.pow_zero, Nat.div_one]; rfl
  | k + 1 => by
    have := gA_le T (t + k + 1)
    show (gC T (t + k) * wyB T + gA T (t + k + 1)) / wyB T ^ (k + 1) = _
    rw [code_div (wyB_pos T) _ (by unfold wyB; omega)]
    exact gC_div k
theorem gC_lt (T : TD) : ∀ t, gC T t < wyB T ^ t
  | 0 => Nat.one_pos
  | t + 1 => by
    have ih := gC_lt T t
    have := gA_le T (t + 1)
    have h : gC T t + 1 ≤ wyB T ^ t := ih
    have h2 : (gC T t + 1) * wyB T ≤ wyB T ^ t * wyB T := Nat.mul_le_mul_right _ h
    rw [Nat.pow_succ]
    show gC T t * wyB T + gA T (t + 1) < _
    rw [Nat.add_mul, Nat.one_mul] at h2
    unfold wyB at h2 ⊢
    omega
theorem gC_wy {T : TD} {t : Nat} (ht : t < tN T) : wy T (gC T (tN T)) t = gA T (t + 1) := by
  unfold wy
  rw [if_pos ht]
  have e := gC_div (T := T) (t := t + 1) (tN T - 1 - t)
  rw [show t + 1 + (tN T - 1 - t) = tN T by omega] at e
  rw [e]
  show (gC T t * wyB T + gA T (t + 1)) % wyB T = _
  have := gA_le T (t + 1)
  rw [Nat.mul_add_mod_self_right]
  exact Nat.mod_eq_of_lt (by unfold wyB; omega)
theorem isWy_v {T : TD} {c : Nat} : isWy T c = true ↔ vW T (wy T c) := by
  rw [isWy_iff]
  constructor
  · intro h t ht
    unfold lastW
    split
    · rename_i q
      rcases h t ht with h | h
      · omega
      · exact absurd q h
    · exact wy_lt c t
  · intro h t ht
    have := h t ht
    unfold lastW at this
    split at this
    · left; omega
    · right; assumption
theorem jyA_c {T : TD} {w w' : Nat → Nat} (h : ∀ t, t < tN T → w t = w' t) : ∀ {n : Nat}, n ≤ tN T → sumN (jy T w) n = sumN (jy T w') n := fun {n} hn => by
  refine sumN_congr (fun t ht => ?_)
  unfold jy jyB
  rw [h t (by omega)]
  by_cases q : 0 < t
  · rw [if_pos q, if_pos q, h (t - 1) (by omega)]
  · rw [if_neg q, if_neg q]
theorem isWy_0 (T : TD) : isWy T 0 = true := isWy_iff.mpr (fun t _ => Or.inl (wy_0 T t))
theorem mr_spec {T : TD} (hT : tOk T) : ∀ c, (mrS T (c + 1)).2 < c + 1 ∧ isWy T (mrS T (c + 1)).2 = true ∧ (mrS T (c + 1)).1 = nI (jyA T (wy T (mrS T (c + 1)).2)) ∧ (∀ c', c' < c + 1 → isWy T c' = true → jyA T (wy T c') ≤ jyA T (wy T (mrS T (c + 1)).2)) ∧ ∀ c', c' < (mrS T (c + 1)).2 → isWy T c' = true → jyA T (wy T c') < jyA T (wy T (mrS T (c + 1)).2)
  | 0 => by
    have b : jyA T (wy T 0) ≤ 120 := jyA_le hT (fun t => wy_lt (T := T) 0 t)
    have e : mrS T 1 = (nI (jyA T (wy T 0)), 0) := by
      show (if isWy T 0 = true ∧ (-1 : Int32) < nI (jyA T (wy T 0)) then _ else _) = _
      have hl : (-1 : Int32) < nI (jyA T (wy T 0)) := by
        rw [i_lt, nI_toInt (by omega)]
        have : (-1 : Int32).toInt = -1 := by decide
        rw [this]
        omega
      rw [if_pos ⟨isWy_0 T, hl⟩]
    rw [e]
    exact ⟨by omega, isWy_0 T, rfl, fun c' h _ => by rw [show c' = 0 by omega]; exact Nat.le_refl _, fun c' h => absurd h (Nat.not_lt_zero _)⟩
  | c + 1 => by
    obtain ⟨i1, i2, i3, i4, i5⟩ := mr_spec hT c
    have b1 : jyA T (wy T (c + 1)) ≤ 120 := jyA_le hT (fun t => wy_lt (T := T) (c + 1) t)
    have b2 : jyA T (wy T (mrS T (c + 1)).2) ≤ 120 := jyA_le hT (fun t => wy_lt (T := T) (mrS T (c + 1)).2 t)
    have hlt : (mrS T (c + 1)).1 < nI (jyA T (wy T (c + 1))) ↔ jyA T (wy T (mrS T (c + 1)).2) < jyA T (wy T (c + 1)) := by
      rw [i3, i_lt, nI_toInt (by omega), nI_toInt (by omega)]
      omega
    by_cases h : isWy T (c + 1) = true ∧ (mrS T (c + 1)).1 < nI (jyA T (wy T (c + 1)))
    · have e : mrS T (c + 1 + 1) = (nI (jyA T (wy T (c + 1))), c + 1) := if_pos h
      rw [e]
      have hl := hlt.mp h.2
      refine ⟨by omega, h.1, rfl, fun c' hc hw => ?_, fun c' hc hw => ?_⟩
      · by_cases q : c' = c + 1
        · rw [q]; exact Nat.le_refl _
        · have := i4 c' (by omega) hw
          show _ ≤ jyA T (wy T (c + 1))
          omega
      · have := i4 c' hc hw
        show _ < jyA T (wy T (c + 1))
        omega
    · have e : mrS T (c + 1 + 1) = mrS T (c + 1) := if_neg h
      rw [e]
      refine ⟨by omega, i2, i3, fun c' hc hw => ?_, i5⟩
      by_cases q : c' = c + 1
      · rw [q] at hw ⊢
        exact Nat.not_lt.mp (fun z => h ⟨hw, hlt.mpr z⟩)
      · exact i4 c' (by omega) hw
theorem most_eq {T : TD} (hT : tOk T) : mrS T (wyN T) = (nI (mF T (tN T) 0), gC T (tN T)) := by
  have hB := wyB_pos T
  have hNp : 0 < wyN T := Nat.pow_pos hB
  obtain ⟨i1, i2, i3, i4, i5⟩ := mr_spec hT (wyN T - 1)
  rw [show wyN T - 1 + 1 = wyN T by omega] at i1 i2 i3 i4 i5
  generalize hm : (mrS T (wyN T)).2 = m at i1 i2 i3 i4 i5
  have hcg : gC T (tN T) < wyN T := gC_lt T (tN T)
  have wg : ∀ t, t < tN T → wy T (gC T (tN T)) t = gW T t := fun t ht => by rw [gC_wy ht]; unfold gW; rw [if_pos ht]
  have vg : isWy T (gC T (tN T)) = true := isWy_v.mpr (fun t ht => by rw [wg t ht]; exact gW_v T t ht)
  have jg : jyA T (wy T (gC T (tN T))) = mF T (tN T) 0 := by
    rw [← gW_all]
    exact jyA_c wg (Nat.le_refl _)
  have vm := isWy_v.mp i2
  have jm : jyA T (wy T m) = mF T (tN T) 0 := by
    have h1 := all_le vm
    have h2 := i4 _ hcg vg
    omega
  have hle : m ≤ gC T (tN T) := Nat.not_lt.mp (fun q => by
    have := i5 _ q vg
    omega)
  have key : ∀ t, t ≤ tN T → ∀ u, u ≤ t → m / wyB T ^ (tN T - u) = gC T (tN T) / wyB T ^ (tN T - u) := by
    intro t
    induction t with
    | zero =>
      intro _ u hu
      rw [show u = 0 by omega, Nat.sub_zero, Nat.div_eq_of_lt (show m < wyB T ^ tN T from i1), Nat.div_eq_of_lt (show gC T (tN T) < wyB T ^ tN T from hcg)]
    | succ t ih =>
      intro ht u hu
      by_cases q : u = t + 1
      · subst q
        have ih' := ih (by omega)
        have fig : ∀ s, s < t → wy T m s = gA T (s + 1) := fun s hs => by
          rw [← gC_wy (by omega)]
          unfold wy
          rw [if_pos (by omega), if_pos (by omega)]
          have := ih' (s + 1) (by omega)
          rw [show tN T - (s + 1) = tN T - 1 - s by omega] at this
          rw [this]
        have hpre : sumN (jy T (wy T m)) t = sumN (jy T (gW T)) t := by
          refine sumN_congr (fun s hs => ?_)
          have e1 : wy T m s = gW T s := by rw [fig s hs]; unfold gW; rw [if_pos (by omega)]
          unfold jy jyB
          rw [e1]
          by_cases q : 0 < s
          · rw [if_pos q, if_pos q]
            have e2 : wy T m (s - 1) = gW T (s - 1) := by rw [fig (s - 1) (by omega)]; unfold gW; rw [if_pos (by omega)]
            rw [e2]
          · rw [if_neg q, if_neg q]
        have hB2 : jyB (wy T m) t = gA T t := by
          rw [← gW_B (show t ≤ tN T by omega)]
          unfold jyB
          by_cases q : 0 < t
          · rw [if_pos q, if_pos q, fig (t - 1) (by omega)]
            unfold gW
            rw [if_pos (by omega)]
          · rw [if_neg q, if_neg q]
        have s1 := sfx_sum (T := T) (w := wy T m) (k := tN T - t) (by omega)
        have s2 := sfx_sum (T := T) (w := gW T) (k := tN T - t) (by omega)
        rw [show tN T - (tN T - t) = t by omega] at s1 s2
        have s3 := gW_sfx (T := T) (k := tN T - t) (by omega)
        rw [show tN T - (tN T - t) = t by omega] at s3
        have s4 : sfx T (wy T m) (tN T - t) = mF T (tN T - t) (gA T t) := by
          rw [gW_all] at s2
          rw [jm] at s1
          omega
        have s5 := sfx_le vm (k := tN T - (t + 1)) (by omega)
        rw [show tN T - (tN T - (t + 1)) = t + 1 by omega] at s5
        have e3 : jyB (wy T m) (t + 1) = wy T m t := by
          unfold jyB
          rw [if_pos (by omega), Nat.add_sub_cancel]
        rw [e3] at s5
        have s6 : sfx T (wy T m) (tN T - t) = jy T (wy T m) t + sfx T (wy T m) (tN T - (t + 1)) := by
          rw [show tN T - t = (tN T - (t + 1)) + 1 by omega]
          show jy T (wy T m) (tN T - 1 - (tN T - (t + 1))) + _ = _
          rw [show tN T - 1 - (tN T - (t + 1)) = t by omega]
        have bs := bestG_spec (mG T t (gA T t)) (lastW T t)
        have hF : (bestG (mG T t (gA T t)) (lastW T t)).2 ≤ mG T t (gA T t) (wy T m t) := by
          rw [← mF_s (by omega), ← s4, s6]
          show jy1 T t (wy T m t) (jyB (wy T m) t) + _ ≤ jy1 T t (wy T m t) (gA T t) + mF T (tN T - 1 - t) (wy T m t)
          rw [hB2]
          rw [show tN T - 1 - t = tN T - (t + 1) by omega]
          omega
        have hge : gA T (t + 1) ≤ wy T m t := Nat.not_lt.mp (fun q => by
          have := bs.2.2.2 (wy T m t) q
          omega)
        have d1 : m / wyB T ^ (tN T - t) = (m / wyB T ^ (tN T - (t + 1))) / wyB T := by
          rw [show tN T - t = (tN T - (t + 1)) + 1 by omega, pow_div_step]
        have d2 : gC T (tN T) / wyB T ^ (tN T - t) = (gC T (tN T) / wyB T ^ (tN T - (t + 1))) / wyB T := by
          rw [show tN T - t = (tN T - (t + 1)) + 1 by omega, pow_div_step]
        have d3 := ih' t (Nat.le_refl _)
        rw [d1, d2] at d3
        have d4 : m / wyB T ^ (tN T - (t + 1)) ≤ gC T (tN T) / wyB T ^ (tN T - (t + 1)) := Nat.div_le_div_right hle
        have d5 : wy T m t = m / wyB T ^ (tN T - (t + 1)) % wyB T := by unfold wy; rw [if_pos (by omega), show tN T - 1 - t = tN T - (t + 1) by omega]
        have d6 : gA T (t + 1) = gC T (tN T) / wyB T ^ (tN T - (t + 1)) % wyB T := by rw [← gC_wy (by omega)]; unfold wy; rw [if_pos (by omega), show tN T - 1 - t = tN T - (t + 1) by omega]
        rw [d5, d6] at hge
        generalize m / wyB T ^ (tN T - (t + 1)) = X at *
        generalize gC T (tN T) / wyB T ^ (tN T - (t + 1)) = Y at *
        have e1 := Nat.div_add_mod X (wyB T)
        have e2 := Nat.div_add_mod Y (wyB T)
        rw [d3] at e1
        omega
      · exact ih (by omega) u (by omega)
  have hfin := key (tN T) (Nat.le_refl _) (tN T) (Nat.le_refl _)
  rw [Nat.sub_self, Nat.pow_zero, Nat.div_one, Nat.div_one] at hfin
  have h2 : (mrS T (wyN T)).2 = gC T (tN T) := hm.trans hfin
  have h1 : (mrS T (wyN T)).1 = nI (mF T (tN T) 0) := by rw [i3, jm]
  exact Prod.ext h1 h2
