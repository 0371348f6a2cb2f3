/-! ===== what the two sides have in common ===== -/
/-- ways by their codes, as the reference counts them -/
def wyB (T : TD) : Nat := tF T + 1
def wyN (T : TD) : Nat := wyB T ^ tN T
def wy (T : TD) (c : Nat) (t : Nat) : Nat := if t < tN T then (c / wyB T ^ (tN T - 1 - t)) % wyB T else 0
def isWy (T : TD) (c : Nat) : Bool := (List.range (tN T)).all (fun t => decide (wy T c t = 0) || decide (tS T t ≠ 2))
/-- MOST: the best yet and its code, behind the first codes -/
def mrS (T : TD) : Nat → Int32 × Nat
  | 0 => (-1, 0)
  | c + 1 => if isWy T c = true ∧ (mrS T c).1 < nI (jyA T (wy T c)) then (nI (jyA T (wy T c)), c) else mrS T c
def frS (T : TD) : Nat → Int32 × Int32 × Nat
  | 0 => (-1000000, 0, 0)
  | c + 1 => if isWy T c = true ∧ ((frS T c).1 < mnL T (wy T c) (tF T) ∨ (mnL T (wy T c) (tF T) = (frS T c).1 ∧ (frS T c).2.1 < nI (jyA T (wy T c)))) then (mnL T (wy T c) (tF T), nI (jyA T (wy T c)), c) else frS T c
/-- CHEESE: hours by their codes -/
def hrN (T : TD) : Nat := 7 ^ tF T
def hr (T : TD) (c f : Nat) : Nat := (c / 7 ^ (tF T - 1 - f)) % 7
def hrBit (m h : Nat) : Bool := (m / 2 ^ h) % 2 = 1
def hrOk (T : TD) (c : Nat) : Bool := (List.range (tF T)).all (fun f => decide (hr T c f = 6) || (hrBit (tQ T f 4) (hr T c f) && !hrBit (tW T) (hr T c f) && (List.range f).all (fun e => decide (hr T c e ≠ hr T c f))))
def hrC (T : TD) (c : Nat) : Nat := sumN (fun f => if hr T c f = 6 then 0 else 1) (tF T)
def crS (T : TD) : Nat → Int32 × Nat
  | 0 => (-1, hrN T - 1)
  | c + 1 => if hrOk T c = true ∧ (crS T c).1 < nI (hrC T c) then (nI (hrC T c), c) else crS T c
/-- the most JOY of the last k TURNS, with a - 1 ahead of them; who is IT first by it -/
def lastW (T : TD) (t : Nat) : Nat := if tS T t = 2 then 0 else tF T
def bestG (F : Nat → Nat) : Nat → Nat × Nat
  | 0 => (0, F 0)
  | g + 1 => if (bestG F g).2 < F (g + 1) then (g + 1, F (g + 1)) else bestG F g
def mF (T : TD) : Nat → Nat → Nat
  | 0, _ => 0
  | k + 1, a => (bestG (fun g => jy1 T (tN T - 1 - k) g a + mF T k g) (lastW T (tN T - 1 - k))).2
def okW (T : TD) (w : Nat → Nat) : Prop := (∀ t, w t ≤ tF T) ∧ (∀ t, tN T ≤ t → w t = 0) ∧ ∀ t, t < tN T → tS T t = 2 → w t = 0
def okRow (T : TD) (r : Nat → Int32) : Prop := (∃ w, okW T w ∧ ∀ t, t < 6 → r t = cW (w t)) ∧ ∃ y, y ≤ 99 ∧ r 17 = nI y
def enc (k : Nat) (v : Int32) : Int32 := if k < 6 then (if v = -1 then -9 else v) else v
def eqRow (r s : Nat → Int32) : Prop := ∀ k, k < 18 → s k = enc k (r k)
/-- a Now of the class at place a, and a row of the reference -/
def RN (T : TD) (I : hI) (a : Nat) (S : Nat → Int32) : Prop := okRow T (rowC I a) ∧ eqRow (rowC I a) S ∧ ∃ u, u ≤ 10 ∧ I a 6 = nI u ∧ S 18 = nI u ∧ ∀ j, j < u → okRow T (fun k => I (a + 4) (18 * j + k)) ∧ eqRow (fun k => I (a + 4) (18 * j + k)) (fun k => S (19 + 18 * j + k))
def RText (I : hI) : Prop := ∃ n, n ≤ 150 ∧ I 1 1 = nI n ∧ I 67 2 = nI n ∧ ∀ k, k < n → I 2 k = I 68 k ∧ ∃ b, b < 256 ∧ I 2 k = nI b
def RTold (T : TD) (I : hI) (τ : Bool) : Prop := tOk T ∧ TC T I (hv_tp τ) ∧ TM T I
def RImg (T : TD) (I : hI) : Prop := ∀ i, i < 2 → I 73 i = I 35 i ∧ (I 35 i = 0 ∨ (I 35 i = 1 ∧ RN T I (25 + 5 * i) (fun k => I 72 (199 * i + k))))
def RSeen (T : TD) (I : hI) : Prop := ∃ m, m ≤ 6 ∧ I 36 2 = nI m ∧ I 67 9 = nI m ∧ ∀ k, k < m → ∃ t r, t < tN T ∧ tS T t ≠ 2 ∧ r ≤ 3 ∧ I 37 k = nI t ∧ I 38 k = nI r ∧ I 74 k = nI (4 * t + r)
def RMost (T : TD) (I : hI) : Prop := I 41 2 = 0 ∨ (I 41 2 = 1 ∧ (∀ t a, t ≤ tN T → a ≤ tF T → I (43 + t) a = nI (mF T (tN T - t) a)) ∧ ∀ t, t < tN T → I 50 t = cW (wy T (mrS T (wyN T)).2 t))
def RFair (T : TD) (I : hI) : Prop := I 41 6 = 0 ∨ (I 41 6 = 1 ∧ I 41 4 = (frS T (wyN T)).1 ∧ ∀ t, t < tN T → I 51 t = cW (wy T (frS T (wyN T)).2.2 t))
def RChs (T : TD) (I : hI) : Prop := I 63 2 = 0 ∨ (I 63 2 = 1 ∧ I 63 1 = (crS T (hrN T)).1 ∧ ∀ f, f < tF T → I 64 f = if hr T (crS T (hrN T)).2 f = 6 then -1 else nI (hr T (crS T (hrN T)).2 f))
def Rel (I : hI) (L : hL) (τ : Bool) : Prop := ∃ T, RText I ∧ RTold T I τ ∧ RN T I 19 (I 71) ∧ RImg T I ∧ RSeen T I ∧ RMost T I ∧ RFair T I ∧ RChs T I ∧ L 0 10 = L 67 0
/-! what each hangs on -/
theorem rowC_c {I I' : hI} {a : Nat} (h : ∀ k j, a ≤ k → k ≤ a + 4 → I' k j = I k j) (k : Nat) : rowC I' a k = rowC I a k := by
  unfold rowC
  rw [h _ _ (by omega) (by omega), h _ _ (by omega) (by omega), h _ _ (by omega) (by omega), h _ _ (by omega) (by omega), h _ _ (by omega) (by omega)]
theorem RN_c {T : TD} {I I' : hI} {a : Nat} {S S' : Nat → Int32} (h : ∀ k j, a ≤ k → k ≤ a + 4 → I' k j = I k j) (hS : ∀ k, k < 199 → S' k = S k) (hR : RN T I a S) : RN T I' a S' := by
  obtain ⟨h1, h2, u, h3, h4, h5, h6⟩ := hR
  have e : rowC I' a = rowC I a := funext (rowC_c h)
  refine ⟨by rw [e]; exact h1, fun k hk => by rw [e, hS k (by omega)]; exact h2 k hk, u, h3, by rw [h _ _ (by omega) (by omega)]; exact h4, by rw [hS _ (by omega)]; exact h5, fun j hj => ?_⟩
  have e2 : (fun k => I' (a + 4) (18 * j + k)) = (fun k => I (a + 4) (18 * j + k)) := funext fun k => h _ _ (by omega) (by omega)
  refine ⟨by rw [e2]; exact (h6 j hj).1, fun k hk => ?_⟩
  rw [e2]
  show S' (19 + 18 * j + k) = _
  rw [hS _ (by omega)]
  exact (h6 j hj).2 k hk
theorem RText_c {I I' : hI} (h1 : I' 1 1 = I 1 1) (h2 : ∀ j, I' 2 j = I 2 j) (h3 : I' 67 2 = I 67 2) (h4 : ∀ j, I' 68 j = I 68 j) (hR : RText I) : RText I' := by
  obtain ⟨n, a, b, c, e⟩ := hR
  exact ⟨n, a, h1.trans b, h3.trans c, fun k hk => by rw [h2, h4]; exact e k hk⟩
theorem hv_tp_or (τ : Bool) : hv_tp τ = 3 ∨ hv_tp τ = 11 := by cases τ <;> decide
theorem RTold_c {T : TD} {I I' : hI} {τ : Bool} (h1 : ∀ k j, 3 ≤ k → k ≤ 18 → I' k j = I k j) (h2 : ∀ j, I' 69 j = I 69 j) (hR : RTold T I τ) : RTold T I' τ := ⟨hR.1, TC_congr (hv_tp_or τ) hR.1.2.1 h1 hR.2.1, TM_congr h2 hR.2.2⟩
theorem RImg_c {T : TD} {I I' : hI} (h1 : ∀ k j, 25 ≤ k → k ≤ 35 → I' k j = I k j) (h2 : ∀ j, I' 72 j = I 72 j) (h3 : ∀ j, I' 73 j = I 73 j) (hR : RImg T I) : RImg T I' := by
  intro i hi
  obtain ⟨a, b⟩ := hR i hi
  refine ⟨by rw [h3, h1 _ _ (by omega) (by omega)]; exact a, ?_⟩
  rcases b with b | ⟨b, c⟩
  · exact Or.inl (by rw [h1 _ _ (by omega) (by omega)]; exact b)
  · exact Or.inr ⟨by rw [h1 _ _ (by omega) (by omega)]; exact b, RN_c (fun k j q1 q2 => h1 k j (by omega) (by omega)) (fun k _ => h2 _) c⟩
theorem RSeen_c {T : TD} {I I' : hI} (h1 : I' 36 2 = I 36 2) (h2 : ∀ j, I' 37 j = I 37 j) (h3 : ∀ j, I' 38 j = I 38 j) (h4 : I' 67 9 = I 67 9) (h5 : ∀ j, I' 74 j = I 74 j) (hR : RSeen T I) : RSeen T I' := by
  obtain ⟨m, a, b, c, e⟩ := hR
  exact ⟨m, a, h1.trans b, h4.trans c, fun k hk => by rw [h2, h3, h5]; exact e k hk⟩
theorem RMost_c {T : TD} {I I' : hI} (hN : tN T ≤ 6) (h1 : ∀ k j, 41 ≤ k → k ≤ 50 → I' k j = I k j) (hR : RMost T I) : RMost T I' := by
  rcases hR with a | ⟨a, b, c⟩
  · exact Or.inl (by rw [h1 _ _ (by omega) (by omega)]; exact a)
  · exact Or.inr ⟨by rw [h1 _ _ (by omega) (by omega)]; exact a, fun t x ht hx => by rw [h1 _ _ (by omega) (by omega)]; exact b t x ht hx, fun t ht => by rw [h1 _ _ (by omega) (by omega)]; exact c t ht⟩
theorem RFair_c {T : TD} {I I' : hI} (h1 : ∀ k j, 41 ≤ k → k ≤ 51 → I' k j = I k j) (hR : RFair T I) : RFair T I' := by
  rcases hR with a | ⟨a, b, c⟩
  · exact Or.inl (by rw [h1 _ _ (by omega) (by omega)]; exact a)
  · exact Or.inr ⟨by rw [h1 _ _ (by omega) (by omega)]; exact a, by rw [h1 _ _ (by omega) (by omega)]; exact b, fun t ht => by rw [h1 _ _ (by omega) (by omega)]; exact c t ht⟩
theorem RChs_c {T : TD} {I I' : hI} (h1 : ∀ k j, 63 ≤ k → k ≤ 64 → I' k j = I k j) (hR : RChs T I) : RChs T I' := by
  rcases hR with a | ⟨a, b, c⟩
  · exact Or.inl (by rw [h1 _ _ (by omega) (by omega)]; exact a)
  · exact Or.inr ⟨by rw [h1 _ _ (by omega) (by omega)]; exact a, by rw [h1 _ _ (by omega) (by omega)]; exact b, fun t ht => by rw [h1 _ _ (by omega) (by omega)]; exact c t ht⟩
/-- cells that say nothing -/
def scr (k j : Nat) : Prop := k = 66 ∨ k = 70 ∨ k = 75 ∨ k = 39 ∨ k = 40 ∨ (k = 67 ∧ 10 ≤ j) ∨ (52 ≤ k ∧ k ≤ 62) ∨ k = 65
theorem Rel_keep {I I' : hI} {L : hL} {τ : Bool} (h : ∀ k j, ¬ scr k j → I' k j = I k j) (hR : Rel I L τ) : Rel I' L τ := by
  obtain ⟨T, a1, a2, a3, a4, a5, a6, a7, a8, a9⟩ := hR
  have q : ∀ k j, ¬ (k = 66 ∨ k = 70 ∨ k = 75 ∨ k = 39 ∨ k = 40 ∨ (k = 67 ∧ 10 ≤ j) ∨ (52 ≤ k ∧ k ≤ 62) ∨ k = 65) → I' k j = I k j := h
  exact ⟨T, RText_c (q _ _ (by omega)) (fun j => q _ _ (by omega)) (q _ _ (by omega)) (fun j => q _ _ (by omega)) a1, RTold_c (fun k j _ _ => q _ _ (by omega)) (fun j => q _ _ (by omega)) a2, RN_c (fun k j _ _ => q _ _ (by omega)) (fun k _ => q _ _ (by omega)) a3,
    RImg_c (fun k j _ _ => q _ _ (by omega)) (fun j => q _ _ (by omega)) (fun j => q _ _ (by omega)) a4, RSeen_c (q _ _ (by omega)) (fun j => q _ _ (by omega)) (fun j => q _ _ (by omega)) (q _ _ (by omega)) (fun j => q _ _ (by omega)) a5,
    RMost_c a2.1.1 (fun k j _ _ => q _ _ (by omega)) a6, RFair_c (fun k j _ _ => q _ _ (by omega)) a7, RChs_c (fun k j _ _ => q _ _ (by omega)) a8, a9⟩
/-- only NOW has changed -/
theorem Rel_now {T : TD} {I I' : hI} {L : hL} {τ : Bool} (h : ∀ k j, ¬ scr k j → ¬ (19 ≤ k ∧ k ≤ 23) → k ≠ 71 → I' k j = I k j) (h1 : RText I) (h2 : RTold T I τ) (h3 : RN T I' 19 (I' 71)) (h4 : RImg T I) (h5 : RSeen T I) (h6 : RMost T I) (h7 : RFair T I) (h8 : RChs T I) (h9 : L 0 10 = L 67 0) : Rel I' L τ := by
  have q : ∀ k j, ¬ (k = 66 ∨ k = 70 ∨ k = 75 ∨ k = 39 ∨ k = 40 ∨ (k = 67 ∧ 10 ≤ j) ∨ (52 ≤ k ∧ k ≤ 62) ∨ k = 65 ∨ (19 ≤ k ∧ k ≤ 23) ∨ k = 71) → I' k j = I k j := fun k j hk => h k j (fun z => hk (by unfold scr at z; omega)) (by omega) (by omega)
  exact ⟨T, RText_c (q _ _ (by omega)) (fun j => q _ _ (by omega)) (q _ _ (by omega)) (fun j => q _ _ (by omega)) h1, RTold_c (fun k j _ _ => q _ _ (by omega)) (fun j => q _ _ (by omega)) h2, h3,
    RImg_c (fun k j _ _ => q _ _ (by omega)) (fun j => q _ _ (by omega)) (fun j => q _ _ (by omega)) h4, RSeen_c (q _ _ (by omega)) (fun j => q _ _ (by omega)) (fun j => q _ _ (by omega)) (q _ _ (by omega)) (fun j => q _ _ (by omega)) h5,
    RMost_c h2.1.1 (fun k j _ _ => q _ _ (by omega)) h6, RFair_c (fun k j _ _ => q _ _ (by omega)) h7, RChs_c (fun k j _ _ => q _ _ (by omega)) h8, h9⟩
/-- a call on both sides, with the same answer -/
def Both (xs : hv_X) (y1 y2 : MethodName) (as : List Value) (I : hI) (L : hL) (τ : Bool) : Prop :=
  ∃ (I1 I2 : hI) (L1 L2 : hL) (τ1 : Bool) (v : Int32), hv_Ok xs 20 y1 (.ref 0 :: as) hv_SH (I, L, hv_PP τ) (some (.int v)) (I1, L1, hv_PP τ1) ∧ hv_Ok xs 20 y2 (.ref 67 :: as) hv_SH (I1, L1, hv_PP τ1) (some (.int v)) (I2, L2, hv_PP τ1) ∧ Rel I2 L2 τ1
def BothL (xs : hv_X) (y1 y2 : MethodName) (as : List Value) (I : hI) (L : hL) (τ : Bool) : Prop :=
  ∃ (I1 I2 : hI) (L1 L2 : hL) (τ1 : Bool) (v : Int64), hv_Ok xs 20 y1 (.ref 0 :: as) hv_SH (I, L, hv_PP τ) (some (.long v)) (I1, L1, hv_PP τ1) ∧ hv_Ok xs 20 y2 (.ref 67 :: as) hv_SH (I1, L1, hv_PP τ1) (some (.long v)) (I2, L2, hv_PP τ1) ∧ Rel I2 L2 τ1
