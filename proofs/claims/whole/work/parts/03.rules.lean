/-! ===== the run as the least such set: one step ahead is the same ===== -/
section HVR
variable {own : Nat} {xs : hv_X} {cc : ByteArray} {rt D MC MS : Nat} {Q : hv_Q} {i : Instr} {pc len : Nat} {ls : hv_Ls} {st : List Value} {S : hv_S} {μ : hv_M} {X Y : hv_C → Prop} {q q' : hv_C}
theorem hv_call_mono (h : ∀ q, X q → Y q) (hc : hv_call own xs D MC MS i pc ls st S μ X) : hv_call own xs D MC MS i pc ls st S μ Y := by
  obtain ⟨x, k0, y, n, kd, av, rest, d, mc, ms, post, h1, h2, h3, h4, h5, h6, h7, h8, h9, h10, h11, h12⟩ := hc
  exact ⟨x, k0, y, n, kd, av, rest, d, mc, ms, post, h1, h2, h3, h4, h5, h6, h7, h8, h9, h10, h11, fun r sh' μ' hp => h _ (h12 r sh' μ' hp)⟩
theorem hv_next_mono (h : ∀ q, X q → Y q) (hn : hv_next own xs cc rt D MC MS Q X q) : hv_next own xs cc rt D MC MS Q Y q := by
  obtain ⟨i, len, hd, hlo, h1 | h1 | h1⟩ := hn
  · obtain ⟨q', e, hx⟩ := h1
    exact ⟨i, len, hd, hlo, Or.inl ⟨q', e, h _ hx⟩⟩
  · exact ⟨i, len, hd, hlo, Or.inr (Or.inl (hv_call_mono h h1))⟩
  · exact ⟨i, len, hd, hlo, Or.inr (Or.inr h1)⟩
theorem hv_R_in (h : hv_next own xs cc rt D MC MS Q (hv_R own xs cc rt D MC MS Q) q) : hv_R own xs cc rt D MC MS Q q := fun X hX => hX q (hv_next_mono (fun _ hq => hq X hX) h)
theorem hv_R_out (h : hv_R own xs cc rt D MC MS Q q) : hv_next own xs cc rt D MC MS Q (hv_R own xs cc rt D MC MS Q) q :=
  h _ (fun _ hq => hv_next_mono (fun _ hq2 => hv_R_in hq2) hq)
theorem hv_nc (h : hv_inv i = none) : ¬ hv_call own xs D MC MS i pc ls st S μ X := by
  rintro ⟨x, k0, y, n, kd, av, rest, d, mc, ms, post, h1, -⟩
  rw [h] at h1
  cases h1
theorem hv_nc2 {x k0 : Nat} (h : hv_inv i = some (x, k0)) (h2 : hv_ml.lookup (hv_kx own x) = none) : ¬ hv_call own xs D MC MS i pc ls st S μ X := by
  rintro ⟨x', k0', y, n, kd, av, rest, d, mc, ms, post, h1, h3, -⟩
  rw [h] at h1
  cases h1
  rw [h2] at h3
  cases h3
theorem hv_R_stepG (hd : decode cc pc = .ok (i, len)) (hlo : hv_lo i len = true) (hc : ¬ hv_call own xs D MC MS i pc ls st S μ (hv_R own xs cc rt D MC MS Q)) (hr : hv_ret rt i st = none) {o : Option hv_C} (hs : hv_step own xs rt D MC MS i pc ls st S μ = o) :
    hv_R own xs cc rt D MC MS Q (pc, ls, st, S, μ) ↔ ∃ q', o = some q' ∧ hv_R own xs cc rt D MC MS Q q' := by
  constructor
  · intro h
    obtain ⟨i', len', hd', hlo', h1⟩ := hv_R_out h
    dsimp only at hd' h1
    rw [hd] at hd'
    cases hd'
    rcases h1 with h1 | h1 | ⟨r, h1, -⟩
    · obtain ⟨q', e, hx⟩ := h1
      exact ⟨q', hs.symm.trans e, hx⟩
    · exact absurd h1 hc
    · rw [hr] at h1
      cases h1
  · rintro ⟨q', e, hx⟩
    exact hv_R_in ⟨i, len, hd, hlo, Or.inl ⟨q', hs.trans e, hx⟩⟩
theorem hv_R_step (hd : decode cc pc = .ok (i, len)) (hlo : hv_lo i len = true) (hc : hv_inv i = none) (hr : hv_ret rt i st = none) (hs : hv_step own xs rt D MC MS i pc ls st S μ = some q') : hv_R own xs cc rt D MC MS Q (pc, ls, st, S, μ) ↔ hv_R own xs cc rt D MC MS Q q' := by
  rw [hv_R_stepG hd hlo (hv_nc hc) hr hs]
  constructor
  · rintro ⟨q2, e, h⟩
    cases e
    exact h
  · exact fun h => ⟨_, rfl, h⟩
theorem hv_R_if {c : Prop} [Decidable c] (hd : decode cc pc = .ok (i, len)) (hlo : hv_lo i len = true) (hc : hv_inv i = none) (hr : hv_ret rt i st = none) (hs : hv_step own xs rt D MC MS i pc ls st S μ = if c then some q' else none) : hv_R own xs cc rt D MC MS Q (pc, ls, st, S, μ) ↔ c ∧ hv_R own xs cc rt D MC MS Q q' := by
  rw [hv_R_stepG hd hlo (hv_nc hc) hr hs]
  by_cases h : c
  · simp [h]
  · simp [h]
theorem hv_R_if2 {c : Prop} [Decidable c] {x k0 : Nat} (hd : decode cc pc = .ok (i, len)) (hlo : hv_lo i len = true) (hc : hv_inv i = some (x, k0)) (hm : hv_ml.lookup (hv_kx own x) = none) (hr : hv_ret rt i st = none) (hs : hv_step own xs rt D MC MS i pc ls st S μ = if c then some q' else none) : hv_R own xs cc rt D MC MS Q (pc, ls, st, S, μ) ↔ c ∧ hv_R own xs cc rt D MC MS Q q' := by
  rw [hv_R_stepG hd hlo (hv_nc2 hc hm) hr hs]
  by_cases h : c
  · simp [h]
  · simp [h]
theorem hv_R_br {c : Prop} [Decidable c] {q'' : hv_C} (hd : decode cc pc = .ok (i, len)) (hlo : hv_lo i len = true) (hc : hv_inv i = none) (hr : hv_ret rt i st = none) (hs : hv_step own xs rt D MC MS i pc ls st S μ = if c then some q' else some q'') : hv_R own xs cc rt D MC MS Q (pc, ls, st, S, μ) ↔ if c then hv_R own xs cc rt D MC MS Q q' else hv_R own xs cc rt D MC MS Q q'' := by
  rw [hv_R_stepG hd hlo (hv_nc hc) hr hs]
  by_cases h : c
  · simp [h]
  · simp [h]
/-- a return -/
theorem hv_R_ret {r : Option Value} (hd : decode cc pc = .ok (i, len)) (hlo : hv_lo i len = true) (hc : hv_inv i = none) (hs : hv_step own xs rt D MC MS i pc ls st S μ = none) (hr : hv_ret rt i st = some r) : hv_R own xs cc rt D MC MS Q (pc, ls, st, S, μ) ↔ Q r S μ := by
  constructor
  · intro h
    obtain ⟨i', len', hd', hlo', h1⟩ := hv_R_out h
    dsimp only at hd' h1
    rw [hd] at hd'
    cases hd'
    rcases h1 with h1 | h1 | ⟨r', h1, h2⟩
    · obtain ⟨q', e, -⟩ := h1
      rw [hs] at e
      cases e
    · exact absurd h1 (hv_nc hc)
    · rw [hr] at h1
      cases h1
      exact h2
  · exact fun h => hv_R_in ⟨i, len, hd, hlo, Or.inr (Or.inr ⟨r, hr, h⟩)⟩
theorem hv_R_zret {v : Int32} (hrt : rt = 3) (hd : decode cc pc = .ok (.ireturn, 1)) : hv_R own xs cc rt D MC MS Q (pc, ls, [.int v], S, μ) ↔ (v = 0 ∨ v = 1) ∧ Q (some (.int v)) S μ := by
  subst hrt
  by_cases hv : v = 0 ∨ v = 1
  · rw [hv_R_ret (r := some (.int v)) hd rfl rfl rfl (by simp [hv_ret, hv])]
    simp [hv]
  · constructor
    · intro h
      obtain ⟨i', len', hd', hlo', h1⟩ := hv_R_out h
      dsimp only at hd' h1
      rw [hd] at hd'
      cases hd'
      rcases h1 with ⟨q', e, -⟩ | h1 | ⟨r', h1, h2⟩
      · cases e
      · exact absurd h1 (hv_nc rfl)
      · simp [hv_ret, hv] at h1
    · exact fun h => absurd h.1 hv
/-- a call -/
theorem hv_R_call {x k0 : Nat} {y : MethodName} {n kd : Nat} (av rest : List Value) {d mc ms : Nat} {post : hv_Po} (hd : decode cc pc = .ok (i, len)) (hlo : hv_lo i len = true) (hi : hv_inv i = some (x, k0)) (hm : hv_ml.lookup (hv_kx own x) = some (y, n, kd)) (hk : min kd 2 = k0) (hst : st = av.reverse ++ rest) (hn : av.length = n + min kd 1) (hw : (rest.map fun v => v.category).sum ≤ 8)
    (hp : kd ≠ 0 → ∃ (p : Nat) (As : List Value), av = .ref p :: As ∧ (kd = 1 → ∃ c, c < 8 ∧ hv_kd S p = some c ∧ hv_nm c = y.cls)) (hD : hv_Does xs d mc ms y av S.1 μ post) (h1 : d + 1 ≤ D) (h2 : S.2.1 + mc ≤ MC) (h3 : S.2.2 + ms ≤ MS)
    (hq : ∀ (r : Option Value) (sh' : hv_Sh) (μ' : hv_M), post r sh' μ' → hv_R own xs cc rt D MC MS Q (pc + 3, ls, r.toList ++ rest, (sh', S.2.1 + mc, S.2.2 + ms), μ')) : hv_R own xs cc rt D MC MS Q (pc, ls, st, S, μ) :=
  hv_R_in ⟨i, len, hd, hlo, Or.inr (Or.inl ⟨x, k0, y, n, kd, av, rest, d, mc, ms, post, hi, hm, hk, hst, hn, hw, hp, hD, h1, h2, h3, hq⟩)⟩
/-! one instruction, one row -/
theorem rr_iconst {n : Int} {v : Int32} (hd : decode cc pc = .ok (.iconst n, 1)) (hv : Int32.ofInt n = v) : hv_R own xs cc rt D MC MS Q (pc, ls, st, S, μ) ↔ hv_R own xs cc rt D MC MS Q (pc + 1, ls, .int v :: st, S, μ) := by
  subst hv; exact hv_R_step hd rfl rfl rfl rfl
theorem rr_bipush {n : Int} {v : Int32} (hd : decode cc pc = .ok (.bipush n, 2)) (hv : (Int8.ofInt n).toInt32 = v) : hv_R own xs cc rt D MC MS Q (pc, ls, st, S, μ) ↔ hv_R own xs cc rt D MC MS Q (pc + 2, ls, .int v :: st, S, μ) := by
  subst hv; exact hv_R_step hd rfl rfl rfl rfl
theorem rr_sipush {n : Int} {v : Int32} (hd : decode cc pc = .ok (.sipush n, 3)) (hv : (Int16.ofInt n).toInt32 = v) : hv_R own xs cc rt D MC MS Q (pc, ls, st, S, μ) ↔ hv_R own xs cc rt D MC MS Q (pc + 3, ls, .int v :: st, S, μ) := by
  subst hv; exact hv_R_step hd rfl rfl rfl rfl
theorem rr_lconst {n : Fin 2} {v : Int64} (hd : decode cc pc = .ok (.lconst n, 1)) (hv : Int64.ofNat (n : Nat) = v) : hv_R own xs cc rt D MC MS Q (pc, ls, st, S, μ) ↔ hv_R own xs cc rt D MC MS Q (pc + 1, ls, .long v :: st, S, μ) := by
  subst hv; exact hv_R_step hd rfl rfl rfl rfl
theorem rr_iload_n {k : Fin 4} {x : Int32} (hd : decode cc pc = .ok (.iload_n k, 1)) (hl : ls[k.val]? = some (some (.int x))) : hv_R own xs cc rt D MC MS Q (pc, ls, st, S, μ) ↔ hv_R own xs cc rt D MC MS Q (pc + 1, ls, .int x :: st, S, μ) :=
  hv_R_step hd rfl rfl rfl (by simp [hv_step, hv_sA, hv_ldi, hl])
theorem rr_iload {k : Nat} {x : Int32} (hd : decode cc pc = .ok (.iload k, 2)) (hl : ls[k]? = some (some (.int x))) : hv_R own xs cc rt D MC MS Q (pc, ls, st, S, μ) ↔ hv_R own xs cc rt D MC MS Q (pc + 2, ls, .int x :: st, S, μ) :=
  hv_R_step hd rfl rfl rfl (by simp [hv_step, hv_sA, hv_ldi, hl])
theorem rr_lload_n {k : Fin 4} {x : Int64} (hd : decode cc pc = .ok (.lload_n k, 1)) (hl : ls[k.val]? = some (some (.long x))) : hv_R own xs cc rt D MC MS Q (pc, ls, st, S, μ) ↔ hv_R own xs cc rt D MC MS Q (pc + 1, ls, .long x :: st, S, μ) :=
  hv_R_step hd rfl rfl rfl (by simp [hv_step, hv_sA, hv_ldl, hl])
theorem rr_lload {k : Nat} {x : Int64} (hd : decode cc pc = .ok (.lload k, 2)) (hl : ls[k]? = some (some (.long x))) : hv_R own xs cc rt D MC MS Q (pc, ls, st, S, μ) ↔ hv_R own xs cc rt D MC MS Q (pc + 2, ls, .long x :: st, S, μ) :=
  hv_R_step hd rfl rfl rfl (by simp [hv_step, hv_sA, hv_ldl, hl])
theorem rr_aload_n {k : Fin 4} {x : Nat} (hd : decode cc pc = .ok (.aload_n k, 1)) (hl : ls[k.val]? = some (some (.ref x))) : hv_R own xs cc rt D MC MS Q (pc, ls, st, S, μ) ↔ hv_R own xs cc rt D MC MS Q (pc + 1, ls, .ref x :: st, S, μ) :=
  hv_R_step hd rfl rfl rfl (by simp [hv_step, hv_sA, hv_lda, hl])
theorem rr_aload_nO {k : Fin 4} {x : Nat} (hd : decode cc pc = .ok (.aload_n k, 1)) (hl : ls[k.val]? = some (some (.retAddr x))) : hv_R own xs cc rt D MC MS Q (pc, ls, st, S, μ) ↔ hv_R own xs cc rt D MC MS Q (pc + 1, ls, .retAddr x :: st, S, μ) :=
  hv_R_step hd rfl rfl rfl (by simp [hv_step, hv_sA, hv_lda, hl])
theorem rr_istore_n {k : Fin 4} {x : Int32} {ls' : hv_Ls} (hd : decode cc pc = .ok (.istore_n k, 1)) (hk : k.val < ls.length) (hl : hv_s1 ls k.val (.int x) = ls') : hv_R own xs cc rt D MC MS Q (pc, ls, .int x :: st, S, μ) ↔ hv_R own xs cc rt D MC MS Q (pc + 1, ls', st, S, μ) :=
  hv_R_step hd rfl rfl rfl (by simp [hv_step, hv_sA, hv_sti, hk, hl])
theorem rr_istore {k : Nat} {x : Int32} {ls' : hv_Ls} (hd : decode cc pc = .ok (.istore k, 2)) (hk : k < ls.length) (hl : hv_s1 ls k (.int x) = ls') : hv_R own xs cc rt D MC MS Q (pc, ls, .int x :: st, S, μ) ↔ hv_R own xs cc rt D MC MS Q (pc + 2, ls', st, S, μ) :=
  hv_R_step hd rfl rfl rfl (by simp [hv_step, hv_sA, hv_sti, hk, hl])
theorem rr_lstore_n {k : Fin 4} {x : Int64} {ls' : hv_Ls} (hd : decode cc pc = .ok (.lstore_n k, 1)) (hk : k.val + 1 < ls.length) (hl : hv_s2 ls k.val (.long x) = ls') : hv_R own xs cc rt D MC MS Q (pc, ls, .long x :: st, S, μ) ↔ hv_R own xs cc rt D MC MS Q (pc + 1, ls', st, S, μ) :=
  hv_R_step hd rfl rfl rfl (by simp [hv_step, hv_sA, hv_stl, hk, hl])
theorem rr_lstore {k : Nat} {x : Int64} {ls' : hv_Ls} (hd : decode cc pc = .ok (.lstore k, 2)) (hk : k + 1 < ls.length) (hl : hv_s2 ls k (.long x) = ls') : hv_R own xs cc rt D MC MS Q (pc, ls, .long x :: st, S, μ) ↔ hv_R own xs cc rt D MC MS Q (pc + 2, ls', st, S, μ) :=
  hv_R_step hd rfl rfl rfl (by simp [hv_step, hv_sA, hv_stl, hk, hl])
theorem rr_astore_n {k : Fin 4} {x : Nat} {ls' : hv_Ls} (hd : decode cc pc = .ok (.astore_n k, 1)) (hk : k.val < ls.length) (hl : hv_s1 ls k.val (.ref x) = ls') : hv_R own xs cc rt D MC MS Q (pc, ls, .ref x :: st, S, μ) ↔ hv_R own xs cc rt D MC MS Q (pc + 1, ls', st, S, μ) :=
  hv_R_step hd rfl rfl rfl (by simp [hv_step, hv_sA, hv_sta, hk, hl])
theorem rr_iinc {k : Nat} {n : Int} {x d : Int32} {ls' : hv_Ls} (hd : decode cc pc = .ok (.iinc k n, 3)) (hx : ls[k]? = some (some (.int x))) (hn : Int32.ofInt n = d) (hl : hv_s1 ls k (.int (x + d)) = ls') : hv_R own xs cc rt D MC MS Q (pc, ls, st, S, μ) ↔ hv_R own xs cc rt D MC MS Q (pc + 3, ls', st, S, μ) := by
  subst hn
  exact hv_R_step hd rfl rfl rfl (by simp [hv_step, hv_sA, hx, hl])
theorem rr_iadd {x y : Int32} (hd : decode cc pc = .ok (.iadd, 1)) : hv_R own xs cc rt D MC MS Q (pc, ls, .int y :: .int x :: st, S, μ) ↔ hv_R own xs cc rt D MC MS Q (pc + 1, ls, .int (x + y) :: st, S, μ) := hv_R_step hd rfl rfl rfl rfl
theorem rr_isub {x y : Int32} (hd : decode cc pc = .ok (.isub, 1)) : hv_R own xs cc rt D MC MS Q (pc, ls, .int y :: .int x :: st, S, μ) ↔ hv_R own xs cc rt D MC MS Q (pc + 1, ls, .int (x - y) :: st, S, μ) := hv_R_step hd rfl rfl rfl rfl
theorem rr_imul {x y : Int32} (hd : decode cc pc = .ok (.imul, 1)) : hv_R own xs cc rt D MC MS Q (pc, ls, .int y :: .int x :: st, S, μ) ↔ hv_R own xs cc rt D MC MS Q (pc + 1, ls, .int (x * y) :: st, S, μ) := hv_R_step hd rfl rfl rfl rfl
theorem rr_iand {x y : Int32} (hd : decode cc pc = .ok (.iand, 1)) : hv_R own xs cc rt D MC MS Q (pc, ls, .int y :: .int x :: st, S, μ) ↔ hv_R own xs cc rt D MC MS Q (pc + 1, ls, .int (x &&& y) :: st, S, μ) := hv_R_step hd rfl rfl rfl rfl
theorem rr_ior {x y : Int32} (hd : decode cc pc = .ok (.ior, 1)) : hv_R own xs cc rt D MC MS Q (pc, ls, .int y :: .int x :: st, S, μ) ↔ hv_R own xs cc rt D MC MS Q (pc + 1, ls, .int (x ||| y) :: st, S, μ) := hv_R_step hd rfl rfl rfl rfl
theorem rr_ixor {x y : Int32} (hd : decode cc pc = .ok (.ixor, 1)) : hv_R own xs cc rt D MC MS Q (pc, ls, .int y :: .int x :: st, S, μ) ↔ hv_R own xs cc rt D MC MS Q (pc + 1, ls, .int (x ^^^ y) :: st, S, μ) := hv_R_step hd rfl rfl rfl rfl
theorem rr_ishl {x y : Int32} (hd : decode cc pc = .ok (.ishl, 1)) : hv_R own xs cc rt D MC MS Q (pc, ls, .int y :: .int x :: st, S, μ) ↔ hv_R own xs cc rt D MC MS Q (pc + 1, ls, .int (x <<< (y &&& 31)) :: st, S, μ) := hv_R_step hd rfl rfl rfl rfl
theorem rr_ishr {x y : Int32} (hd : decode cc pc = .ok (.ishr, 1)) : hv_R own xs cc rt D MC MS Q (pc, ls, .int y :: .int x :: st, S, μ) ↔ hv_R own xs cc rt D MC MS Q (pc + 1, ls, .int (x >>> (y &&& 31)) :: st, S, μ) := hv_R_step hd rfl rfl rfl rfl
theorem rr_iushr {x y : Int32} (hd : decode cc pc = .ok (.iushr, 1)) : hv_R own xs cc rt D MC MS Q (pc, ls, .int y :: .int x :: st, S, μ) ↔ hv_R own xs cc rt D MC MS Q (pc + 1, ls, .int ((x.toUInt32 >>> (y.toUInt32 &&& Int32.toUInt32 31)).toInt32) :: st, S, μ) := hv_R_step hd rfl rfl rfl rfl
theorem rr_idiv {x y : Int32} (hd : decode cc pc = .ok (.idiv, 1)) : hv_R own xs cc rt D MC MS Q (pc, ls, .int y :: .int x :: st, S, μ) ↔ y ≠ 0 ∧ hv_R own xs cc rt D MC MS Q (pc + 1, ls, .int (x / y) :: st, S, μ) :=
  hv_R_if hd rfl rfl rfl (by by_cases h : y = 0 <;> simp [hv_step, hv_sA, hv_d2, hv_sM, h])
theorem rr_irem {x y : Int32} (hd : decode cc pc = .ok (.irem, 1)) : hv_R own xs cc rt D MC MS Q (pc, ls, .int y :: .int x :: st, S, μ) ↔ y ≠ 0 ∧ hv_R own xs cc rt D MC MS Q (pc + 1, ls, .int (x - x / y * y) :: st, S, μ) :=
  hv_R_if hd rfl rfl rfl (by by_cases h : y = 0 <;> simp [hv_step, hv_sA, hv_d2, hv_sM, h])
theorem rr_ineg {x : Int32} (hd : decode cc pc = .ok (.ineg, 1)) : hv_R own xs cc rt D MC MS Q (pc, ls, .int x :: st, S, μ) ↔ hv_R own xs cc rt D MC MS Q (pc + 1, ls, .int (-x) :: st, S, μ) := hv_R_step hd rfl rfl rfl rfl
theorem rr_ladd {x y : Int64} (hd : decode cc pc = .ok (.ladd, 1)) : hv_R own xs cc rt D MC MS Q (pc, ls, .long y :: .long x :: st, S, μ) ↔ hv_R own xs cc rt D MC MS Q (pc + 1, ls, .long (x + y) :: st, S, μ) := hv_R_step hd rfl rfl rfl rfl
theorem rr_lmul {x y : Int64} (hd : decode cc pc = .ok (.lmul, 1)) : hv_R own xs cc rt D MC MS Q (pc, ls, .long y :: .long x :: st, S, μ) ↔ hv_R own xs cc rt D MC MS Q (pc + 1, ls, .long (x * y) :: st, S, μ) := hv_R_step hd rfl rfl rfl rfl
theorem rr_ldiv {x y : Int64} (hd : decode cc pc = .ok (.ldiv, 1)) : hv_R own xs cc rt D MC MS Q (pc, ls, .long y :: .long x :: st, S, μ) ↔ y ≠ 0 ∧ hv_R own xs cc rt D MC MS Q (pc + 1, ls, .long (x / y) :: st, S, μ) :=
  hv_R_if hd rfl rfl rfl (by by_cases h : y = 0 <;> simp [hv_step, hv_sA, hv_ld2, hv_sM, h])
theorem rr_lrem {x y : Int64} (hd : decode cc pc = .ok (.lrem, 1)) : hv_R own xs cc rt D MC MS Q (pc, ls, .long y :: .long x :: st, S, μ) ↔ y ≠ 0 ∧ hv_R own xs cc rt D MC MS Q (pc + 1, ls, .long (x - x / y * y) :: st, S, μ) :=
  hv_R_if hd rfl rfl rfl (by by_cases h : y = 0 <;> simp [hv_step, hv_sA, hv_ld2, hv_sM, h])
theorem rr_lcmp {x y : Int64} (hd : decode cc pc = .ok (.lcmp, 1)) : hv_R own xs cc rt D MC MS Q (pc, ls, .long y :: .long x :: st, S, μ) ↔ hv_R own xs cc rt D MC MS Q (pc + 1, ls, .int (lg_cmp x y) :: st, S, μ) := hv_R_step hd rfl rfl rfl rfl
theorem rr_i2l {x : Int32} (hd : decode cc pc = .ok (.i2l, 1)) : hv_R own xs cc rt D MC MS Q (pc, ls, .int x :: st, S, μ) ↔ hv_R own xs cc rt D MC MS Q (pc + 1, ls, .long x.toInt64 :: st, S, μ) := hv_R_step hd rfl rfl rfl rfl
theorem rr_dup_i {x : Int32} (hd : decode cc pc = .ok (.dup, 1)) : hv_R own xs cc rt D MC MS Q (pc, ls, .int x :: st, S, μ) ↔ hv_R own xs cc rt D MC MS Q (pc + 1, ls, .int x :: .int x :: st, S, μ) := hv_R_step hd rfl rfl rfl rfl
theorem rr_dup_r {x : Nat} (hd : decode cc pc = .ok (.dup, 1)) : hv_R own xs cc rt D MC MS Q (pc, ls, .ref x :: st, S, μ) ↔ hv_R own xs cc rt D MC MS Q (pc + 1, ls, .ref x :: .ref x :: st, S, μ) := hv_R_step hd rfl rfl rfl rfl
theorem rr_pop_i {x : Int32} (hd : decode cc pc = .ok (.pop, 1)) : hv_R own xs cc rt D MC MS Q (pc, ls, .int x :: st, S, μ) ↔ hv_R own xs cc rt D MC MS Q (pc + 1, ls, st, S, μ) := hv_R_step hd rfl rfl rfl rfl
theorem rr_dup2 {x : Int32} {p : Nat} (hd : decode cc pc = .ok (.dup2, 1)) : hv_R own xs cc rt D MC MS Q (pc, ls, .int x :: .ref p :: st, S, μ) ↔ hv_R own xs cc rt D MC MS Q (pc + 1, ls, .int x :: .ref p :: .int x :: .ref p :: st, S, μ) := hv_R_step hd rfl rfl rfl rfl
theorem hv_jmp_to {off : Int} {tgt : Nat} (ht : (pc : Int) + off = (tgt : Int)) : hv_jmp pc off ls st = some (tgt, ls, st) := by
  unfold hv_jmp
  rw [ht]
  simp
theorem rr_goto {off : Int} {tgt : Nat} (hd : decode cc pc = .ok (.goto off, 3)) (ht : (pc : Int) + off = (tgt : Int)) : hv_R own xs cc rt D MC MS Q (pc, ls, st, S, μ) ↔ hv_R own xs cc rt D MC MS Q (tgt, ls, st, S, μ) :=
  hv_R_step hd rfl rfl rfl (by simp [hv_step, hv_sA, hv_jmp_to ht])
theorem rr_ifc {c : Jvm.ClassFile.Cond} {off : Int} {tgt : Nat} {x : Int32} {p : Prop} [Decidable p] (hd : decode cc pc = .ok (.ifCond c off, 3)) (ht : (pc : Int) + off = (tgt : Int)) (hp : hv_cmp c x 0 = decide p) : hv_R own xs cc rt D MC MS Q (pc, ls, .int x :: st, S, μ) ↔ if p then hv_R own xs cc rt D MC MS Q (tgt, ls, st, S, μ) else hv_R own xs cc rt D MC MS Q (pc + 3, ls, st, S, μ) :=
  hv_R_br hd rfl rfl rfl (by
    have h0 : 0 ≤ (pc : Int) + off := by rw [ht]; omega
    by_cases h : p <;> simp [hv_step, hv_sA, hv_jmp_to ht, hp, h, h0])
theorem rr_icmp {c : Jvm.ClassFile.Cond} {off : Int} {tgt : Nat} {x y : Int32} {p : Prop} [Decidable p] (hd : decode cc pc = .ok (.if_icmp c off, 3)) (ht : (pc : Int) + off = (tgt : Int)) (hp : hv_cmp c x y = decide p) : hv_R own xs cc rt D MC MS Q (pc, ls, .int y :: .int x :: st, S, μ) ↔ if p then hv_R own xs cc rt D MC MS Q (tgt, ls, st, S, μ) else hv_R own xs cc rt D MC MS Q (pc + 3, ls, st, S, μ) :=
  hv_R_br hd rfl rfl rfl (by
    have h0 : 0 ≤ (pc : Int) + off := by rw [ht]; omega
    by_cases h : p <;> simp [hv_step, hv_sA, hv_jmp_to ht, hp, h, h0])
theorem rr_tsw_out {dflt lo hi : Int} {offs : Array Int} {tgt : Nat} {x : Int32} (hd : decode cc pc = .ok (.tableswitch dflt lo hi offs, len)) (hx : x.toInt < lo ∨ hi < x.toInt) (ht : (pc : Int) + dflt = (tgt : Int)) : hv_R own xs cc rt D MC MS Q (pc, ls, .int x :: st, S, μ) ↔ hv_R own xs cc rt D MC MS Q (tgt, ls, st, S, μ) :=
  hv_R_step hd rfl rfl rfl (by simp [hv_step, hv_sA, hx, hv_jmp_to ht])
theorem rr_tsw_in {dflt lo hi : Int} {offs : Array Int} {off : Int} {tgt : Nat} {x : Int32} (hd : decode cc pc = .ok (.tableswitch dflt lo hi offs, len)) (hx : ¬ (x.toInt < lo ∨ hi < x.toInt)) (ho : offs[(x.toInt - lo).toNat]? = some off) (ht : (pc : Int) + off = (tgt : Int)) : hv_R own xs cc rt D MC MS Q (pc, ls, .int x :: st, S, μ) ↔ hv_R own xs cc rt D MC MS Q (tgt, ls, st, S, μ) :=
  hv_R_step hd rfl rfl rfl (by simp [hv_step, hv_sA, hx, ho, hv_jmp_to ht])
theorem rr_lsw {dflt : Int} {ps : Array (Int × Int)} {off : Int} {tgt : Nat} {x : Int32} (hd : decode cc pc = .ok (.lookupswitch dflt ps, len)) (hp : (ps.toList.zip (ps.toList.drop 1)).all (fun (a, next) => a.1 < next.1) = true) (ho : Op.lookupswitch.offset ps.toList dflt x.toInt = off) (ht : (pc : Int) + off = (tgt : Int)) : hv_R own xs cc rt D MC MS Q (pc, ls, .int x :: st, S, μ) ↔ hv_R own xs cc rt D MC MS Q (tgt, ls, st, S, μ) :=
  hv_R_step hd rfl rfl rfl (by subst ho; simp only [hv_step, hv_sA, hp, if_true, hv_jmp_to ht])
theorem rr_get {x c j p : Nat} {v : Value} (hd : decode cc pc = .ok (.getfield x, 3)) (hl : hv_fl.lookup (hv_kx own x) = some (c, j)) (hv : hv_fv0 μ p c j = v) : hv_R own xs cc rt D MC MS Q (pc, ls, .ref p :: st, S, μ) ↔ hv_kd S p = some c ∧ hv_R own xs cc rt D MC MS Q (pc + 3, ls, v :: st, S, μ) :=
  hv_R_if hd rfl rfl rfl (by subst hv; simp only [hv_step, hv_sA, hv_sM, hl])
theorem rr_put {x c j p : Nat} {v : Value} {μ' : hv_M} (hd : decode cc pc = .ok (.putfield x, 3)) (hl : hv_fl.lookup (hv_kx own x) = some (c, j)) (hf : (hv_T c j).2.2.2 = true → rt = 4 ∧ own = c) (hv : hv_putv μ p c j v = some μ') : hv_R own xs cc rt D MC MS Q (pc, ls, v :: .ref p :: st, S, μ) ↔ hv_kd S p = some c ∧ hv_R own xs cc rt D MC MS Q (pc + 3, ls, st, S, μ') :=
  hv_R_if hd rfl rfl rfl (by
    by_cases h : hv_kd S p = some c
    · simp only [hv_step, hv_sA, hv_sM, hl, h, hv]
      rw [if_pos ⟨trivial, hf⟩]
      rfl
    · simp only [hv_step, hv_sA, hv_sM, hl, h]
      simp)
theorem rr_iaload {p : Nat} {i : Int32} (hd : decode cc pc = .ok (.iaload, 1)) : hv_R own xs cc rt D MC MS Q (pc, ls, .int i :: .ref p :: st, S, μ) ↔ hv_ix i (hv_ln S p 10) = true ∧ hv_R own xs cc rt D MC MS Q (pc + 1, ls, .int (μ.1 p i.toNatClampNeg) :: st, S, μ) := hv_R_if hd rfl rfl rfl rfl
theorem rr_ialoadO {j : Nat} {i : Int32} (hd : decode cc pc = .ok (.iaload, 1)) : hv_R own xs cc rt D MC MS Q (pc, ls, .int i :: .retAddr j :: st, S, μ) ↔ (j < 4 ∧ hv_ix i (hv_oc xs j).1 = true) ∧ hv_R own xs cc rt D MC MS Q (pc + 1, ls, .int ((hv_oc xs j).2 i.toNatClampNeg) :: st, S, μ) := hv_R_if hd rfl rfl rfl rfl
theorem rr_baload {p : Nat} {i : Int32} (hd : decode cc pc = .ok (.baload, 1)) : hv_R own xs cc rt D MC MS Q (pc, ls, .int i :: .ref p :: st, S, μ) ↔ hv_ix i (hv_ln S p 11) = true ∧ hv_R own xs cc rt D MC MS Q (pc + 1, ls, .int (μ.1 p i.toNatClampNeg) :: st, S, μ) := hv_R_if hd rfl rfl rfl rfl
theorem rr_aaload {p : Nat} {i : Int32} (hd : decode cc pc = .ok (.aaload, 1)) : hv_R own xs cc rt D MC MS Q (pc, ls, .int i :: .ref p :: st, S, μ) ↔ (hv_ix i (hv_ln S p 12) = true ∨ hv_ix i (hv_ln S p 13) = true) ∧ hv_R own xs cc rt D MC MS Q (pc + 1, ls, va_rf (μ.2.2 p i.toNatClampNeg) :: st, S, μ) := hv_R_if hd rfl rfl rfl rfl
theorem rr_alen {p : Nat} (hd : decode cc pc = .ok (.arraylength, 1)) : hv_R own xs cc rt D MC MS Q (pc, ls, .ref p :: st, S, μ) ↔ (hv_kd S p = some 10 ∨ hv_kd S p = some 11) ∧ hv_R own xs cc rt D MC MS Q (pc + 1, ls, .int (Int32.ofNat (hv_ln S p 10 + hv_ln S p 11)) :: st, S, μ) := hv_R_if hd rfl rfl rfl rfl
theorem rr_alenO {j : Nat} (hd : decode cc pc = .ok (.arraylength, 1)) : hv_R own xs cc rt D MC MS Q (pc, ls, .retAddr j :: st, S, μ) ↔ j < 4 ∧ hv_R own xs cc rt D MC MS Q (pc + 1, ls, .int (Int32.ofNat (hv_oc xs j).1) :: st, S, μ) := hv_R_if hd rfl rfl rfl rfl
theorem rr_iastore {p : Nat} {i v : Int32} (hd : decode cc pc = .ok (.iastore, 1)) : hv_R own xs cc rt D MC MS Q (pc, ls, .int v :: .int i :: .ref p :: st, S, μ) ↔ hv_ix i (hv_ln S p 10) = true ∧ hv_R own xs cc rt D MC MS Q (pc + 1, ls, st, S, hv_uI μ p i.toNatClampNeg v) := hv_R_if hd rfl rfl rfl rfl
theorem rr_bastore {p : Nat} {i v : Int32} (hd : decode cc pc = .ok (.bastore, 1)) : hv_R own xs cc rt D MC MS Q (pc, ls, .int v :: .int i :: .ref p :: st, S, μ) ↔ (hv_ix i (hv_ln S p 11) = true ∧ (v = 0 ∨ v = 1)) ∧ hv_R own xs cc rt D MC MS Q (pc + 1, ls, st, S, hv_uI μ p i.toNatClampNeg v) := hv_R_if hd rfl rfl rfl rfl
theorem rr_aastore {p v : Nat} {i : Int32} (hd : decode cc pc = .ok (.aastore, 1)) : hv_R own xs cc rt D MC MS Q (pc, ls, .ref v :: .int i :: .ref p :: st, S, μ) ↔ (hv_ix i (hv_ln S p 13) = true ∧ hv_kd S v = some 0) ∧ hv_R own xs cc rt D MC MS Q (pc + 1, ls, st, S, hv_uP μ p i.toNatClampNeg (some v)) := hv_R_if hd rfl rfl rfl rfl
theorem rr_getstatic {x j n : Nat} (hd : decode cc pc = .ok (.getstatic x, 3)) (hl : hv_sl.lookup (hv_kx own x) = some (j, n)) : hv_R own xs cc rt D MC MS Q (pc, ls, st, S, μ) ↔ hv_R own xs cc rt D MC MS Q (pc + 3, ls, .retAddr j :: st, S, μ) := hv_R_step hd rfl rfl rfl (by simp only [hv_step, hv_sA, hv_sM, hl])
theorem rr_ldc {x : Nat} {v : Int32} (hd : decode cc pc = .ok (.ldc x, 2)) (hl : hv_co.lookup (hv_kx own x) = some v) : hv_R own xs cc rt D MC MS Q (pc, ls, st, S, μ) ↔ hv_R own xs cc rt D MC MS Q (pc + 2, ls, .int v :: st, S, μ) := hv_R_step hd rfl rfl rfl (by simp only [hv_step, hv_sA, hv_sM, hl]; rfl)
theorem rr_ldc_w {x : Nat} {v : Int32} (hd : decode cc pc = .ok (.ldc_w x, 3)) (hl : hv_co.lookup (hv_kx own x) = some v) : hv_R own xs cc rt D MC MS Q (pc, ls, st, S, μ) ↔ hv_R own xs cc rt D MC MS Q (pc + 3, ls, .int v :: st, S, μ) := hv_R_step hd rfl rfl rfl (by simp only [hv_step, hv_sA, hv_sM, hl]; rfl)
theorem rr_ldc2_w {x : Nat} {v : Int64} (hd : decode cc pc = .ok (.ldc2_w x, 3)) (hl : hv_col.lookup (hv_kx own x) = some v) : hv_R own xs cc rt D MC MS Q (pc, ls, st, S, μ) ↔ hv_R own xs cc rt D MC MS Q (pc + 3, ls, .long v :: st, S, μ) := hv_R_step hd rfl rfl rfl (by simp only [hv_step, hv_sA, hv_sM, hl]; rfl)
theorem rr_new {x c : Nat} (hd : decode cc pc = .ok (.new x, 3)) (hl : hv_nl.lookup (hv_kx own x) = some c) : hv_R own xs cc rt D MC MS Q (pc, ls, st, S, μ) ↔ (S.2.1 + 1 ≤ MC ∧ S.2.2 + hv_nf c ≤ MS) ∧ hv_R own xs cc rt D MC MS Q (pc + 3, ls, .ref S.1.length :: st, (S.1 ++ [(c, 0)], S.2.1 + 1, S.2.2 + hv_nf c), hv_zz μ S.1.length) := hv_R_if hd rfl rfl rfl (by simp only [hv_step, hv_sA, hv_sM, hl])
theorem rr_newi {n : Int32} (hd : decode cc pc = .ok (.newarray .int, 2)) : hv_R own xs cc rt D MC MS Q (pc, ls, .int n :: st, S, μ) ↔ (¬ n < 0 ∧ n.toNatClampNeg ≤ 10000 ∧ S.2.1 + 1 ≤ MC ∧ S.2.2 + n.toNatClampNeg ≤ MS) ∧ hv_R own xs cc rt D MC MS Q (pc + 2, ls, .ref S.1.length :: st, (S.1 ++ [(10, n.toNatClampNeg)], S.2.1 + 1, S.2.2 + n.toNatClampNeg), hv_zz μ S.1.length) := hv_R_if hd rfl rfl rfl rfl
theorem rr_newz {n : Int32} (hd : decode cc pc = .ok (.newarray .boolean, 2)) : hv_R own xs cc rt D MC MS Q (pc, ls, .int n :: st, S, μ) ↔ (¬ n < 0 ∧ n.toNatClampNeg ≤ 10000 ∧ S.2.1 + 1 ≤ MC ∧ S.2.2 + n.toNatClampNeg ≤ MS) ∧ hv_R own xs cc rt D MC MS Q (pc + 2, ls, .ref S.1.length :: st, (S.1 ++ [(11, n.toNatClampNeg)], S.2.1 + 1, S.2.2 + n.toNatClampNeg), hv_zz μ S.1.length) := hv_R_if hd rfl rfl rfl rfl
theorem rr_anew {x : Nat} {n : Int32} (hd : decode cc pc = .ok (.anewarray x, 3)) (hl : hv_nl.lookup (hv_kx own x) = some 0) : hv_R own xs cc rt D MC MS Q (pc, ls, .int n :: st, S, μ) ↔ (¬ n < 0 ∧ n.toNatClampNeg ≤ 10000 ∧ S.2.1 + 1 ≤ MC ∧ S.2.2 + n.toNatClampNeg ≤ MS) ∧ hv_R own xs cc rt D MC MS Q (pc + 3, ls, .ref S.1.length :: st, (S.1 ++ [(13, n.toNatClampNeg)], S.2.1 + 1, S.2.2 + n.toNatClampNeg), hv_zz μ S.1.length) := hv_R_if hd rfl rfl rfl (by simp only [hv_step, hv_sA, hv_sM, hl])
theorem rr_mnew {x : Nat} {k n : Int32} (hd : decode cc pc = .ok (.multianewarray x 2, 4)) : hv_R own xs cc rt D MC MS Q (pc, ls, .int k :: .int n :: st, S, μ) ↔ (2 = 2 ∧ hv_gl.contains (hv_kx own x) = true ∧ ¬ n < 0 ∧ ¬ k < 0 ∧ n.toNatClampNeg ≤ 10000 ∧ k.toNatClampNeg ≤ 10000 ∧ S.2.1 + (1 + n.toNatClampNeg) ≤ MC ∧ S.2.2 + (n.toNatClampNeg + n.toNatClampNeg * k.toNatClampNeg) ≤ MS) ∧ hv_R own xs cc rt D MC MS Q (pc + 4, ls, .ref S.1.length :: st, (S.1 ++ (12, n.toNatClampNeg) :: List.replicate n.toNatClampNeg (10, k.toNatClampNeg), S.2.1 + 1 + n.toNatClampNeg, S.2.2 + n.toNatClampNeg + n.toNatClampNeg * k.toNatClampNeg), ((hv_zz μ S.1.length).1, (hv_zz μ S.1.length).2.1, fun k' j => if k' < S.1.length then μ.2.2 k' j else if k' = S.1.length ∧ j < n.toNatClampNeg then some (S.1.length + 1 + j) else none)) := hv_R_if hd rfl rfl rfl rfl
theorem rr_oinit {x p : Nat} (hd : decode cc pc = .ok (.invokespecial x, 3)) (hm : hv_ml.lookup (hv_kx own x) = none) : hv_R own xs cc rt D MC MS Q (pc, ls, .ref p :: st, S, μ) ↔ (hv_ol.contains (hv_kx own x) = true ∧ 1 ≤ D ∧ (st.map fun v => v.category).sum ≤ 8) ∧ hv_R own xs cc rt D MC MS Q (pc + 3, ls, st, S, μ) := hv_R_if2 hd rfl rfl hm rfl rfl
theorem rr_acopy {x a b : Nat} {n dp sp : Int32} (hd : decode cc pc = .ok (.invokestatic x, 3)) (hm : hv_ml.lookup (hv_kx own x) = none) : hv_R own xs cc rt D MC MS Q (pc, ls, .int n :: .int dp :: .ref b :: .int sp :: .ref a :: st, S, μ) ↔ (hv_al.contains (hv_kx own x) = true ∧ 1 ≤ D ∧ (st.map fun v => v.category).sum ≤ 8 ∧ hv_kd S a = some 10 ∧ hv_kd S b = some 10 ∧ ¬ sp < 0 ∧ ¬ dp < 0 ∧ ¬ n < 0 ∧ sp.toNatClampNeg + n.toNatClampNeg ≤ hv_ln S a 10 ∧ dp.toNatClampNeg + n.toNatClampNeg ≤ hv_ln S b 10) ∧ hv_R own xs cc rt D MC MS Q (pc + 3, ls, st, S, hv_rI μ b (va_cpy (μ.1 a) (μ.1 b) sp.toNatClampNeg dp.toNatClampNeg n.toNatClampNeg)) := hv_R_if2 hd rfl rfl hm rfl rfl
theorem rr_ireturn {v : Int32} (hd : decode cc pc = .ok (.ireturn, 1)) (hr : rt = 1) : hv_R own xs cc rt D MC MS Q (pc, ls, [.int v], S, μ) ↔ Q (some (.int v)) S μ := hv_R_ret hd rfl rfl rfl (by subst hr; rfl)
theorem rr_lreturn {v : Int64} (hd : decode cc pc = .ok (.lreturn, 1)) (hr : rt = 2) : hv_R own xs cc rt D MC MS Q (pc, ls, [.long v], S, μ) ↔ Q (some (.long v)) S μ := hv_R_ret hd rfl rfl rfl (by subst hr; rfl)
theorem rr_return {c : Nat} (hd : decode cc pc = .ok (.return_, 1)) (hr : rt = c) (hc : c = 0 ∨ c = 4) : hv_R own xs cc rt D MC MS Q (pc, ls, [], S, μ) ↔ Q none S μ := hv_R_ret hd rfl rfl rfl (by subst hr; rcases hc with rfl | rfl <;> rfl)
end HVR
