/-! ===== the plain machine's steps are the machine's: locals, stack, arithmetic, branches ===== -/
theorem hv_cv_cat (g : hv_G) (v : Value) : (hv_cv g v).category = v.category := by cases v <;> rfl
theorem hv_cv_sum (g : hv_G) (r : List Value) : ((r.map (hv_cv g)).map fun v => v.category).sum = (r.map fun v => v.category).sum := by
  rw [List.map_map]
  congr 1
  apply List.map_congr_left
  intro v _
  exact hv_cv_cat g v
def hv_LR (g : hv_G) (lsC : Array Slot) (nL : Nat) (ls : hv_Ls) : Prop := ls.length = nL ∧ lsC.size = nL ∧ lv_wf lsC ∧ ∀ (k : Nat) (v : Value), ls[k]? = some (some v) → lsC[k]? = some (.val (hv_cv g v))
def hv_lp (g : hv_G) (ls : hv_Ls) : List (Nat × Value) := (List.range ls.length).filterMap (fun k => match ls[k]? with
  | some (some v) => some (k, hv_cv g v)
  | _ => none)
theorem hv_lp_mem {g : hv_G} {ls : hv_Ls} {q : Nat × Value} : q ∈ hv_lp g ls ↔ ∃ v, ls[q.1]? = some (some v) ∧ q.2 = hv_cv g v := by
  unfold hv_lp
  rw [List.mem_filterMap]
  constructor
  · rintro ⟨k, hk, h⟩
    split at h
    · rename_i v hv
      cases h
      exact ⟨v, hv, rfl⟩
    · cases h
  · rintro ⟨v, hv, he⟩
    refine ⟨q.1, List.mem_range.mpr (List.getElem?_eq_some_iff.mp hv).1, ?_⟩
    rw [hv]
    show some (q.1, hv_cv g v) = some q
    rw [← he]
theorem hv_LR.has {g : hv_G} {lsC : Array Slot} {nL : Nat} {ls : hv_Ls} (h : hv_LR g lsC nL ls) : lv_has lsC nL (hv_lp g ls) := by
  refine ⟨h.2.1, h.2.2.1, fun q hq => ?_⟩
  obtain ⟨v, hv, he⟩ := hv_lp_mem.mp hq
  rw [he]
  exact h.2.2.2 _ _ hv
theorem hv_drop_some {x : Option Value} {w : Value} (h : hv_drop x = some w) : x = some w ∧ w.category = 1 := by
  cases x with
  | none => cases h
  | some v => cases v <;> first | (cases h; exact ⟨rfl, rfl⟩) | cases h
theorem hv_s1_get {ls : hv_Ls} {i : Nat} {v : Value} (hi : i < ls.length) (k : Nat) : (hv_s1 ls i v)[k]? = if k = i then some (some v) else if k + 1 = i then (ls[k]?).map hv_drop else ls[k]? := by
  unfold hv_s1
  cases i with
  | zero =>
    rw [List.getElem?_set]
    by_cases h : k = 0
    · subst h
      simp [hi]
    · simp [h, Ne.symm h]
  | succ j =>
    rw [List.getElem?_set]
    by_cases h : k = j + 1
    · subst h
      simp [hi]
    · rw [if_neg (Ne.symm h), if_neg h, List.getElem?_modify]
      by_cases h2 : k = j
      · subst h2
        simp
      · rw [if_neg (show ¬ k + 1 = j + 1 by omega)]
        have : ¬ j = k := Ne.symm h2
        cases hk : ls[k]? <;> simp [this]
theorem hv_s1_len {ls : hv_Ls} {i : Nat} {v : Value} : (hv_s1 ls i v).length = ls.length := by
  unfold hv_s1
  cases i <;> simp
theorem hv_LR.of1 {g : hv_G} {lsC ls' : Array Slot} {nL : Nat} {ls : hv_Ls} {i : Nat} {v : Value} (h : hv_LR g lsC nL ls) (hi : i < ls.length) (h2 : lv_has ls' nL ((i, hv_cv g v) :: (hv_lp g ls).filter (fun q => !(q.1 == i) && !(q.1 + 1 == i && q.2.category == 2)))) : hv_LR g ls' nL (hv_s1 ls i v) := by
  refine ⟨hv_s1_len.trans h.1, h2.1, h2.2.1, fun k w hw => ?_⟩
  rw [hv_s1_get hi] at hw
  by_cases hk : k = i
  · subst hk
    simp at hw
    subst hw
    exact h2.2.2 (k, hv_cv g v) List.mem_cons_self
  · rw [if_neg hk] at hw
    refine h2.2.2 (k, hv_cv g w) (List.mem_cons_of_mem _ (List.mem_filter.mpr ⟨?_, ?_⟩))
    · refine hv_lp_mem.mpr ⟨w, ?_, rfl⟩
      by_cases h3 : k + 1 = i
      · rw [if_pos h3] at hw
        show ls[k]? = _
        cases hx : ls[k]? with
        | none => rw [hx] at hw; cases hw
        | some x =>
          rw [hx] at hw
          rw [(hv_drop_some (Option.some.inj hw)).1]
      · rw [if_neg h3] at hw
        exact hw
    · by_cases h3 : k + 1 = i
      · rw [if_pos h3] at hw
        cases hx : ls[k]? with
        | none => rw [hx] at hw; cases hw
        | some x =>
          rw [hx] at hw
          have hc := (hv_drop_some (Option.some.inj hw)).2
          simp [hk, hv_cv_cat, hc]
      · simp [hk, h3]
theorem hv_LR.of2 {g : hv_G} {lsC ls' : Array Slot} {nL : Nat} {ls : hv_Ls} {i : Nat} {v : Value} (h : hv_LR g lsC nL ls) (hi : i + 1 < ls.length) (h2 : lv_has ls' nL ((i, hv_cv g v) :: (hv_lp g ls).filter (fun q => !(q.1 == i) && (!(q.1 == i + 1) && !(q.1 + 1 == i && q.2.category == 2))))) : hv_LR g ls' nL (hv_s2 ls i v) := by
  refine ⟨?_, h2.1, h2.2.1, fun k w hw => ?_⟩
  · unfold hv_s2
    rw [List.length_set, hv_s1_len]
    exact h.1
  · unfold hv_s2 at hw
    rw [List.getElem?_set] at hw
    by_cases h1 : i + 1 = k
    · rw [if_pos h1] at hw
      split at hw <;> cases hw
    · rw [if_neg h1, hv_s1_get (by omega)] at hw
      by_cases hk : k = i
      · subst hk
        simp at hw
        subst hw
        exact h2.2.2 (k, hv_cv g v) List.mem_cons_self
      · rw [if_neg hk] at hw
        refine h2.2.2 (k, hv_cv g w) (List.mem_cons_of_mem _ (List.mem_filter.mpr ⟨?_, ?_⟩))
        · refine hv_lp_mem.mpr ⟨w, ?_, rfl⟩
          by_cases h3 : k + 1 = i
          · rw [if_pos h3] at hw
            show ls[k]? = _
            cases hx : ls[k]? with
            | none => rw [hx] at hw; cases hw
            | some x =>
              rw [hx] at hw
              rw [(hv_drop_some (Option.some.inj hw)).1]
          · rw [if_neg h3] at hw
            exact hw
        · by_cases h3 : k + 1 = i
          · rw [if_pos h3] at hw
            cases hx : ls[k]? with
            | none => rw [hx] at hw; cases hw
            | some x =>
              rw [hx] at hw
              have hc := (hv_drop_some (Option.some.inj hw)).2
              simp [hk, hv_cv_cat, hc, Ne.symm h1]
          · simp [hk, h3, Ne.symm h1]
section HVS
variable {ls ls' : hv_Ls} {k pc pc' : Nat} {st st' : List Value} {q : Nat × hv_Ls × List Value}
theorem hv_ldi_some (h : hv_ldi ls k pc st = some q) : ∃ x, ls[k]? = some (some (.int x)) ∧ q = (pc, ls, .int x :: st) := by
  unfold hv_ldi at h
  split at h
  · rename_i x hx
    exact ⟨x, hx, (Option.some.inj h).symm⟩
  · cases h
theorem hv_ldl_some (h : hv_ldl ls k pc st = some q) : ∃ x, ls[k]? = some (some (.long x)) ∧ q = (pc, ls, .long x :: st) := by
  unfold hv_ldl at h
  split at h
  · rename_i x hx
    exact ⟨x, hx, (Option.some.inj h).symm⟩
  · cases h
theorem hv_lda_some (h : hv_lda ls k pc st = some q) : ∃ v, ls[k]? = some (some v) ∧ (∃ x, v = .ref x ∨ v = .retAddr x) ∧ q = (pc, ls, v :: st) := by
  unfold hv_lda at h
  split at h
  · rename_i x hx
    exact ⟨_, hx, ⟨x, Or.inl rfl⟩, (Option.some.inj h).symm⟩
  · rename_i x hx
    exact ⟨_, hx, ⟨x, Or.inr rfl⟩, (Option.some.inj h).symm⟩
  · cases h
theorem hv_sti_some (h : hv_sti ls k pc st = some q) : ∃ x r, st = .int x :: r ∧ k < ls.length ∧ q = (pc, hv_s1 ls k (.int x), r) := by
  unfold hv_sti at h
  split at h
  · rename_i x r
    split at h
    · rename_i hk
      exact ⟨x, r, rfl, hk, (Option.some.inj h).symm⟩
    · cases h
  · cases h
theorem hv_stl_some (h : hv_stl ls k pc st = some q) : ∃ x r, st = .long x :: r ∧ k + 1 < ls.length ∧ q = (pc, hv_s2 ls k (.long x), r) := by
  unfold hv_stl at h
  split at h
  · rename_i x r
    split at h
    · rename_i hk
      exact ⟨x, r, rfl, hk, (Option.some.inj h).symm⟩
    · cases h
  · cases h
theorem hv_sta_some (h : hv_sta ls k pc st = some q) : ∃ x r, st = .ref x :: r ∧ k < ls.length ∧ q = (pc, hv_s1 ls k (.ref x), r) := by
  unfold hv_sta at h
  split at h
  · rename_i x r
    split at h
    · rename_i hk
      exact ⟨x, r, rfl, hk, (Option.some.inj h).symm⟩
    · cases h
  · cases h
theorem hv_b2_some {f : Int32 → Int32 → Int32} (h : hv_b2 f ls pc st = some q) : ∃ x y r, st = .int y :: .int x :: r ∧ q = (pc, ls, .int (f x y) :: r) := by
  unfold hv_b2 at h
  split at h
  · exact ⟨_, _, _, rfl, (Option.some.inj h).symm⟩
  · cases h
theorem hv_d2_some {f : Int32 → Int32 → Int32} (h : hv_d2 f ls pc st = some q) : ∃ x y r, st = .int y :: .int x :: r ∧ ¬ y = 0 ∧ q = (pc, ls, .int (f x y) :: r) := by
  unfold hv_d2 at h
  split at h
  · split at h
    · cases h
    · rename_i hy
      exact ⟨_, _, _, rfl, hy, (Option.some.inj h).symm⟩
  · cases h
theorem hv_l2_some {f : Int64 → Int64 → Int64} (h : hv_l2 f ls pc st = some q) : ∃ x y r, st = .long y :: .long x :: r ∧ q = (pc, ls, .long (f x y) :: r) := by
  unfold hv_l2 at h
  split at h
  · exact ⟨_, _, _, rfl, (Option.some.inj h).symm⟩
  · cases h
theorem hv_ld2_some {f : Int64 → Int64 → Int64} (h : hv_ld2 f ls pc st = some q) : ∃ x y r, st = .long y :: .long x :: r ∧ ¬ y = 0 ∧ q = (pc, ls, .long (f x y) :: r) := by
  unfold hv_ld2 at h
  split at h
  · split at h
    · cases h
    · rename_i hy
      exact ⟨_, _, _, rfl, hy, (Option.some.inj h).symm⟩
  · cases h
theorem hv_jmp_some {off : Int} (h : hv_jmp pc off ls st = some q) : ∃ tgt : Nat, (pc : Int) + off = (tgt : Int) ∧ q = (tgt, ls, st) := by
  unfold hv_jmp at h
  split at h
  · rename_i hp
    exact ⟨_, (Int.toNat_of_nonneg hp).symm, (Option.some.inj h).symm⟩
  · cases h
end HVS
/-- what holds all through a method's body -/
def hv_Cx (p : Program) (s : State) (m : MethodId) (args : Array Value) (meth : Method) (c : Code) (g : hv_G) (own : Nat) (cc : ByteArray) (nL rt : Nat) : Prop :=
  p.tables.exec = Jvm.exec ∧ c.code = cc ∧ c.maxLocals = nL ∧ s.vm.findClass (hv_nm own) = some m.cls ∧ (∀ w ∈ hv_tbl, w.before args s = true) ∧ (rt = 4 → meth.name = "<init>") ∧ hv_K g s s.heap
section HVT
variable {p : Program} {l : Launch} {e : Env} {R : Room} {s : State} {m : MethodId} {args : Array Value} {below : List Frame} {meth : Method} {c : Code} {H : Heap} {locs : List Loc} {cells slots : Nat} {Qw : State → Prop}
variable {g : hv_G} {own nL rt : Nat} {cc : ByteArray} {pc len : Nat} {ls ls' : hv_Ls} {st st' : List Value} {lsC : Array Slot} {i : Instr} {q : Nat × hv_Ls × List Value}
theorem hv_sndA (hx : p.tables.exec = Jvm.exec) (hb : c.code = cc) (hd : decode cc pc = .ok (i, len)) (hlo : hv_lo i len = true) (h : hv_sA i pc ls st = some q) (hL : hv_LR g lsC nL ls)
    (kk : ∀ lsC', hv_LR g lsC' nL q.2.1 → W p l e R s m args below meth c H locs cells slots Qw (F0 m q.1 lsC' (q.2.2.map (hv_cv g)))) : W p l e R s m args below meth c H locs cells slots Qw (F0 m pc lsC (st.map (hv_cv g))) := by
  cases i with
  | iconst n =>
    cases (beq_iff_eq.mp hlo)
    cases h
    exact lv_iconst hx hb hd rfl (kk _ hL)
  | bipush n =>
    cases (beq_iff_eq.mp hlo)
    cases h
    exact lv_bipush hx hb hd rfl (kk _ hL)
  | sipush n =>
    cases (beq_iff_eq.mp hlo)
    cases h
    exact lv_sipush hx hb hd rfl (kk _ hL)
  | lconst n =>
    cases (beq_iff_eq.mp hlo)
    cases h
    exact lv_lconst hx hb hd rfl (kk _ hL)
  | iload_n k =>
    cases (beq_iff_eq.mp hlo)
    obtain ⟨x, hx1, rfl⟩ := hv_ldi_some h
    exact lv_iload_n hx hb hd rfl (hL.2.2.2 _ _ hx1) (kk _ hL)
  | iload k =>
    cases (beq_iff_eq.mp hlo)
    obtain ⟨x, hx1, rfl⟩ := hv_ldi_some h
    exact lv_iload hx hb hd (hL.2.2.2 _ _ hx1) (kk _ hL)
  | lload_n k =>
    cases (beq_iff_eq.mp hlo)
    obtain ⟨x, hx1, rfl⟩ := hv_ldl_some h
    exact lv_lload_n hx hb hd rfl (hL.2.2.2 _ _ hx1) (kk _ hL)
  | lload k =>
    cases (beq_iff_eq.mp hlo)
    obtain ⟨x, hx1, rfl⟩ := hv_ldl_some h
    exact lv_lload hx hb hd (hL.2.2.2 _ _ hx1) (kk _ hL)
  | aload_n k =>
    cases (beq_iff_eq.mp hlo)
    obtain ⟨v, hx1, ⟨x, rfl | rfl⟩, rfl⟩ := hv_lda_some h
    · exact lv_aload_n hx hb hd rfl (hL.2.2.2 _ _ hx1) (kk _ hL)
    · exact lv_aload_n hx hb hd rfl (hL.2.2.2 _ _ hx1) (kk _ hL)
  | istore_n k =>
    cases (beq_iff_eq.mp hlo)
    obtain ⟨x, r, rfl, hk, rfl⟩ := hv_sti_some h
    exact lv_istore_n hx hb hd rfl hL.has (by rw [← hL.1]; exact hk) rfl (fun ls2 h2 => kk _ (hL.of1 (v := .int x) hk h2))
  | istore k =>
    cases (beq_iff_eq.mp hlo)
    obtain ⟨x, r, rfl, hk, rfl⟩ := hv_sti_some h
    exact lv_istore hx hb hd hL.has (by rw [← hL.1]; exact hk) rfl (fun ls2 h2 => kk _ (hL.of1 (v := .int x) hk h2))
  | lstore_n k =>
    cases (beq_iff_eq.mp hlo)
    obtain ⟨x, r, rfl, hk, rfl⟩ := hv_stl_some h
    exact lv_lstore_n hx hb hd rfl hL.has (by rw [← hL.1]; exact hk) rfl (fun ls2 h2 => kk _ (hL.of2 (v := .long x) hk h2))
  | lstore k =>
    cases (beq_iff_eq.mp hlo)
    obtain ⟨x, r, rfl, hk, rfl⟩ := hv_stl_some h
    exact lv_lstore hx hb hd hL.has (by rw [← hL.1]; exact hk) rfl (fun ls2 h2 => kk _ (hL.of2 (v := .long x) hk h2))
  | astore_n k =>
    cases (beq_iff_eq.mp hlo)
    obtain ⟨x, r, rfl, hk, rfl⟩ := hv_sta_some h
    exact lv_astore_n hx hb hd rfl hL.has (by rw [← hL.1]; exact hk) rfl (fun ls2 h2 => kk _ (hL.of1 (v := .ref x) hk h2))
  | iinc k n =>
    cases (beq_iff_eq.mp hlo)
    simp only [hv_sA] at h
    split at h
    · rename_i x hx1
      cases h
      have hk : k < ls.length := (List.getElem?_eq_some_iff.mp hx1).1
      obtain ⟨k2, hk2⟩ := List.getElem?_of_mem (hv_lp_mem.mpr ⟨_, hx1, rfl⟩ : (k, hv_cv g (.int x)) ∈ hv_lp g ls)
      exact lv_iinc hx hb hd hL.has hk2 rfl (by rw [← hL.1]; exact hk) rfl (fun ls2 h2 => kk _ (hL.of1 (v := .int (x + Int32.ofInt n)) hk h2))
    · cases h
  | iadd =>
    cases (beq_iff_eq.mp hlo)
    obtain ⟨x, y, r, rfl, rfl⟩ := hv_b2_some h
    exact lv_iadd hx hb hd (kk _ hL)
  | isub =>
    cases (beq_iff_eq.mp hlo)
    obtain ⟨x, y, r, rfl, rfl⟩ := hv_b2_some h
    exact lv_isub hx hb hd (kk _ hL)
  | imul =>
    cases (beq_iff_eq.mp hlo)
    obtain ⟨x, y, r, rfl, rfl⟩ := hv_b2_some h
    exact lv_imul hx hb hd (kk _ hL)
  | iand =>
    cases (beq_iff_eq.mp hlo)
    obtain ⟨x, y, r, rfl, rfl⟩ := hv_b2_some h
    exact lv_iand hx hb hd (kk _ hL)
  | ior =>
    cases (beq_iff_eq.mp hlo)
    obtain ⟨x, y, r, rfl, rfl⟩ := hv_b2_some h
    exact lv_ior hx hb hd (kk _ hL)
  | ixor =>
    cases (beq_iff_eq.mp hlo)
    obtain ⟨x, y, r, rfl, rfl⟩ := hv_b2_some h
    exact lv_ixor hx hb hd (kk _ hL)
  | ishl =>
    cases (beq_iff_eq.mp hlo)
    obtain ⟨x, y, r, rfl, rfl⟩ := hv_b2_some h
    exact lv_ishl hx hb hd (kk _ hL)
  | ishr =>
    cases (beq_iff_eq.mp hlo)
    obtain ⟨x, y, r, rfl, rfl⟩ := hv_b2_some h
    exact lv_ishr hx hb hd (kk _ hL)
  | iushr =>
    cases (beq_iff_eq.mp hlo)
    obtain ⟨x, y, r, rfl, rfl⟩ := hv_b2_some h
    exact lv_iushr hx hb hd rfl (kk _ hL)
  | idiv =>
    cases (beq_iff_eq.mp hlo)
    obtain ⟨x, y, r, rfl, hy, rfl⟩ := hv_d2_some h
    exact lv_idiv hx hb hd hy (kk _ hL)
  | irem =>
    cases (beq_iff_eq.mp hlo)
    obtain ⟨x, y, r, rfl, hy, rfl⟩ := hv_d2_some h
    exact lv_irem hx hb hd hy (kk _ hL)
  | ineg =>
    cases (beq_iff_eq.mp hlo)
    simp only [hv_sA] at h
    split at h
    · cases h
      exact lv_ineg hx hb hd (kk _ hL)
    · cases h
  | ladd =>
    cases (beq_iff_eq.mp hlo)
    obtain ⟨x, y, r, rfl, rfl⟩ := hv_l2_some h
    exact lv_ladd hx hb hd (kk _ hL)
  | lmul =>
    cases (beq_iff_eq.mp hlo)
    obtain ⟨x, y, r, rfl, rfl⟩ := hv_l2_some h
    exact lv_lmul hx hb hd (kk _ hL)
  | ldiv =>
    cases (beq_iff_eq.mp hlo)
    obtain ⟨x, y, r, rfl, hy, rfl⟩ := hv_ld2_some h
    exact lv_ldiv hx hb hd hy (kk _ hL)
  | lrem =>
    cases (beq_iff_eq.mp hlo)
    obtain ⟨x, y, r, rfl, hy, rfl⟩ := hv_ld2_some h
    exact lv_lrem hx hb hd hy (kk _ hL)
  | lcmp =>
    cases (beq_iff_eq.mp hlo)
    simp only [hv_sA] at h
    split at h
    · cases h
      exact W.lcmp hx hb hd (kk _ hL)
    · cases h
  | i2l =>
    cases (beq_iff_eq.mp hlo)
    simp only [hv_sA] at h
    split at h
    · cases h
      exact lv_i2l hx hb hd rfl (kk _ hL)
    · cases h
  | dup =>
    cases (beq_iff_eq.mp hlo)
    simp only [hv_sA] at h
    split at h
    · split at h
      · rename_i hv
        cases h
        exact lv_dup hx hb hd ((hv_cv_cat g _).trans hv) (kk _ hL)
      · cases h
    · cases h
  | pop =>
    cases (beq_iff_eq.mp hlo)
    simp only [hv_sA] at h
    split at h
    · split at h
      · rename_i hv
        cases h
        exact lv_pop hx hb hd ((hv_cv_cat g _).trans hv) (kk _ hL)
      · cases h
    · cases h
  | dup2 =>
    cases (beq_iff_eq.mp hlo)
    simp only [hv_sA] at h
    split at h
    · split at h
      · rename_i hv
        cases h
        exact lv_dup2_11 hx hb hd ((hv_cv_cat g _).trans hv.1) ((hv_cv_cat g _).trans hv.2) (kk _ hL)
      · cases h
    · cases h
  | goto off =>
    cases (beq_iff_eq.mp hlo)
    obtain ⟨tgt, ht, rfl⟩ := hv_jmp_some h
    exact lv_goto hx hb hd ht (kk _ hL)
  | ifCond cd off =>
    cases (beq_iff_eq.mp hlo)
    simp only [hv_sA] at h
    split at h
    · rename_i x r
      split at h
      case isFalse => cases h
      rename_i hp
      split at h
      · rename_i hc
        obtain ⟨tgt, ht, rfl⟩ := hv_jmp_some h
        cases cd <;> simp only [hv_cmp, decide_eq_true_eq] at hc
        · exact lv_if_eq hx hb hd ht (fun _ => kk _ hL) (fun hn => absurd hc hn)
        · exact lv_if_ne hx hb hd ht (fun _ => kk _ hL) (fun hn => absurd hn hc)
        · exact lv_if_lt hx hb hd ht (fun _ => kk _ hL) (fun hn => absurd hc hn)
        · exact lv_if_ge hx hb hd ht (fun _ => kk _ hL) (fun hn => absurd hc hn)
        · exact lv_if_gt hx hb hd ht (fun _ => kk _ hL) (fun hn => absurd hc hn)
        · exact lv_if_le hx hb hd ht (fun _ => kk _ hL) (fun hn => absurd hc hn)
      · rename_i hc
        cases h
        have ht := (Int.toNat_of_nonneg hp).symm
        cases cd <;> simp only [hv_cmp, decide_eq_true_eq] at hc
        · exact lv_if_eq hx hb hd ht (fun hn => absurd hn hc) (fun _ => kk _ hL)
        · exact lv_if_ne hx hb hd ht (fun hn => absurd hn hc) (fun _ => kk _ hL)
        · exact lv_if_lt hx hb hd ht (fun hn => absurd hn hc) (fun _ => kk _ hL)
        · exact lv_if_ge hx hb hd ht (fun hn => absurd hn hc) (fun _ => kk _ hL)
        · exact lv_if_gt hx hb hd ht (fun hn => absurd hn hc) (fun _ => kk _ hL)
        · exact lv_if_le hx hb hd ht (fun hn => absurd hn hc) (fun _ => kk _ hL)
    · cases h
  | if_icmp cd off =>
    cases (beq_iff_eq.mp hlo)
    simp only [hv_sA] at h
    split at h
    · rename_i y x r
      split at h
      case isFalse => cases h
      rename_i hp
      split at h
      · rename_i hc
        obtain ⟨tgt, ht, rfl⟩ := hv_jmp_some h
        cases cd <;> simp only [hv_cmp, decide_eq_true_eq] at hc
        · exact lv_icmp_eq hx hb hd ht (fun _ => kk _ hL) (fun hn => absurd hc hn)
        · exact lv_icmp_ne hx hb hd ht (fun _ => kk _ hL) (fun hn => absurd hn hc)
        · exact lv_icmp_lt hx hb hd ht (fun _ => kk _ hL) (fun hn => absurd hc hn)
        · exact lv_icmp_ge hx hb hd ht (fun _ => kk _ hL) (fun hn => absurd hc hn)
        · exact lv_icmp_gt hx hb hd ht (fun _ => kk _ hL) (fun hn => absurd hc hn)
        · exact lv_icmp_le hx hb hd ht (fun _ => kk _ hL) (fun hn => absurd hc hn)
      · rename_i hc
        cases h
        have ht := (Int.toNat_of_nonneg hp).symm
        cases cd <;> simp only [hv_cmp, decide_eq_true_eq] at hc
        · exact lv_icmp_eq hx hb hd ht (fun hn => absurd hn hc) (fun _ => kk _ hL)
        · exact lv_icmp_ne hx hb hd ht (fun hn => absurd hn hc) (fun _ => kk _ hL)
        · exact lv_icmp_lt hx hb hd ht (fun hn => absurd hn hc) (fun _ => kk _ hL)
        · exact lv_icmp_ge hx hb hd ht (fun hn => absurd hn hc) (fun _ => kk _ hL)
        · exact lv_icmp_gt hx hb hd ht (fun hn => absurd hn hc) (fun _ => kk _ hL)
        · exact lv_icmp_le hx hb hd ht (fun hn => absurd hn hc) (fun _ => kk _ hL)
    · cases h
  | tableswitch dflt lo hi offs =>
    simp only [hv_sA] at h
    split at h
    · rename_i x r
      split at h
      · rename_i hc
        obtain ⟨tgt, ht, rfl⟩ := hv_jmp_some h
        exact lv_tableOut hx hb hd hc ht (kk _ hL)
      · rename_i hc
        split at h
        · rename_i off ho
          obtain ⟨tgt, ht, rfl⟩ := hv_jmp_some h
          exact lv_tableIn hx hb hd (fun z => hc (Or.inl z)) (fun z => hc (Or.inr z)) ho ht (kk _ hL)
        · cases h
    · cases h
  | lookupswitch dflt ps =>
    simp only [hv_sA] at h
    split at h
    · split at h
      · rename_i hc
        obtain ⟨tgt, ht, rfl⟩ := hv_jmp_some h
        exact lv_lookup hx hb hd hc rfl ht (kk _ hL)
      · cases h
    · cases h
  | _ => cases h
end HVT
