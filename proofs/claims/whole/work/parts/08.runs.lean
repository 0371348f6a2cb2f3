/-! ===== arrays of arrays; then a step, a call, a return, a run ===== -/
theorem hv_AOA.moved {u U : State} (hvm : u.vm.Alike U.vm) (h : (Cond.arrayOver (.array .int)).before #[] u = true) : (Cond.arrayOver (.array .int)).before #[] U = true := by
  obtain ⟨comp, c, k, h1, h2, h3, h4, h5⟩ := arrayOverA_spec h
  obtain ⟨k', hk', he⟩ := hvm.2.2 _ _ h3
  have hi : (U.vm.classes.findIdx? fun (x : Class) => match x.kind with | .array component _ => component == comp | _ => false) = some c := by
    have e1 := va_idx_bare U.vm comp
    have e2 := va_idx_bare u.vm comp
    rw [hvm.bare_eq] at e1
    exact e1.symm.trans (e2.trans h2)
  have hkind : k'.kind = .array comp (.array .int) := by rw [he]; exact h4
  have f1 : U.vm.findClass (FieldType.array .int).toString = some comp := by rw [hvm.findClass]; exact h1
  have f2 : U.vm.findClass ("[" ++ (FieldType.array .int).toString) = some c := by rw [hvm.findClass]; exact h5
  unfold Cond.before Cond.holds
  simp only [Cond.value]
  rw [f1, Option.bind_some]
  refine (congrArg (fun o : Option Nat => (o.bind (fun c => (U.vm.classes[c]?).map fun (k : Class) => match k.kind with | .array _ ty => decide (ty = FieldType.array .int) && decide (U.vm.findClass ("[" ++ (FieldType.array .int).toString) = some c) | _ => false) == some true)) hi).trans ?_
  simp [hk', hkind, f2]
theorem hv_outer (c : ClassId) (N h0 : Nat) : ∀ i : Nat, Jvm.Free.Multi.outerC c N h0 i = arrV c N (fun j => va_rf (if j < i then some (h0 + 1 + j) else none))
  | 0 => by
    show ({ cls := c, slots := Array.replicate N .null, vm := .none } : Cell) = _
    rw [arrV_new]
    refine congrArg (arrV c N) (funext fun j => ?_)
    simp [va_rf]
  | i + 1 => by
    show (Jvm.Free.Multi.outerC c N h0 i).setSlot i (.ref (h0 + 1 + i)) = _
    rw [hv_outer c N h0 i, arrV_store]
    refine congrArg (arrV c N) (funext fun j => ?_)
    by_cases e : j = i
    · subst e
      simp [updV, va_rf]
    · by_cases h : j < i
      · simp [updV, e, h, Nat.lt_succ_of_lt h]
      · simp [updV, e, h, show ¬ j < i + 1 by omega]
section HVV
variable {p : Program} {l : Launch} {e : Env} {R : Room} {s : State} {m : MethodId} {args : Array Value} {below : List Frame} {meth : Method} {c : Code} {H : Heap} {locs : List Loc} {cells slots : Nat} {Qw : State → Prop}
variable {g : hv_G} {own nL rt : Nat} {cc : ByteArray} {pc : Nat} {S : hv_S} {μ μ' : hv_M} {lsC : Array Slot} {rest : List Value} {xs : hv_X}
/-- the memory behind new int[n][k] -/
def hv_mm (μ : hv_M) (L n : Nat) : hv_M := ((hv_zz μ L).1, (hv_zz μ L).2.1, fun k' j => if k' < L then μ.2.2 k' j else if k' = L ∧ j < n then some (L + 1 + j) else none)
theorem hv_snd_mnew {x : Nat} {n k : Int32} (Cx : hv_Cx p s m args meth c g own cc nL rt) (hH : hv_H g S.1 μ H) (hS : va_S (fun q => g.1 ≤ q) s.heap H locs) (hl : hv_gl.contains (hv_kx own x) = true) (hn : ¬ n < 0) (hk : ¬ k < 0) (hn2 : n.toNatClampNeg ≤ 10000) (hk2 : k.toNatClampNeg ≤ 10000) (hcells : cells + (1 + n.toNatClampNeg) ≤ R.cells) (hslots : slots + (n.toNatClampNeg + n.toNatClampNeg * k.toNatClampNeg) ≤ R.slots) (hd : decode cc pc = .ok (.multianewarray x 2, 4))
    (kk : ∀ (H1 : Heap), hv_H g (S.1 ++ (12, n.toNatClampNeg) :: List.replicate n.toNatClampNeg (10, k.toNatClampNeg)) (hv_mm μ S.1.length n.toNatClampNeg) H1 → va_S (fun q => g.1 ≤ q) s.heap H1 locs → W p l e R s m args below meth c H1 locs (cells + 1 + n.toNatClampNeg) (slots + n.toNatClampNeg + n.toNatClampNeg * k.toNatClampNeg) Qw (F0 m (pc + 4) lsC (.ref (g.1 + S.1.length) :: rest))) : W p l e R s m args below meth c H locs cells slots Qw (F0 m pc lsC (.int k :: .int n :: rest)) := by
  obtain ⟨hx, hb, hml, hown, hts, hin, hK⟩ := Cx
  obtain ⟨kx1, kx2⟩ := hv_kx_lt2 hl (by decide)
  obtain ⟨w, -, hw1⟩ := hv_gl_ok (by simpa using hl : hv_kx own x ∈ hv_gl)
  simp only [hv_glok, kx1, kx2] at hw1
  have hover : (Cond.arrayOver (.array .int)).before args s = true := hK.2.2.2.2.2
  intro T hT Xs
  obtain ⟨vm₁, cA, comp, -, fA, fC, hO, -, X', step⟩ := Xs.multianewarray2F (ty := .int) hx hown (hts _ (hv_at_in hw1)) hover (hts _ (hv_misc_in 0 rfl)) (g := F0 m pc lsC (.int k :: .int n :: rest)) rfl (by rw [hb]; exact hd) rfl hn hk (by omega) (by show _ * 4 ≤ _; omega) (by omega) rfl rfl hcells hslots
  have hc1 : comp = g.2.1 10 := Option.some.inj (fC.symm.trans (hv_tys_at hK 0 rfl).2)
  have hc2 : cA = g.2.1 12 := Option.some.inj (fA.symm.trans (hv_tys_at hK 2 rfl).2)
  subst hc1
  subst hc2
  generalize hF : Jvm.Free.Multi.fill (T.setVm vm₁) (g.2.1 12) (g.2.1 10) n.toNatClampNeg k.toNatClampNeg (defaultValue .int) n.toNatClampNeg = F at X' step
  have hTh : (T.setVm vm₁).heap = H := hT
  obtain ⟨f1, f2, -, -⟩ := Jvm.Free.Multi.fill_facts (T.setVm vm₁) (g.2.1 12) (g.2.1 10) n.toNatClampNeg k.toNatClampNeg (defaultValue .int) n.toNatClampNeg
  rw [hF, hTh] at f1 f2
  have hold : ∀ x : Nat, x < H.size → F.heap[x]? = H[x]? := fun x hx => by
    have := Jvm.Free.Multi.fill_old (T.setVm vm₁) (g.2.1 12) (g.2.1 10) n.toNatClampNeg k.toNatClampNeg (defaultValue .int) (a := x) (by rw [hTh]; exact hx) n.toNatClampNeg
    rw [hF, hTh] at this
    exact this
  have hrow : ∀ j : Nat, j < n.toNatClampNeg → F.heap[H.size + 1 + j]? = some (Jvm.Free.Multi.innerC (g.2.1 10) k.toNatClampNeg (defaultValue .int)) := fun j hj => by
    have := Jvm.Free.Multi.fill_inner (T.setVm vm₁) (g.2.1 12) (g.2.1 10) n.toNatClampNeg k.toNatClampNeg (defaultValue .int) n.toNatClampNeg j hj
    rw [hF, hTh] at this
    exact this
  rw [hv_outer] at f2
  have hH1 : hv_H g (S.1 ++ (12, n.toNatClampNeg) :: List.replicate n.toNatClampNeg (10, k.toNatClampNeg)) (hv_mm μ S.1.length n.toNatClampNeg) F.heap := by
    refine hH.grow (by rw [f1]; simp; omega) hold (fun k9 s hk9 => hv_cell_eq s (fun j => by simp [hv_mm, hv_zz, hk9]) (fun j => by simp [hv_mm, hv_zz, hk9]) (fun j => by simp [hv_mm, hk9])) (fun k9 s9 hs9 => ?_)
    cases k9 with
    | zero =>
      cases hs9
      unfold hv_cell
      rw [if_neg (show ¬ (12 : Nat) < 8 by decide), if_neg (show ¬ (12 : Nat) < 12 by decide)]
      show F.heap[g.1 + (S.1.length + 0)]? = some (vp_cell _ _)
      rw [Nat.add_zero, ← hH.1, f2, vp_cell_q]
      refine congrArg some (congrArg (arrV _ _) (funext fun q => ?_))
      by_cases hq : q < n.toNatClampNeg
      · have e9 : (hv_mm μ S.1.length n.toNatClampNeg).2.2 S.1.length q = some (S.1.length + 1 + q) := by simp [hv_mm, hq]
        rw [e9, if_pos hq]
        show Value.ref (H.size + 1 + q) = Value.ref (g.1 + (S.1.length + 1 + q))
        exact congrArg Value.ref (by have h9 : H.size = g.1 + S.1.length := hH.1; simp only [h9, Nat.add_assoc])
      · simp [hv_mm, hq, va_rf]
    | succ k9 =>
      have hs9' : (List.replicate n.toNatClampNeg (10, k.toNatClampNeg))[k9]? = some s9 := hs9
      rw [List.getElem?_replicate] at hs9'
      by_cases hk9 : k9 < n.toNatClampNeg
      · rw [if_pos hk9] at hs9'
        cases hs9'
        unfold hv_cell
        rw [if_neg (show ¬ (10 : Nat) < 8 by decide), if_pos (show (10 : Nat) < 12 by decide)]
        show F.heap[g.1 + (S.1.length + (k9 + 1))]? = some (vp_cell _ _)
        rw [show g.1 + (S.1.length + (k9 + 1)) = H.size + 1 + k9 by rw [hH.1]; omega, hrow k9 hk9, vp_cell_i]
        show some ({ cls := g.2.1 10, slots := Array.replicate k.toNatClampNeg (defaultValue .int), vm := .none } : Cell) = _
        rw [arrV_new]
        refine congrArg some (congrArg (arrV _ _) (funext fun q => ?_))
        have e9 : (hv_mm μ S.1.length n.toNatClampNeg).1 (S.1.length + (k9 + 1)) q = 0 := by
          simp [hv_mm, hv_zz]
          intro h9
          omega
        rw [e9]
        rfl
      · rw [if_neg hk9] at hs9'
        cases hs9'
  obtain ⟨t, a1, b1⟩ := kk F.heap hH1 (hv_S.grow hS (by rw [f1]; omega) hold) F rfl X'
  refine ⟨t, step t ?_, b1⟩
  rw [show T.heap.size = g.1 + S.1.length by rw [hT]; exact hH.1]
  exact a1
theorem hv_lo_eq {i : Instr} {len n : Nat} (h : hv_lo i len = true) (hn : hv_lo i len = (len == n)) : len = n := by
  rw [hn] at h
  exact beq_iff_eq.mp h
/-- a step of memory -/
theorem hv_sndM {i : Instr} {len D MC MS : Nat} {ls : hv_Ls} {st : List Value} {q : hv_C} (Cx : hv_Cx p s m args meth c g own cc nL rt) (hg : g.2.2.2.2 = xs) (hR : D ≤ R.frames ∧ 40 * D ≤ R.locals ∧ MC ≤ R.cells ∧ MS ≤ R.slots) (hd : decode cc pc = .ok (i, len)) (hlo : hv_lo i len = true) (h : hv_sM own xs rt D MC MS i pc ls st S μ = some q) (hL : hv_LR g lsC nL ls) (hH : hv_H g S.1 μ H) (hS : va_S (fun q => g.1 ≤ q) s.heap H locs) (hcs : cells = S.2.1 ∧ slots = S.2.2)
    (kk : ∀ (H1 : Heap) (locs1 : List Loc) (lsC1 : Array Slot), hv_H g q.2.2.2.1.1 q.2.2.2.2 H1 → va_S (fun q => g.1 ≤ q) s.heap H1 locs1 → hv_LR g lsC1 nL q.2.1 → W p l e R s m args below meth c H1 locs1 q.2.2.2.1.2.1 q.2.2.2.1.2.2 Qw (F0 m q.1 lsC1 (q.2.2.1.map (hv_cv g)))) : W p l e R s m args below meth c H locs cells slots Qw (F0 m pc lsC (st.map (hv_cv g))) := by
  obtain ⟨rfl, rfl⟩ := hcs
  cases i with
  | getfield x =>
    cases hv_lo_eq hlo (n := 3) rfl
    simp only [hv_sM] at h
    split at h
    · rename_i pl r c0 j hl
      split at h
      · rename_i hk
        cases h
        exact hv_snd_get Cx hH hl hk hd (kk _ _ _ hH hS hL)
      · cases h
    · cases h
  | putfield x =>
    cases hv_lo_eq hlo (n := 3) rfl
    simp only [hv_sM] at h
    split at h
    · rename_i v pl r c0 j hl
      split at h
      · rename_i hk
        cases hv : hv_putv μ pl c0 j v with
        | none => rw [hv] at h; cases h
        | some μ1 =>
          rw [hv] at h
          cases h
          exact hv_snd_put Cx hH hS hl hk.1 hk.2 hv hd (fun H1 locs1 h1 h2 => kk _ _ _ h1 h2 hL)
      · cases h
    · cases h
  | iaload =>
    cases hv_lo_eq hlo (n := 1) rfl
    simp only [hv_sM] at h
    split at h
    · split at h
      · rename_i hk
        cases h
        exact hv_snd_iald Cx hH hk hd (kk _ _ _ hH hS hL)
      · cases h
    · split at h
      · rename_i hk
        cases h
        exact hv_snd_ti Cx hg hS hk.1 hk.2 hd (kk _ _ _ hH hS hL)
      · cases h
    · cases h
  | baload =>
    cases hv_lo_eq hlo (n := 1) rfl
    simp only [hv_sM] at h
    split at h
    · split at h
      · rename_i hk
        cases h
        exact hv_snd_zald Cx hH hk hd (kk _ _ _ hH hS hL)
      · cases h
    · cases h
  | aaload =>
    cases hv_lo_eq hlo (n := 1) rfl
    simp only [hv_sM] at h
    split at h
    · split at h
      · rename_i hk
        cases h
        exact hv_snd_aald Cx hH hk hd (kk _ _ _ hH hS hL)
      · cases h
    · cases h
  | arraylength =>
    cases hv_lo_eq hlo (n := 1) rfl
    simp only [hv_sM] at h
    split at h
    · split at h
      · rename_i hk
        cases h
        exact hv_snd_alen Cx hH hk hd (kk _ _ _ hH hS hL)
      · cases h
    · split at h
      · rename_i hk
        cases h
        exact hv_snd_tlen Cx hg hS hk hd (kk _ _ _ hH hS hL)
      · cases h
    · cases h
  | iastore =>
    cases hv_lo_eq hlo (n := 1) rfl
    simp only [hv_sM] at h
    split at h
    · split at h
      · rename_i hk
        cases h
        exact hv_snd_iast Cx hH hS hk hd (fun H1 locs1 h1 h2 => kk _ _ _ h1 h2 hL)
      · cases h
    · cases h
  | bastore =>
    cases hv_lo_eq hlo (n := 1) rfl
    simp only [hv_sM] at h
    split at h
    · split at h
      · rename_i hk
        cases h
        exact hv_snd_zast Cx hH hS hk.1 hk.2 hd (fun H1 locs1 h1 h2 => kk _ _ _ h1 h2 hL)
      · cases h
    · cases h
  | aastore =>
    cases hv_lo_eq hlo (n := 1) rfl
    simp only [hv_sM] at h
    split at h
    · split at h
      · rename_i hk
        cases h
        exact hv_snd_aast Cx hH hS hk.1 hk.2 hd (fun H1 locs1 h1 h2 => kk _ _ _ h1 h2 hL)
      · cases h
    · cases h
  | getstatic x =>
    cases hv_lo_eq hlo (n := 3) rfl
    simp only [hv_sM] at h
    split at h
    · rename_i hl
      cases h
      exact hv_snd_gets Cx hS hl hd (kk _ _ _ hH hS hL)
    · cases h
  | ldc x =>
    cases hv_lo_eq hlo (n := 2) rfl
    simp only [hv_sM] at h
    cases hl : hv_co.lookup (hv_kx own x) with
    | none => rw [hl] at h; cases h
    | some v =>
      rw [hl] at h
      cases h
      obtain ⟨kx1, kx2⟩ := hv_kx_lt hl (by decide)
      obtain ⟨w, -, hw⟩ := hv_co_ok (hv_lookup hl)
      simp only [hv_cook, kx1, kx2] at hw
      obtain ⟨hx, hb, hml, hown, hts, hin, hK⟩ := Cx
      exact lv_ldc hx hb hown (hts _ (hv_at_in hw)) hd (kk _ _ _ hH hS hL)
  | ldc_w x =>
    cases hv_lo_eq hlo (n := 3) rfl
    simp only [hv_sM] at h
    cases hl : hv_co.lookup (hv_kx own x) with
    | none => rw [hl] at h; cases h
    | some v =>
      rw [hl] at h
      cases h
      obtain ⟨kx1, kx2⟩ := hv_kx_lt hl (by decide)
      obtain ⟨w, -, hw⟩ := hv_co_ok (hv_lookup hl)
      simp only [hv_cook, kx1, kx2] at hw
      obtain ⟨hx, hb, hml, hown, hts, hin, hK⟩ := Cx
      exact lv_ldcw hx hb hown (hts _ (hv_at_in hw)) hd (kk _ _ _ hH hS hL)
  | ldc2_w x =>
    cases hv_lo_eq hlo (n := 3) rfl
    simp only [hv_sM] at h
    cases hl : hv_col.lookup (hv_kx own x) with
    | none => rw [hl] at h; cases h
    | some v =>
      rw [hl] at h
      cases h
      obtain ⟨kx1, kx2⟩ := hv_kx_lt hl (by decide)
      obtain ⟨w, -, hw⟩ := hv_col_ok (hv_lookup hl)
      simp only [hv_colok, kx1, kx2] at hw
      obtain ⟨hx, hb, hml, hown, hts, hin, hK⟩ := Cx
      exact lv_ldc2 hx hb hown (hts _ (hv_at_in hw)) hd (kk _ _ _ hH hS hL)
  | new x =>
    cases hv_lo_eq hlo (n := 3) rfl
    simp only [hv_sM] at h
    split at h
    · rename_i c0 hl
      split at h
      · rename_i hk
        cases h
        exact hv_snd_new Cx hH hS hl (by omega) (by omega) hd (fun H1 h1 h2 => kk _ _ _ h1 h2 hL)
      · cases h
    · cases h
  | newarray t =>
    cases hv_lo_eq hlo (n := 2) rfl
    simp only [hv_sM] at h
    split at h
    · split at h
      · rename_i hk
        cases h
        exact hv_snd_newa Cx hH hS (Or.inl ⟨rfl, rfl⟩) hk.1 hk.2.1 (by omega) (by omega) hd (fun H1 h1 h2 => kk _ _ _ h1 h2 hL)
      · cases h
    · split at h
      · rename_i hk
        cases h
        exact hv_snd_newa Cx hH hS (Or.inr ⟨rfl, rfl⟩) hk.1 hk.2.1 (by omega) (by omega) hd (fun H1 h1 h2 => kk _ _ _ h1 h2 hL)
      · cases h
    · cases h
  | anewarray x =>
    cases hv_lo_eq hlo (n := 3) rfl
    simp only [hv_sM] at h
    split at h
    · rename_i hl
      split at h
      · rename_i hk
        cases h
        exact hv_snd_anew Cx hH hS hl hk.1 hk.2.1 (by omega) (by omega) hd (fun H1 h1 h2 => kk _ _ _ h1 h2 hL)
      · cases h
    · cases h
  | multianewarray x dm =>
    cases hv_lo_eq hlo (n := 4) rfl
    simp only [hv_sM] at h
    split at h
    · split at h
      · rename_i hk
        obtain ⟨rfl, hk⟩ := hk
        cases h
        exact hv_snd_mnew Cx hH hS hk.1 hk.2.1 hk.2.2.1 hk.2.2.2.1 hk.2.2.2.2.1 (by omega) (by omega) hd (fun H1 h1 h2 => kk _ _ _ h1 h2 hL)
      · cases h
    · cases h
  | invokespecial x =>
    cases hv_lo_eq hlo (n := 3) rfl
    simp only [hv_sM] at h
    split at h
    · split at h
      · rename_i hk
        cases h
        exact hv_snd_oinit Cx hL.2.1 hk.1 hk.2.1 hR.1 hR.2.1 (by rw [hv_cv_sum]; exact hk.2.2) hd (kk _ _ _ hH hS hL)
      · cases h
    · cases h
  | invokestatic x =>
    cases hv_lo_eq hlo (n := 3) rfl
    simp only [hv_sM] at h
    split at h
    · split at h
      · rename_i hk
        cases h
        obtain ⟨k1, k2, k3, k4, k5, k6, k7, k8, k9, k10⟩ := hk
        exact hv_snd_acopy Cx hH hS hL.2.1 k1 k2 hR.1 hR.2.1 (by rw [hv_cv_sum]; exact k3) k4 k5 k6 k7 k8 k9 k10 hd (fun H1 locs1 h1 h2 => kk _ _ _ h1 h2 hL)
      · cases h
    · cases h
  | _ => cases h
end HVV
