/-! ===== the plain machine's memory is the heap's ===== -/
section HVM
variable {g : hv_G} {sh : hv_Sh} {S : hv_S} {μ μ' : hv_M} {H H' : Heap}
theorem hv_kd_at {p c : Nat} (h : hv_kd S p = some c) : ∃ n, S.1[p]? = some (c, n) := by
  unfold hv_kd at h
  cases hs : S.1[p]? with
  | none => rw [hs] at h; cases h
  | some s =>
    rw [hs] at h
    obtain ⟨a, n⟩ := s
    cases h
    exact ⟨n, rfl⟩
theorem hv_ix_in {i : Int32} {n : Nat} (h : hv_ix i n = true) : vp_in i n := by
  intro hq
  simp only [hv_ix, Bool.not_eq_true', Bool.or_eq_false_iff, decide_eq_false_iff_not] at h
  rcases hq with hq | hq
  · exact h.1 hq
  · exact h.2 hq
theorem hv_ln_at {p k : Nat} {i : Int32} (h : hv_ix i (hv_ln S p k) = true) : S.1[p]? = some (k, hv_ln S p k) := by
  have h0 := hv_ix_in h
  unfold hv_ln at h0 ⊢
  cases hs : S.1[p]? with
  | none =>
    rw [hs] at h0
    exact absurd (Or.inr (Nat.zero_le _)) h0
  | some s =>
    rw [hs] at h0
    by_cases e : s.1 = k
    · obtain ⟨a, n⟩ := s
      subst e
      simp
    · simp only [e, if_false] at h0
      exact absurd (Or.inr (Nat.zero_le _)) h0
theorem hv_ln_kd {p k n : Nat} (h : S.1[p]? = some (k, n)) : hv_ln S p k = n := by
  unfold hv_ln
  rw [h]
  simp
theorem hv_H.obj {p c : Nat} (h : hv_H g S.1 μ H) (hk : hv_kd S p = some c) (hc : c < 8) : va_P g.2.2.1 hv_cl [(g.1 + p, .inr (c, (List.range (hv_nf c)).map (hv_fv g μ p c)))] H := by
  obtain ⟨n, hn⟩ := hv_kd_at hk
  have h1 := h.2 p _ hn
  intro k q hq
  have hz : k < 1 := (List.getElem?_eq_some_iff.mp hq).1
  rw [show k = 0 by omega] at hq
  cases hq
  unfold hv_cell at h1
  rw [if_pos hc] at h1
  exact h1
theorem hv_H.ints {p k n : Nat} (h : hv_H g S.1 μ H) (hn : S.1[p]? = some (k, n)) (h8 : ¬ k < 8) (h12 : k < 12) : H[g.1 + p]? = some (vp_cell (g.2.1 k) (n, .inl (μ.1 p))) := by
  have h1 := h.2 p _ hn
  unfold hv_cell at h1
  rw [if_neg h8, if_pos h12] at h1
  exact h1
theorem hv_H.refs {p k n : Nat} (h : hv_H g S.1 μ H) (hn : S.1[p]? = some (k, n)) (h8 : ¬ k < 8) (h12 : ¬ k < 12) : H[g.1 + p]? = some (vp_cell (g.2.1 k) (n, .inr (.inr (.inr (.inr (fun j => (μ.2.2 p j).map (hv_ad g))))))) := by
  have h1 := h.2 p _ hn
  unfold hv_cell at h1
  rw [if_neg h8, if_neg h12] at h1
  exact h1
theorem hv_H.upd {p : Nat} {s0 : Nat × Nat} (h : hv_H g sh μ H) (hk : sh[p]? = some s0) (hz : H'.size = H.size) (oq : ∀ q, q ≠ g.1 + p → H'[q]? = H[q]?) (hcell : va_at g.2.2.1 hv_cl (g.1 + p, hv_cell g μ' p s0) H') (hoth : ∀ k s, k ≠ p → hv_cell g μ' k s = hv_cell g μ k s) : hv_H g sh μ' H' := by
  refine ⟨hz.trans h.1, fun k s hs => ?_⟩
  by_cases e : k = p
  · subst e
    cases hk.symm.trans hs
    exact hcell
  · rw [hoth k s e]
    exact (h.2 k s hs).kept (oq _ (by show g.1 + k ≠ g.1 + p; omega))
theorem hv_cell_eq {k : Nat} (s : Nat × Nat) (h1 : ∀ j, μ'.1 k j = μ.1 k j) (h2 : ∀ j, μ'.2.1 k j = μ.2.1 k j) (h3 : ∀ j, μ'.2.2 k j = μ.2.2 k j) : hv_cell g μ' k s = hv_cell g μ k s := by
  have e1 : μ'.1 k = μ.1 k := funext h1
  have e3 : (fun j => (μ'.2.2 k j).map (hv_ad g)) = (fun j => (μ.2.2 k j).map (hv_ad g)) := funext fun j => by rw [h3]
  have e4 : hv_fv g μ' k s.1 = hv_fv g μ k s.1 := funext fun j => by unfold hv_fv; rw [h1, h2, h3]
  unfold hv_cell
  rw [e1, e3, e4]
theorem hv_V {c j : Nat} (F : Nat → Value) (hj : j < hv_nf c) : vp_V ((List.range (hv_nf c)).map F) j = F j := by
  unfold vp_V
  simp [List.getD_eq_getElem?_getD, hj]
theorem hv_cv_rf (o : Option Nat) : hv_cv g (va_rf o) = va_rf (o.map (hv_ad g)) := by cases o <;> rfl
theorem hv_fv_cv (p c j : Nat) : hv_cv g (hv_fv0 μ p c j) = hv_fv g μ p c j := by
  unfold hv_fv0 hv_fv
  split
  · rfl
  · rfl
  · exact hv_cv_rf _
theorem hv_uI_ne {p j k : Nat} {x : Int32} (h : k ≠ p) (s : Nat × Nat) : hv_cell g (hv_uI μ p j x) k s = hv_cell g μ k s :=
  hv_cell_eq s (fun j' => by simp [hv_uI, hv_rI, h]) (fun _ => rfl) (fun _ => rfl)
theorem hv_rI_ne {p k : Nat} {f : Nat → Int32} (h : k ≠ p) (s : Nat × Nat) : hv_cell g (hv_rI μ p f) k s = hv_cell g μ k s :=
  hv_cell_eq s (fun j' => by simp [hv_rI, h]) (fun _ => rfl) (fun _ => rfl)
theorem hv_uL_ne {p j k : Nat} {x : Int64} (h : k ≠ p) (s : Nat × Nat) : hv_cell g (hv_uL μ p j x) k s = hv_cell g μ k s :=
  hv_cell_eq s (fun _ => rfl) (fun j' => by simp [hv_uL, h]) (fun _ => rfl)
theorem hv_uP_ne {p j k : Nat} {x : Option Nat} (h : k ≠ p) (s : Nat × Nat) : hv_cell g (hv_uP μ p j x) k s = hv_cell g μ k s :=
  hv_cell_eq s (fun _ => rfl) (fun _ => rfl) (fun j' => by simp [hv_uP, h])
theorem hv_putv_spec {p c j : Nat} {v : Value} (h : hv_putv μ p c j v = some μ') : (∀ j', hv_fv g μ' p c j' = if j' = j then hv_cv g v else hv_fv g μ p c j') ∧ (∀ k s, k ≠ p → hv_cell g μ' k s = hv_cell g μ k s) ∧ narrow (hv_ty c j) (hv_cv g v) = hv_cv g v ∧ fits (hv_ty c j) (hv_cv g v) = true := by
  unfold hv_putv at h
  split at h
  · rename_i x e1
    cases h
    refine ⟨fun j' => ?_, fun k s hk => hv_uI_ne hk s, by rw [e1]; rfl, by rw [e1]; rfl⟩
    by_cases e : j' = j
    · subst e
      rw [if_pos rfl]
      unfold hv_fv
      rw [e1]
      simp [hv_fk, hv_uI, hv_rI, upd, hv_cv]
    · rw [if_neg e]
      unfold hv_fv
      simp [hv_uI, hv_rI, upd, e]
  · rename_i x e1
    split at h
    · rename_i hx
      cases h
      refine ⟨fun j' => ?_, fun k s hk => hv_uI_ne hk s, ?_, by rw [e1]; rcases hx with rfl | rfl <;> rfl⟩
      · by_cases e : j' = j
        · subst e
          rw [if_pos rfl]
          unfold hv_fv
          rw [e1]
          simp [hv_fk, hv_uI, hv_rI, upd, hv_cv]
        · rw [if_neg e]
          unfold hv_fv
          simp [hv_uI, hv_rI, upd, e]
      · rw [e1]
        rcases hx with rfl | rfl <;> rfl
    · cases h
  · rename_i x e1
    cases h
    refine ⟨fun j' => ?_, fun k s hk => hv_uL_ne hk s, by rw [e1]; rfl, by rw [e1]; rfl⟩
    by_cases e : j' = j
    · subst e
      rw [if_pos rfl]
      unfold hv_fv
      rw [e1]
      simp [hv_fk, hv_uL, hv_cv]
    · rw [if_neg e]
      unfold hv_fv
      simp [hv_uL, e]
  · rename_i x t e1
    cases h
    refine ⟨fun j' => ?_, fun k s hk => hv_uP_ne hk s, by rw [e1]; rfl, by rw [e1]; rfl⟩
    by_cases e : j' = j
    · subst e
      rw [if_pos rfl]
      unfold hv_fv
      rw [e1]
      simp [hv_fk, hv_uP, hv_cv, va_rf]
    · rw [if_neg e]
      unfold hv_fv
      simp [hv_uP, e]
  · rename_i x t e1
    cases h
    refine ⟨fun j' => ?_, fun k s hk => hv_uP_ne hk s, by rw [e1]; rfl, by rw [e1]; rfl⟩
    by_cases e : j' = j
    · subst e
      rw [if_pos rfl]
      unfold hv_fv
      rw [e1]
      simp [hv_fk, hv_uP, hv_cv, va_rf]
    · rw [if_neg e]
      unfold hv_fv
      simp [hv_uP, e]
  · cases h
/-- nothing below the first place is written -/
theorem hv_S.put {A : Nat → Prop} {H0 : Heap} {locs : List Loc} {p k : Nat} (hA : A = fun q => g.1 ≤ q) (h : va_S A H0 H locs) (z : H'.size = H.size) (oq : ∀ q : Nat, q ≠ g.1 + p → H'[q]? = H[q]?) : va_S A H0 H' (locs ++ [⟨g.1 + p, k⟩]) :=
  h.put z oq (by subst hA; exact Nat.le_add_right _ _)
end HVM
section HVN
variable {p : Program} {l : Launch} {e : Env} {R : Room} {s : State} {m : MethodId} {args : Array Value} {below : List Frame} {meth : Method} {c : Code} {H : Heap} {locs : List Loc} {cells slots : Nat} {Qw : State → Prop}
variable {g : hv_G} {own nL rt : Nat} {cc : ByteArray} {pc : Nat} {S : hv_S} {μ μ' : hv_M} {lsC : Array Slot} {rest : List Value}
theorem hv_snd_get {x c0 j pl : Nat} (Cx : hv_Cx p s m args meth c g own cc nL rt) (hH : hv_H g S.1 μ H) (hl : hv_fl.lookup (hv_kx own x) = some (c0, j)) (hk : hv_kd S pl = some c0) (hd : decode cc pc = .ok (.getfield x, 3))
    (kk : W p l e R s m args below meth c H locs cells slots Qw (F0 m (pc + 3) lsC (hv_cv g (hv_fv0 μ pl c0 j) :: rest))) : W p l e R s m args below meth c H locs cells slots Qw (F0 m pc lsC (.ref (g.1 + pl) :: rest)) := by
  obtain ⟨hx, hb, hml, hown, hts, hin, hK⟩ := Cx
  obtain ⟨kx1, kx2⟩ := hv_kx_lt hl (by decide)
  obtain ⟨w, -, hw⟩ := hv_fl_ok (hv_lookup hl)
  simp only [hv_flok, hv_flw, Bool.and_eq_true, decide_eq_true_eq, kx1, kx2] at hw
  obtain ⟨⟨⟨hw1, hc⟩, hj⟩, hn⟩ := hw
  rw [hv_fv_cv] at kk
  exact va_get (D := g.2.2.1) (ci := c0) (v := hv_fv g μ pl c0 j) (C := hv_nm c0) (T := hv_T c0) (N := hv_nf c0) hx hb hts (hv_ic_at hc).2.2 hown hK.1 (hH.obj hk hc) 0 rfl (hv_cl_at c0 hc) j hj (hts _ (hv_at_in hw1)) (fun _ h9 => h9) (by simp [hj]) hd kk
theorem hv_snd_put {x c0 j pl : Nat} {v : Value} (Cx : hv_Cx p s m args meth c g own cc nL rt) (hH : hv_H g S.1 μ H) (hS : va_S (fun q => g.1 ≤ q) s.heap H locs) (hl : hv_fl.lookup (hv_kx own x) = some (c0, j)) (hk : hv_kd S pl = some c0) (hf : (hv_T c0 j).2.2.2 = true → rt = 4 ∧ own = c0) (hv : hv_putv μ pl c0 j v = some μ') (hd : decode cc pc = .ok (.putfield x, 3))
    (kk : ∀ (H1 : Heap) (locs1 : List Loc), hv_H g S.1 μ' H1 → va_S (fun q => g.1 ≤ q) s.heap H1 locs1 → W p l e R s m args below meth c H1 locs1 cells slots Qw (F0 m (pc + 3) lsC rest)) : W p l e R s m args below meth c H locs cells slots Qw (F0 m pc lsC (hv_cv g v :: .ref (g.1 + pl) :: rest)) := by
  obtain ⟨hx, hb, hml, hown, hts, hin, hK⟩ := Cx
  obtain ⟨kx1, kx2⟩ := hv_kx_lt hl (by decide)
  obtain ⟨w, -, hw⟩ := hv_fl_ok (hv_lookup hl)
  simp only [hv_flok, hv_flw, Bool.and_eq_true, decide_eq_true_eq, kx1, kx2] at hw
  obtain ⟨⟨⟨hw1, hc⟩, hj⟩, hn⟩ := hw
  obtain ⟨hp1, hp2, hp3, hp4⟩ := hv_putv_spec (g := g) hv
  have hin' := (hv_ic_at hc).2.2
  have hap := va_apart (own := hv_nm own) hts hin' (hv_ty c0) (hv_tyok c0 hc) (hv_nmok c0 hc) hK.1 (hv_cl_at c0 hc)
  obtain ⟨r, h1, cell, q1, q2, q3, q4⟩ := hH.obj hk hc 0 _ rfl
  have hr : r = (hv_nm c0, hv_T c0, hv_nf c0) := Option.some.inj (h1.symm.trans (hv_cl_at c0 hc))
  subst hr
  obtain ⟨hSl, hfc, kC, hkC, hkind⟩ := hK.1.1 c0 _ (hv_cl_at c0 hc)
  obtain ⟨cf, kf, fi, f, hi, hsl⟩ := hSl j hj
  have hlay := hts _ (hin' _ (u_in_lay hj))
  have hst := (u_facts hfc hkC (u_lays hts hin' hj) hi).1
  obtain ⟨n0, hn0⟩ := hv_kd_at hk
  have fin : ∀ H' : Heap, H'[g.1 + pl]? = some (cell.setSlot f.slot (hv_cv g v)) → H'.size = H.size → (∀ q, q ≠ g.1 + pl → H'[q]? = H[q]?) → W p l e R s m args below meth c H' (locs ++ [⟨g.1 + pl, f.slot⟩]) cells slots Qw (F0 m (pc + 3) lsC rest) := by
    intro H' e1 e2 e3
    refine kk H' _ (hH.upd hn0 e2 e3 ?_ hp2) (hv_S.put rfl hS e2 e3)
    unfold hv_cell
    rw [if_pos hc]
    rw [hsl] at e1
    refine ⟨_, hv_cl_at c0 hc, t_OB.to (V := updV (vp_V ((List.range (hv_nf c0)).map (hv_fv g μ pl c0))) j (hv_cv g v)) ⟨_, e1, q2, q3, t_set q4 hap hj _⟩ (fun j' hj' => ?_)⟩
    rw [hv_V _ hj', hp1 j']
    unfold updV
    by_cases e : j' = j
    · rw [if_pos e, if_pos e]
    · rw [if_neg e, if_neg e, hv_V _ hj']
  by_cases hfin : (hv_T c0 j).2.2.2 = true
  · obtain ⟨hrt, ho⟩ := hf hfin
    unfold u_lay at hlay
    rw [if_pos hfin] at hlay
    have hcf : m.cls = cf := by
      obtain ⟨_, _, c', _, _, _, -, -, hf', -, -, -, hown2, -⟩ := Cond.laysFinal_spec hlay
      have e1 : c' = cf := by have := hi.symm.trans hf'; simp at this; exact this.1.symm
      rw [hn, ← ho] at hown2
      rw [← e1]; exact Option.some.inj (hown.symm.trans hown2)
    have h6 := u_fits hfc hkC hkind (Or.inr hlay) hi (hv_tyok c0 hc j hj) hp3 hp4
    exact W.putFinK hx hb hown (hts _ (hv_at_in hw1)) hi hst hcf (hin hrt) (by rw [q2]; exact h6) q1 q3 (by rw [hsl]; exact k2_hasslot (q4 j hj)) rfl rfl hd fin
  · have hfin' : (hv_T c0 j).2.2.2 = false := by simpa using hfin
    unfold u_lay at hlay
    rw [if_neg hfin] at hlay
    have h6 := u_store hfc hkC hkind hlay hi (hv_tyok c0 hc j hj) hp3 hp4
    exact W.putK hx hb (f := f) ⟨hown, hts _ (hv_at_in hw1), ⟨_, _, _, hi⟩, hst⟩ (by rw [q2]; exact h6) q1 q3 (by rw [hsl]; exact k2_hasslot (q4 j hj)) rfl rfl hd fin
theorem hv_tys_at {k : Nat} {ty : FieldType} (hK : hv_K g s s.heap) (t0 : Nat) (h : (hv_tys g)[t0]? = some (g.2.1 k, ty)) : ArrOfT s (g.2.1 k) ty ∧ va_RA s (g.2.1 k) ty := hK.1.2 t0 _ h
theorem hv_snd_iald {pl : Nat} {i : Int32} (Cx : hv_Cx p s m args meth c g own cc nL rt) (hH : hv_H g S.1 μ H) (hi : hv_ix i (hv_ln S pl 10) = true) (hd : decode cc pc = .ok (.iaload, 1))
    (kk : W p l e R s m args below meth c H locs cells slots Qw (F0 m (pc + 1) lsC (.int (μ.1 pl i.toNatClampNeg) :: rest))) : W p l e R s m args below meth c H locs cells slots Qw (F0 m pc lsC (.int i :: .ref (g.1 + pl) :: rest)) := by
  obtain ⟨hx, hb, hml, hown, hts, hin, hK⟩ := Cx
  have hn := hv_ln_at hi
  have hlt : i.toNatClampNeg < hv_ln S pl 10 := Nat.not_le.mp fun q => hv_ix_in hi (Or.inr q)
  exact W.iald (v := .int (μ.1 pl i.toNatClampNeg)) hx hb (hH.ints hn (by decide) (by decide)) ((hv_tys_at hK 0 rfl).1 _ (fun j => .int (μ.1 pl j))) (fun q => by cases q) (by show ¬ (i < 0 ∨ (arrV _ _ _).slots.size ≤ _); rw [arrV_size]; exact hv_ix_in hi) (by show (arrV _ _ _).slots[_]? = _; rw [arrV_read _ _ hlt]) rfl rfl hd kk
theorem hv_snd_zald {pl : Nat} {i : Int32} (Cx : hv_Cx p s m args meth c g own cc nL rt) (hH : hv_H g S.1 μ H) (hi : hv_ix i (hv_ln S pl 11) = true) (hd : decode cc pc = .ok (.baload, 1))
    (kk : W p l e R s m args below meth c H locs cells slots Qw (F0 m (pc + 1) lsC (.int (μ.1 pl i.toNatClampNeg) :: rest))) : W p l e R s m args below meth c H locs cells slots Qw (F0 m pc lsC (.int i :: .ref (g.1 + pl) :: rest)) := by
  obtain ⟨hx, hb, hml, hown, hts, hin, hK⟩ := Cx
  have hn := hv_ln_at hi
  have hlt : i.toNatClampNeg < hv_ln S pl 11 := Nat.not_le.mp fun q => hv_ix_in hi (Or.inr q)
  exact W.zald (v := .int (μ.1 pl i.toNatClampNeg)) hx hb (hH.ints hn (by decide) (by decide)) ((hv_tys_at hK 1 rfl).1 _ (fun j => .int (μ.1 pl j))) (fun q => by cases q) (by show ¬ (i < 0 ∨ (arrV _ _ _).slots.size ≤ _); rw [arrV_size]; exact hv_ix_in hi) (by show (arrV _ _ _).slots[_]? = _; rw [arrV_read _ _ hlt]) rfl rfl hd kk
theorem hv_snd_aald {pl : Nat} {i : Int32} (Cx : hv_Cx p s m args meth c g own cc nL rt) (hH : hv_H g S.1 μ H) (hi : hv_ix i (hv_ln S pl 12) = true ∨ hv_ix i (hv_ln S pl 13) = true) (hd : decode cc pc = .ok (.aaload, 1))
    (kk : W p l e R s m args below meth c H locs cells slots Qw (F0 m (pc + 1) lsC (hv_cv g (va_rf (μ.2.2 pl i.toNatClampNeg)) :: rest))) : W p l e R s m args below meth c H locs cells slots Qw (F0 m pc lsC (.int i :: .ref (g.1 + pl) :: rest)) := by
  obtain ⟨hx, hb, hml, hown, hts, hin, hK⟩ := Cx
  rw [hv_cv_rf] at kk
  rcases hi with hi | hi
  · have hn := hv_ln_at hi
    have hlt : i.toNatClampNeg < hv_ln S pl 12 := Nat.not_le.mp fun q => hv_ix_in hi (Or.inr q)
    exact W.aald (v := va_rf ((μ.2.2 pl i.toNatClampNeg).map (hv_ad g))) (ty := .array .int) hx hb (hH.refs hn (by decide) (by decide)) ((hv_tys_at hK 2 rfl).1 _ (fun j => va_rf ((μ.2.2 pl j).map (hv_ad g)))) rfl (fun q => by cases q) (by show ¬ (i < 0 ∨ (arrV _ _ _).slots.size ≤ _); rw [arrV_size]; exact hv_ix_in hi) (by show (arrV _ _ _).slots[_]? = _; rw [arrV_read _ _ hlt]) rfl rfl hd kk
  · have hn := hv_ln_at hi
    have hlt : i.toNatClampNeg < hv_ln S pl 13 := Nat.not_le.mp fun q => hv_ix_in hi (Or.inr q)
    exact W.aald (v := va_rf ((μ.2.2 pl i.toNatClampNeg).map (hv_ad g))) (ty := .object RX0) hx hb (hH.refs hn (by decide) (by decide)) ((hv_tys_at hK 3 rfl).1 _ (fun j => va_rf ((μ.2.2 pl j).map (hv_ad g)))) rfl (fun q => by cases q) (by show ¬ (i < 0 ∨ (arrV _ _ _).slots.size ≤ _); rw [arrV_size]; exact hv_ix_in hi) (by show (arrV _ _ _).slots[_]? = _; rw [arrV_read _ _ hlt]) rfl rfl hd kk
theorem hv_i32 (n : Nat) : n.toInt32 = Int32.ofNat n := rfl
theorem hv_snd_alen {pl : Nat} (Cx : hv_Cx p s m args meth c g own cc nL rt) (hH : hv_H g S.1 μ H) (hk : hv_kd S pl = some 10 ∨ hv_kd S pl = some 11) (hd : decode cc pc = .ok (.arraylength, 1))
    (kk : W p l e R s m args below meth c H locs cells slots Qw (F0 m (pc + 1) lsC (.int (Int32.ofNat (hv_ln S pl 10 + hv_ln S pl 11)) :: rest))) : W p l e R s m args below meth c H locs cells slots Qw (F0 m pc lsC (.ref (g.1 + pl) :: rest)) := by
  obtain ⟨hx, hb, hml, hown, hts, hin, hK⟩ := Cx
  rcases hk with hk | hk
  · obtain ⟨n, hn⟩ := hv_kd_at hk
    have e1 : hv_ln S pl 10 + hv_ln S pl 11 = n := by simp [hv_ln, hn]
    rw [e1] at kk
    exact W.alen hx hb (hH.ints hn (by decide) (by decide)) ((hv_tys_at hK 0 rfl).1 _ (fun j => .int (μ.1 pl j))) (by show (arrV _ _ _).slots.size.toInt32 = _; rw [arrV_size]) rfl rfl hd kk
  · obtain ⟨n, hn⟩ := hv_kd_at hk
    have e1 : hv_ln S pl 10 + hv_ln S pl 11 = n := by simp [hv_ln, hn]
    rw [e1] at kk
    exact W.alen hx hb (hH.ints hn (by decide) (by decide)) ((hv_tys_at hK 1 rfl).1 _ (fun j => .int (μ.1 pl j))) (by show (arrV _ _ _).slots.size.toInt32 = _; rw [arrV_size]) rfl rfl hd kk
theorem hv_arr_upd {cA : ClassId} {n k : Nat} {f : Nat → Int32} {x : Int32} : (vp_cell cA (n, .inl f)).setSlot k (.int x) = vp_cell cA (n, .inl (upd f k x)) := by
  rw [vp_cell_i, vp_cell_i, arrV_store]
  refine congrArg (arrV cA n) (funext fun q => ?_)
  by_cases hq : q = k
  · subst hq
    simp [updV, upd]
  · simp [updV, upd, hq]
theorem hv_snd_iast {pl : Nat} {i v : Int32} (Cx : hv_Cx p s m args meth c g own cc nL rt) (hH : hv_H g S.1 μ H) (hS : va_S (fun q => g.1 ≤ q) s.heap H locs) (hi : hv_ix i (hv_ln S pl 10) = true) (hd : decode cc pc = .ok (.iastore, 1))
    (kk : ∀ (H1 : Heap) (locs1 : List Loc), hv_H g S.1 (hv_uI μ pl i.toNatClampNeg v) H1 → va_S (fun q => g.1 ≤ q) s.heap H1 locs1 → W p l e R s m args below meth c H1 locs1 cells slots Qw (F0 m (pc + 1) lsC rest)) : W p l e R s m args below meth c H locs cells slots Qw (F0 m pc lsC (.int v :: .int i :: .ref (g.1 + pl) :: rest)) := by
  obtain ⟨hx, hb, hml, hown, hts, hin, hK⟩ := Cx
  have hn := hv_ln_at hi
  refine W.iast hx hb (hH.ints hn (by decide) (by decide)) ((hv_tys_at hK 0 rfl).1 _ (fun j => .int (μ.1 pl j))) (fun q => by cases q) (by show ¬ (i < 0 ∨ (arrV _ _ _).slots.size ≤ _); rw [arrV_size]; exact hv_ix_in hi) rfl rfl hd fun H1 e1 z oq => ?_
  refine kk H1 _ (hH.upd hn z oq ?_ (fun k s hk => hv_uI_ne hk s)) (hv_S.put rfl hS z oq)
  unfold hv_cell
  rw [if_neg (show ¬ (10 : Nat) < 8 by decide), if_pos (show (10 : Nat) < 12 by decide)]
  show H1[g.1 + pl]? = some (vp_cell _ _)
  rw [e1, hv_arr_upd]
  simp [hv_uI, hv_rI]
theorem hv_snd_zast {pl : Nat} {i v : Int32} (Cx : hv_Cx p s m args meth c g own cc nL rt) (hH : hv_H g S.1 μ H) (hS : va_S (fun q => g.1 ≤ q) s.heap H locs) (hi : hv_ix i (hv_ln S pl 11) = true) (hv : v = 0 ∨ v = 1) (hd : decode cc pc = .ok (.bastore, 1))
    (kk : ∀ (H1 : Heap) (locs1 : List Loc), hv_H g S.1 (hv_uI μ pl i.toNatClampNeg v) H1 → va_S (fun q => g.1 ≤ q) s.heap H1 locs1 → W p l e R s m args below meth c H1 locs1 cells slots Qw (F0 m (pc + 1) lsC rest)) : W p l e R s m args below meth c H locs cells slots Qw (F0 m pc lsC (.int v :: .int i :: .ref (g.1 + pl) :: rest)) := by
  obtain ⟨hx, hb, hml, hown, hts, hin, hK⟩ := Cx
  have hn := hv_ln_at hi
  have hnar : narrow .boolean (.int v) = .int v := by rcases hv with rfl | rfl <;> decide
  refine W.zast hx hb (hH.ints hn (by decide) (by decide)) ((hv_tys_at hK 1 rfl).1 _ (fun j => .int (μ.1 pl j))) (fun q => by cases q) (by show ¬ (i < 0 ∨ (arrV _ _ _).slots.size ≤ _); rw [arrV_size]; exact hv_ix_in hi) rfl rfl hd fun H1 e1 z oq => ?_
  refine kk H1 _ (hH.upd hn z oq ?_ (fun k s hk => hv_uI_ne hk s)) (hv_S.put rfl hS z oq)
  unfold hv_cell
  rw [if_neg (show ¬ (11 : Nat) < 8 by decide), if_pos (show (11 : Nat) < 12 by decide)]
  show H1[g.1 + pl]? = some (vp_cell _ _)
  rw [e1, hnar, hv_arr_upd]
  simp [hv_uI, hv_rI]
theorem hv_snd_aast {pl v : Nat} {i : Int32} (Cx : hv_Cx p s m args meth c g own cc nL rt) (hH : hv_H g S.1 μ H) (hS : va_S (fun q => g.1 ≤ q) s.heap H locs) (hi : hv_ix i (hv_ln S pl 13) = true) (hv : hv_kd S v = some 0) (hd : decode cc pc = .ok (.aastore, 1))
    (kk : ∀ (H1 : Heap) (locs1 : List Loc), hv_H g S.1 (hv_uP μ pl i.toNatClampNeg (some v)) H1 → va_S (fun q => g.1 ≤ q) s.heap H1 locs1 → W p l e R s m args below meth c H1 locs1 cells slots Qw (F0 m (pc + 1) lsC rest)) : W p l e R s m args below meth c H locs cells slots Qw (F0 m pc lsC (.ref (g.1 + v) :: .int i :: .ref (g.1 + pl) :: rest)) := by
  obtain ⟨hx, hb, hml, hown, hts, hin, hK⟩ := Cx
  have hn := hv_ln_at hi
  have hlt : i.toNatClampNeg < hv_ln S pl 13 := Nat.not_le.mp fun q => hv_ix_in hi (Or.inr q)
  have h0 : ¬ i < 0 := fun q => hv_ix_in hi (Or.inl q)
  obtain ⟨r', hr', cellV, g1, g2, g3, -⟩ := hH.obj hv (by decide) 0 _ rfl
  have hcls := (hK.1.1 0 _ (hv_cl_at 0 (by decide))).2
  obtain ⟨kA, comp, k1, k2, k3, -⟩ := (hv_tys_at hK 3 rfl).2
  have hcomp : comp = g.2.2.1.1 0 := Option.some.inj (k3.symm.trans hcls.1)
  subst hcomp
  obtain ⟨kC, hkC, -⟩ := hcls.2
  refine W.aast hx hb (hH.refs hn (by decide) (by decide)) (fun q h => by cases h) (fun h => by cases h) k1 k2 rfl hkC ⟨h0, by show _ < (arrV _ _ _).slots.size; rw [arrV_size]; exact hlt⟩ g1 (fun q h => by rw [g3] at h; cases h) (by rw [g2]; exact hkC) (by rw [g2]; exact va_assign hcls) rfl rfl hd fun H1 e1 z oq => ?_
  refine kk H1 _ (hH.upd hn z oq ?_ (fun k s hk => hv_uP_ne hk s)) (hv_S.put rfl hS z oq)
  unfold hv_cell
  rw [if_neg (show ¬ (13 : Nat) < 8 by decide), if_neg (show ¬ (13 : Nat) < 12 by decide)]
  show H1[g.1 + pl]? = some (vp_cell _ _)
  rw [e1, vp_cell_q, vp_cell_q, arrV_store]
  refine congrArg some (congrArg (arrV _ _) (funext fun q => ?_))
  by_cases hq : q = i.toNatClampNeg
  · subst hq
    simp [updV, hv_uP, va_rf, hv_ad]
  · simp [updV, hv_uP, hq]
end HVN
