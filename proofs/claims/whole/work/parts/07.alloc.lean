/-! ===== statics, constants, new cells, arraycopy ===== -/
section HVO
variable {g : hv_G} {sh : hv_Sh} {S : hv_S} {μ μ' : hv_M} {H H' : Heap}
theorem hv_zz_lt {k n : Nat} (h : k < n) (s : Nat × Nat) : hv_cell g (hv_zz μ n) k s = hv_cell g μ k s :=
  hv_cell_eq s (fun j => by simp [hv_zz, h]) (fun j => by simp [hv_zz, h]) (fun j => by simp [hv_zz, h])
theorem hv_H.grow {new : hv_Sh} (h : hv_H g sh μ H) (hz : H'.size = H.size + new.length) (ho : ∀ q, q < H.size → H'[q]? = H[q]?) (hsame : ∀ k s, k < sh.length → hv_cell g μ' k s = hv_cell g μ k s) (hnew : ∀ k s, new[k]? = some s → va_at g.2.2.1 hv_cl (g.1 + (sh.length + k), hv_cell g μ' (sh.length + k) s) H') : hv_H g (sh ++ new) μ' H' := by
  refine ⟨by rw [hz, h.1, List.length_append]; omega, fun k s hs => ?_⟩
  by_cases hk : k < sh.length
  · rw [List.getElem?_append_left hk] at hs
    rw [hsame k s hk]
    exact (h.2 k s hs).kept (ho _ (by show g.1 + k < _; rw [h.1]; omega))
  · rw [List.getElem?_append_right (by omega)] at hs
    have := hnew _ _ hs
    rw [show sh.length + (k - sh.length) = k by omega] at this
    exact this
theorem hv_S.grow {H0 : Heap} {locs : List Loc} {A : Nat → Prop} (h : va_S A H0 H locs) (hz : H.size ≤ H'.size) (ho : ∀ q, q < H.size → H'[q]? = H[q]?) : va_S A H0 H' locs :=
  ⟨Nat.le_trans h.1 hz, fun q h1 h2 => (ho q (Nat.lt_of_lt_of_le h1 h.1)).trans (h.2.1 q h1 h2), h.2.2⟩
end HVO
theorem hv_tyk : (List.range 8).all (fun c => (List.range (hv_nf c)).all (fun j => decide (hv_ty c j ≠ .float ∧ hv_ty c j ≠ .double))) = true := by decide +kernel
theorem hv_nofd {c j : Nat} (hc : c < 8) (hj : j < hv_nf c) : hv_ty c j ≠ .float ∧ hv_ty c j ≠ .double := by
  have h := List.all_eq_true.mp hv_tyk c (List.mem_range.mpr hc)
  exact of_decide_eq_true (List.all_eq_true.mp h j (List.mem_range.mpr hj))
section HVU
variable {p : Program} {l : Launch} {e : Env} {R : Room} {s : State} {m : MethodId} {args : Array Value} {below : List Frame} {meth : Method} {c : Code} {H : Heap} {locs : List Loc} {cells slots : Nat} {Qw : State → Prop}
variable {g : hv_G} {own nL rt : Nat} {cc : ByteArray} {pc : Nat} {S : hv_S} {μ μ' : hv_M} {lsC : Array Slot} {rest : List Value} {xs : hv_X}
theorem hv_snd_gets {x j n : Nat} (Cx : hv_Cx p s m args meth c g own cc nL rt) (hS : va_S (fun q => g.1 ≤ q) s.heap H locs) (hl : hv_sl.lookup (hv_kx own x) = some (j, n)) (hd : decode cc pc = .ok (.getstatic x, 3))
    (kk : W p l e R s m args below meth c H locs cells slots Qw (F0 m (pc + 3) lsC (.ref (g.2.2.2.1 j) :: rest))) : W p l e R s m args below meth c H locs cells slots Qw (F0 m pc lsC rest) := by
  obtain ⟨hx, hb, hml, hown, hts, hin, hK⟩ := Cx
  obtain ⟨kx1, kx2⟩ := hv_kx_lt hl (by decide)
  obtain ⟨w, -, hw⟩ := hv_sl_ok (hv_lookup hl)
  simp only [hv_slok, Bool.and_eq_true, decide_eq_true_eq, kx1, kx2] at hw
  obtain ⟨⟨h0, h4⟩, hw⟩ := hw
  have hZ := hK.2.2.1 j h0 h4
  by_cases hn : n = 1
  · rw [if_pos hn] at hw
    have hw := of_decide_eq_true hw
    exact va_getsN hx hb hZ hS hown (va_Nw.use rfl (hK.2.2.2.1 _ hw)) (fun _ h => h) hd kk
  · rw [if_neg hn] at hw
    exact va_gets hx hb hZ hS hown (hts _ (hv_at_in hw)) (fun _ h => h) hd kk
theorem hv_snd_ti {j : Nat} {i : Int32} (Cx : hv_Cx p s m args meth c g own cc nL rt) (hg : g.2.2.2.2 = xs) (hS : va_S (fun q => g.1 ≤ q) s.heap H locs) (hj : j < 4) (hi : hv_ix i (hv_oc xs j).1 = true) (hd : decode cc pc = .ok (.iaload, 1))
    (kk : W p l e R s m args below meth c H locs cells slots Qw (F0 m (pc + 1) lsC (.int ((hv_oc xs j).2 i.toNatClampNeg) :: rest))) : W p l e R s m args below meth c H locs cells slots Qw (F0 m pc lsC (.int i :: .ref (g.2.2.2.1 j) :: rest)) := by
  obtain ⟨hx, hb, hml, hown, hts, hin, hK⟩ := Cx
  have hT := hK.2.1 j hj
  rw [hg] at hT
  exact va_ti hx hb hT hS (hv_ix_in hi) rfl hd kk
theorem hv_snd_tlen {j : Nat} (Cx : hv_Cx p s m args meth c g own cc nL rt) (hg : g.2.2.2.2 = xs) (hS : va_S (fun q => g.1 ≤ q) s.heap H locs) (hj : j < 4) (hd : decode cc pc = .ok (.arraylength, 1))
    (kk : W p l e R s m args below meth c H locs cells slots Qw (F0 m (pc + 1) lsC (.int (Int32.ofNat (hv_oc xs j).1) :: rest))) : W p l e R s m args below meth c H locs cells slots Qw (F0 m pc lsC (.ref (g.2.2.2.1 j) :: rest)) := by
  obtain ⟨hx, hb, hml, hown, hts, hin, hK⟩ := Cx
  have hT := hK.2.1 j hj
  rw [hg] at hT
  exact va_tlen hx hb hT hS rfl hd kk
theorem hv_snd_new {x c0 : Nat} (Cx : hv_Cx p s m args meth c g own cc nL rt) (hH : hv_H g S.1 μ H) (hS : va_S (fun q => g.1 ≤ q) s.heap H locs) (hl : hv_nl.lookup (hv_kx own x) = some c0) (hcells : cells + 1 ≤ R.cells) (hslots : slots + hv_nf c0 ≤ R.slots) (hd : decode cc pc = .ok (.new x, 3))
    (kk : ∀ (H1 : Heap), hv_H g (S.1 ++ [(c0, 0)]) (hv_zz μ S.1.length) H1 → va_S (fun q => g.1 ≤ q) s.heap H1 locs → W p l e R s m args below meth c H1 locs (cells + 1) (slots + hv_nf c0) Qw (F0 m (pc + 3) lsC (.ref (g.1 + S.1.length) :: rest))) : W p l e R s m args below meth c H locs cells slots Qw (F0 m pc lsC rest) := by
  obtain ⟨hx, hb, hml, hown, hts, hin, hK⟩ := Cx
  obtain ⟨kx1, kx2⟩ := hv_kx_lt hl (by decide)
  obtain ⟨w, -, hw⟩ := hv_nl_ok (hv_lookup hl)
  simp only [hv_nlok, Bool.and_eq_true, decide_eq_true_eq, kx1, kx2] at hw
  obtain ⟨hw1, hc⟩ := hw
  obtain ⟨hi1, hi2, hi3⟩ := hv_ic_at hc
  have hKn := hK.1.1 c0 _ (hv_cl_at c0 hc)
  refine W.newcK hx hb hown (hts _ (hv_at_in hw1)) (hts _ hi1) (hts _ hi2) rfl hd hcells hslots hKn.2.1 hH.1 fun H1 kC hkC e1 z1 o1 => ?_
  have ho : ∀ q, q < H.size → H1[q]? = H[q]? := fun q hq => o1 q (by rw [← hH.1]; exact hq)
  refine kk H1 (hH.grow (new := [(c0, 0)]) (by rw [z1, hH.1]; rfl) ho (fun k s hk => hv_zz_lt hk s) (fun k s hs => ?_)) (hv_S.grow hS (by rw [z1, hH.1]; omega) ho)
  have hz : k < 1 := (List.getElem?_eq_some_iff.mp hs).1
  rw [show k = 0 by omega] at hs ⊢
  cases hs
  unfold hv_cell
  rw [if_pos hc]
  refine ⟨_, hv_cl_at c0 hc, (u_born (hv_ty c0) hts hi3 hKn hkC e1 (hv_tyok c0 hc)).to (fun j hj => ?_)⟩
  rw [hv_V _ hj]
  unfold hv_fv
  cases hty : hv_ty c0 j <;> simp [hv_fk, hv_zz, defaultValue, va_rf]
  · exact (hv_nofd hc hj).2 hty
  · exact (hv_nofd hc hj).1 hty
theorem hv_snd_newa {at0 : ArrayType} {k : Nat} {n : Int32} (Cx : hv_Cx p s m args meth c g own cc nL rt) (hH : hv_H g S.1 μ H) (hS : va_S (fun q => g.1 ≤ q) s.heap H locs) (hk : (k = 10 ∧ at0 = .int) ∨ (k = 11 ∧ at0 = .boolean)) (hn : ¬ n < 0) (hn2 : n.toNatClampNeg ≤ 10000) (hcells : cells + 1 ≤ R.cells) (hslots : slots + n.toNatClampNeg ≤ R.slots) (hd : decode cc pc = .ok (.newarray at0, 2))
    (kk : ∀ (H1 : Heap), hv_H g (S.1 ++ [(k, n.toNatClampNeg)]) (hv_zz μ S.1.length) H1 → va_S (fun q => g.1 ≤ q) s.heap H1 locs → W p l e R s m args below meth c H1 locs (cells + 1) (slots + n.toNatClampNeg) Qw (F0 m (pc + 2) lsC (.ref (g.1 + S.1.length) :: rest))) : W p l e R s m args below meth c H locs cells slots Qw (F0 m pc lsC (.int n :: rest)) := by
  obtain ⟨hx, hb, hml, hown, hts, hin, hK⟩ := Cx
  have harr : (Cond.arrayClass (newarray.typeOf at0)).before args s = true := by
    rcases hk with ⟨-, rfl⟩ | ⟨-, rfl⟩
    · exact hts _ (hv_misc_in 0 rfl)
    · exact hts _ (hv_misc_in 1 rfl)
  refine va_newaK hx hb harr rfl hd rfl hn rfl (by rcases hk with ⟨-, rfl⟩ | ⟨-, rfl⟩ <;> simp [newarray.typeOf, componentBytes] <;> omega) hcells hslots hH.1 fun H1 cA e1 z1 o1 hAr hNm => ?_
  have ho : ∀ q, q < H.size → H1[q]? = H[q]? := fun q hq => o1 q (by rw [← hH.1]; exact hq)
  refine kk H1 (hH.grow (new := [(k, n.toNatClampNeg)]) (by rw [z1, hH.1]; rfl) ho (fun k s hk => hv_zz_lt hk s) (fun k' s hs => ?_)) (hv_S.grow hS (by rw [z1, hH.1]; omega) ho)
  have hz : k' < 1 := (List.getElem?_eq_some_iff.mp hs).1
  rw [show k' = 0 by omega] at hs ⊢
  cases hs
  have hcA : cA = g.2.1 k := by
    rcases hk with ⟨rfl, rfl⟩ | ⟨rfl, rfl⟩
    · exact Option.some.inj (hNm.symm.trans (hv_tys_at hK 0 rfl).2)
    · exact Option.some.inj (hNm.symm.trans (hv_tys_at hK 1 rfl).2)
  unfold hv_cell
  rw [if_neg (show ¬ k < 8 by rcases hk with ⟨rfl, -⟩ | ⟨rfl, -⟩ <;> decide), if_pos (show k < 12 by rcases hk with ⟨rfl, -⟩ | ⟨rfl, -⟩ <;> decide)]
  show H1[g.1 + (S.1.length + 0)]? = some (vp_cell _ _)
  rw [Nat.add_zero, e1, vp_cell_i, hcA]
  refine congrArg some (congrArg (arrV _ _) (funext fun q => ?_))
  have : (hv_zz μ S.1.length).1 S.1.length q = 0 := by simp [hv_zz]
  rcases hk with ⟨-, rfl⟩ | ⟨-, rfl⟩ <;> (rw [this]; rfl)
theorem hv_snd_anew {x : Nat} {n : Int32} (Cx : hv_Cx p s m args meth c g own cc nL rt) (hH : hv_H g S.1 μ H) (hS : va_S (fun q => g.1 ≤ q) s.heap H locs) (hl : hv_nl.lookup (hv_kx own x) = some 0) (hn : ¬ n < 0) (hn2 : n.toNatClampNeg ≤ 10000) (hcells : cells + 1 ≤ R.cells) (hslots : slots + n.toNatClampNeg ≤ R.slots) (hd : decode cc pc = .ok (.anewarray x, 3))
    (kk : ∀ (H1 : Heap), hv_H g (S.1 ++ [(13, n.toNatClampNeg)]) (hv_zz μ S.1.length) H1 → va_S (fun q => g.1 ≤ q) s.heap H1 locs → W p l e R s m args below meth c H1 locs (cells + 1) (slots + n.toNatClampNeg) Qw (F0 m (pc + 3) lsC (.ref (g.1 + S.1.length) :: rest))) : W p l e R s m args below meth c H locs cells slots Qw (F0 m pc lsC (.int n :: rest)) := by
  obtain ⟨hx, hb, hml, hown, hts, hin, hK⟩ := Cx
  obtain ⟨kx1, kx2⟩ := hv_kx_lt hl (by decide)
  obtain ⟨w, -, hw⟩ := hv_nl_ok (hv_lookup hl)
  simp only [hv_nlok, Bool.and_eq_true, decide_eq_true_eq, kx1, kx2] at hw
  refine W.anew hx hb hown (hts _ (hv_at_in hw.1)) (va_AO.use hK.2.2.2.2.1) rfl hd rfl hn (by omega) hcells hslots fun cA kA comp f1 f2 f3 f4 => ?_
  generalize hH1 : H.push ({ cls := cA, slots := Array.replicate n.toNatClampNeg .null, vm := .none } : Cell) = H1
  have z1 : H1.size = H.size + 1 := by rw [← hH1, Array.size_push]
  have e1 : H1[H.size]? = some (arrV cA n.toNatClampNeg (fun _ => .null)) := by rw [← hH1, Array.getElem?_push_size, ← arrV_new]
  have ho : ∀ q : Nat, q < H.size → H1[q]? = H[q]? := fun q hq => by rw [← hH1, Array.getElem?_push, if_neg (Nat.ne_of_lt hq)]
  have hcA : cA = g.2.1 13 := by
    obtain ⟨_, _, -, -, -, h9⟩ := (hv_tys_at hK 3 rfl).2
    exact Option.some.inj (f1.symm.trans h9)
  have hk := kk H1 (hH.grow (new := [(13, n.toNatClampNeg)]) (by rw [z1]; rfl) ho (fun k s hk => hv_zz_lt hk s) (fun k' s hs => ?_)) (hv_S.grow hS (by rw [z1]; omega) ho)
  · rw [← hH.1] at hk
    exact hk
  · have hz : k' < 1 := (List.getElem?_eq_some_iff.mp hs).1
    rw [show k' = 0 by omega] at hs ⊢
    cases hs
    unfold hv_cell
    rw [if_neg (show ¬ (13 : Nat) < 8 by decide), if_neg (show ¬ (13 : Nat) < 12 by decide)]
    show H1[g.1 + (S.1.length + 0)]? = some (vp_cell _ _)
    rw [Nat.add_zero, ← hH.1, e1, vp_cell_q, hcA]
    refine congrArg some (congrArg (arrV _ _) (funext fun q => ?_))
    have : (hv_zz μ S.1.length).2.2 S.1.length q = none := by simp [hv_zz]
    rw [this]
    rfl
theorem hv_snd_oinit {x pl D : Nat} (Cx : hv_Cx p s m args meth c g own cc nL rt) (hsz : lsC.size = nL) (hl : hv_ol.contains (hv_kx own x) = true) (hD : 1 ≤ D) (hR1 : D ≤ R.frames) (hR2 : 40 * D ≤ R.locals) (hw : (rest.map fun v => v.category).sum ≤ 8) (hd : decode cc pc = .ok (.invokespecial x, 3))
    (kk : W p l e R s m args below meth c H locs cells slots Qw (F0 m (pc + 3) lsC rest)) : W p l e R s m args below meth c H locs cells slots Qw (F0 m pc lsC (.ref (g.1 + pl) :: rest)) := by
  obtain ⟨hx, hb, hml, hown, hts, hin, hK⟩ := Cx
  obtain ⟨kx1, kx2⟩ := hv_kx_lt2 hl (by decide)
  obtain ⟨w, -, hw1⟩ := hv_ol_ok (by simpa using hl : hv_kx own x ∈ hv_ol)
  simp only [hv_olok, kx1, kx2] at hw1
  exact W.objInit hx hb hown (hts _ (hv_at_in hw1)) (hts _ (hv_misc_in 2 rfl)) (hts _ (hv_misc_in 6 rfl)) rfl (by rw [hml]; exact hsz) rfl hd (by omega) (by show 2 * 0 + _ + 12 ≤ _; omega) kk
theorem hv_snd_acopy {x a b D : Nat} {n dp sp : Int32} (Cx : hv_Cx p s m args meth c g own cc nL rt) (hH : hv_H g S.1 μ H) (hS : va_S (fun q => g.1 ≤ q) s.heap H locs) (hsz : lsC.size = nL) (hl : hv_al.contains (hv_kx own x) = true) (hD : 1 ≤ D) (hR1 : D ≤ R.frames) (hR2 : 40 * D ≤ R.locals) (hw : (rest.map fun v => v.category).sum ≤ 8)
    (ha : hv_kd S a = some 10) (hbb : hv_kd S b = some 10) (h1 : ¬ sp < 0) (h2 : ¬ dp < 0) (h3 : ¬ n < 0) (h4 : sp.toNatClampNeg + n.toNatClampNeg ≤ hv_ln S a 10) (h5 : dp.toNatClampNeg + n.toNatClampNeg ≤ hv_ln S b 10) (hd : decode cc pc = .ok (.invokestatic x, 3))
    (kk : ∀ (H1 : Heap) (locs1 : List Loc), hv_H g S.1 (hv_rI μ b (va_cpy (μ.1 a) (μ.1 b) sp.toNatClampNeg dp.toNatClampNeg n.toNatClampNeg)) H1 → va_S (fun q => g.1 ≤ q) s.heap H1 locs1 → W p l e R s m args below meth c H1 locs1 cells slots Qw (F0 m (pc + 3) lsC rest)) : W p l e R s m args below meth c H locs cells slots Qw (F0 m pc lsC (.int n :: .int dp :: .ref (g.1 + b) :: .int sp :: .ref (g.1 + a) :: rest)) := by
  obtain ⟨hx, hb, hml, hown, hts, hin, hK⟩ := Cx
  obtain ⟨kx1, kx2⟩ := hv_kx_lt2 hl (by decide)
  obtain ⟨w, -, hw1⟩ := hv_al_ok (by simpa using hl : hv_kx own x ∈ hv_al)
  simp only [hv_alok, kx1, kx2] at hw1
  obtain ⟨n0, hn0⟩ := hv_kd_at ha
  obtain ⟨n1, hn1⟩ := hv_kd_at hbb
  rw [hv_ln_kd hn0] at h4
  rw [hv_ln_kd hn1] at h5
  have nn : ∀ z : Int32, ¬ z < 0 → z.toInt = (z.toNatClampNeg : Int) := by
    intro z hz
    have hz0 : (0 : Int) ≤ z.toInt := by
      have := Int32.not_lt.mp hz
      simpa using Int32.le_iff_toInt_le.mp this
    show z.toInt = ((z.toInt.toNat : Nat) : Int)
    omega
  intro T hT X
  have hc0 := hH.ints hn0 (by decide) (by decide)
  have hc1 := hH.ints hn1 (by decide) (by decide)
  obtain ⟨-, k0, hk0, cm0, hkk0⟩ := (hv_tys_at hK 0 rfl).1 n0 (fun j => .int (μ.1 a j))
  obtain ⟨-, k1, hk1, cm1, hkk1⟩ := (hv_tys_at hK 0 rfl).1 n1 (fun j => .int (μ.1 b j))
  obtain ⟨vm', X', step⟩ := X.arraycopy hx hown (hts _ (hv_at_in hw1)) (hts _ (hv_misc_in 3 rfl)) (hts _ (hv_misc_in 4 rfl)) (hts _ (hv_misc_in 5 rfl)) (src := g.1 + a) (dst := g.1 + b) (cs := vp_cell (g.2.1 10) (n0, .inl (μ.1 a))) (cd := vp_cell (g.2.1 10) (n1, .inl (μ.1 b))) (srcPos := sp) (destPos := dp) (n := n) (by rw [hT]; exact hc0) (by rw [hT]; exact hc1)
    (fun _ h => by cases h) (fun _ h => by cases h) (fun h => by cases h) (fun h => by cases h) hk0 hk1 hkk0 hkk1 (by simp [refKind]) h1 h2 h3
    (by rw [nn sp h1, nn n h3]; show ¬ _ > ((arrV _ n0 (fun j => .int (μ.1 a j))).slots.size : Int); rw [arrV_size]; omega)
    (by rw [nn dp h2, nn n h3]; show ¬ _ > ((arrV _ n1 (fun j => .int (μ.1 b j))).slots.size : Int); rw [arrV_size]; omega)
    (fun vm₁ _ i hi => by
      have e : (vp_cell (g.2.1 10) (n0, .inl (μ.1 a))).slots.getD (sp.toNatClampNeg + i) .null = .int (μ.1 a (sp.toNatClampNeg + i)) := by
        show (arrV _ n0 (fun j => .int (μ.1 a j))).slots.getD _ _ = _
        rw [Array.getD_eq_getD_getElem?, arrV_read _ _ (by omega)]
        rfl
      refine ⟨?_, ?_⟩
      · rw [e]
        rfl
      · rw [e]
        exact trivial)
    (g := F0 m pc lsC (.int n :: .int dp :: .ref (g.1 + b) :: .int sp :: .ref (g.1 + a) :: rest)) rfl (by rw [hml]; exact hsz) (rest := rest) rfl (by rw [hb]; exact hd) (by omega) (by
      have : nativeFrameWords "java/lang/System" "arraycopy" 5 + 11 ≤ 32 := by decide
      show 2 * 0 + _ + _ ≤ _
      omega)
  have e1 : copied (vp_cell (g.2.1 10) (n0, .inl (μ.1 a))) (vp_cell (g.2.1 10) (n1, .inl (μ.1 b))) sp dp n = vp_cell (g.2.1 10) (n1, .inl (va_cpy (μ.1 a) (μ.1 b) sp.toNatClampNeg dp.toNatClampNeg n.toNatClampNeg)) := va_copied (fun z => .int z) _ _ (μ.1 a) (μ.1 b) h4
  rw [e1] at X' step
  generalize hH1 : H.setIfInBounds (g.1 + b) (vp_cell (g.2.1 10) (n1, .inl (va_cpy (μ.1 a) (μ.1 b) sp.toNatClampNeg dp.toNatClampNeg n.toNatClampNeg))) = H1
  have hl2 : g.1 + b < H.size := (Array.getElem?_eq_some_iff.mp hc1).1
  have hheap : ((T.setVm vm').setCell (g.1 + b) (vp_cell (g.2.1 10) (n1, .inl (va_cpy (μ.1 a) (μ.1 b) sp.toNatClampNeg dp.toNatClampNeg n.toNatClampNeg)))).heap = H1 := by rw [← hH1, ← hT]; rfl
  have oq : ∀ q : Nat, q ≠ g.1 + b → H1[q]? = H[q]? := fun q hq => by rw [← hH1]; simp [Array.getElem?_setIfInBounds, Ne.symm hq]
  have z1 : H1.size = H.size := by rw [← hH1]; simp
  have hself : H1[g.1 + b]? = some (vp_cell (g.2.1 10) (n1, .inl (va_cpy (μ.1 a) (μ.1 b) sp.toNatClampNeg dp.toNatClampNeg n.toNatClampNeg))) := by rw [← hH1]; simp [Array.getElem?_setIfInBounds, hl2]
  obtain ⟨t, a1, b1⟩ := kk H1 _ (hH.upd hn1 z1 oq (by
      unfold hv_cell
      rw [if_neg (show ¬ (10 : Nat) < 8 by decide), if_pos (show (10 : Nat) < 12 by decide)]
      show H1[g.1 + b]? = some (vp_cell _ _)
      rw [hself]
      simp [hv_rI]) (fun k s hk => hv_rI_ne hk s)) ⟨by rw [z1]; exact hS.1, fun q g1 g2 => by
      rw [oq q (fun e => g2 (by rw [e]; exact Nat.le_add_right _ _))]
      exact hS.2.1 q g1 g2, fun q hq => by
      rcases List.mem_append.mp hq with h | h
      · exact hS.2.2 q h
      · obtain ⟨z, -, hz⟩ := List.mem_map.mp h
        rw [← hz]
        exact Nat.le_add_right _ _⟩ _ hheap X'
  exact ⟨t, step t a1, b1⟩
end HVU
