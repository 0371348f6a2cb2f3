/-! ===== calls and whole methods ===== -/
section HVK
variable {g : hv_G} {s U : State} {H H1 : Heap}
theorem hv_nw_warm {w : Cond} (hw : w ∈ hv_nw) (hW : s.WarmedH U.vm) (h : va_Nw w s) : va_Nw w U := by
  simp only [hv_nw, List.mem_cons, List.not_mem_nil, or_false] at hw
  rcases hw with rfl | rfl | rfl | rfl | rfl | rfl | rfl
  all_goals first | exact va_Nw.warmM hW h | exact va_Nw.warmF hW h
theorem hv_K.warm (hW : s.WarmedH U.vm) (h : hv_K g s H) : hv_K g U H :=
  ⟨va_K.moved hW.alike h.1, fun j hj => (h.2.1 j hj).moved hW.alike, fun j h0 h4 => (h.2.2.1 j h0 h4).moved hW.alike, fun w hw => hv_nw_warm hw hW (h.2.2.2.1 w hw), h.2.2.2.2.1.moved hW.alike, hv_AOA.moved hW.alike h.2.2.2.2.2⟩
theorem hv_K.kept (h : hv_K g s H) (hq : ∀ a : Nat, a < H.size → ¬ g.1 ≤ a → H1[a]? = H[a]?) : hv_K g s H1 :=
  ⟨h.1, fun j hj => (h.2.1 j hj).kept hq, fun j h0 h4 => (h.2.2.1 j h0 h4).kept hq, h.2.2.2.1, h.2.2.2.2.1, h.2.2.2.2.2⟩
theorem hv_K.calling (f : JFrame) (mk : MethodId) (a : Array Value) (h : hv_K g U H) : hv_K g (U.calling f mk a) H :=
  ⟨va_K.moved (u := U) (U := U.calling f mk a) (Vm.Alike.refl U.vm) h.1, fun j hj => (h.2.1 j hj).moved (u := U) (U := U.calling f mk a) (Vm.Alike.refl U.vm), fun j h0 h4 => (h.2.2.1 j h0 h4).moved (u := U) (U := U.calling f mk a) (Vm.Alike.refl U.vm),
    fun w hw => va_Nw.same (u := U) (U := U.calling f mk a) (hv_nw_on w hw) rfl (h.2.2.2.1 w hw), h.2.2.2.2.1.moved (u := U) (U := U.calling f mk a) (Vm.Alike.refl U.vm), hv_AOA.moved (u := U) (U := U.calling f mk a) (Vm.Alike.refl U.vm) h.2.2.2.2.2⟩
theorem hv_blind {av : List Value} {sh : hv_Sh} {μ : hv_M} : FrameBlind (hv_Pc g av sh μ) := fun a U f mk h => ⟨h.1, h.2.1, h.2.2.calling f mk a⟩
end HVK
theorem hv_min1 {k : Nat} (h : ¬ k = 0) : min k 1 = 1 := by omega
theorem hv_ge2 {k : Nat} (h : ¬ k = 0) (h1 : ¬ k = 1) : 2 ≤ k := by omega
theorem hv_min2 {k j : Nat} (h : 2 ≤ k) (h3 : min k 2 = j) : j = 2 := by omega
section HVW
variable {p : Program} {l : Launch} {e : Env} {R : Room} {s : State} {m : MethodId} {args : Array Value} {below : List Frame} {meth : Method} {c : Code} {H : Heap} {locs : List Loc} {cells slots : Nat} {Qw : State → Prop}
variable {g : hv_G} {own nL rt : Nat} {cc : ByteArray} {pc len : Nat} {S : hv_S} {μ μ' : hv_M} {lsC : Array Slot} {rest : List Value} {xs : hv_X} {i : Instr} {D MC MS : Nat} {ls : hv_Ls} {st : List Value}
/-- what a place of the plain machine says of the machine -/
def hv_Sem (p : Program) (l : Launch) (e : Env) (R : Room) (s : State) (m : MethodId) (args : Array Value) (below : List Frame) (meth : Method) (c : Code) (g : hv_G) (nL : Nat) (Qw : State → Prop) (q : hv_C) : Prop :=
  ∀ (H : Heap) (locs : List Loc) (lsC : Array Slot), hv_H g q.2.2.2.1.1 q.2.2.2.2 H → va_S (fun a => g.1 ≤ a) s.heap H locs → hv_LR g lsC nL q.2.1 → W p l e R s m args below meth c H locs q.2.2.2.1.2.1 q.2.2.2.1.2.2 Qw (F0 m q.1 lsC (q.2.2.1.map (hv_cv g)))
/-- behind a call -/
theorem hv_after {post : hv_Po} {a : Array Value} {mc ms : Nat} {st0 : List Value} (hrun : va_Run p l e R s m args below meth c H locs cells slots mc ms (F0 m pc lsC st0) (rest.map (hv_cv g)) (hv_Qc g post a) (fun q => g.1 ≤ q)) (hS : va_S (fun a => g.1 ≤ a) s.heap H locs) (hL : hv_LR g lsC nL ls)
    (kk : ∀ (r : Option Value) (sh' : hv_Sh) (μ' : hv_M), post r sh' μ' → hv_Sem p l e R s m args below meth c g nL Qw (pc + 3, ls, r.toList ++ rest, (sh', cells + mc, slots + ms), μ')) : W p l e R s m args below meth c H locs cells slots Qw (F0 m pc lsC st0) := by
  intro T hT X
  obtain ⟨v, st₀, t, T', L, h0, X', hLc, e1, e2, ⟨r, sh', μ', ho, hp, hH', hz, hk⟩, go⟩ := hrun T hT X
  have ho : v = r.map (hv_cv g) := Outcome.returned.inj ho
  subst ho
  rw [h0] at hz hk
  obtain ⟨t2, a1, b1⟩ := kk r sh' μ' hp T'.heap (locs ++ L) lsC (by rw [e1]; exact hH') ⟨Nat.le_trans hS.1 (by rw [e1]; exact hz), fun q h1 h2 => by rw [e1, hk q (Nat.lt_of_lt_of_le h1 hS.1) h2]; exact hS.2.1 q h1 h2, fun q hq => by
      rcases List.mem_append.mp hq with h | h
      · exact hS.2.2 q h
      · exact hLc q h⟩ hL T' rfl X'
  refine ⟨t2, go t2 ?_, b1⟩
  have e9 : (r.toList ++ rest).map (hv_cv g) = (r.map (hv_cv g)).toList ++ rest.map (hv_cv g) := by cases r <;> simp
  have a1' : Steps p.tables e below (T'.setTop (F0 m (pc + 3) lsC ((r.toList ++ rest).map (hv_cv g)))) t2 := a1
  rw [e9] at a1'
  exact a1'
theorem hv_snd_call {X : hv_C → Prop} (Cx : hv_Cx p s m args meth c g own cc nL rt) (hg : g.2.2.2.2 = xs) (hR : D ≤ R.frames ∧ 40 * D ≤ R.locals ∧ MC ≤ R.cells ∧ MS ≤ R.slots) (hd : decode cc pc = .ok (i, len)) (hlo : hv_lo i len = true) (hc : hv_call own xs D MC MS i pc ls st S μ X) (hL : hv_LR g lsC nL ls) (hH : hv_H g S.1 μ H) (hS : va_S (fun q => g.1 ≤ q) s.heap H locs)
    (hX : ∀ q, X q → hv_Sem p l e R s m args below meth c g nL Qw q) : W p l e R s m args below meth c H locs S.2.1 S.2.2 Qw (F0 m pc lsC (st.map (hv_cv g))) := by
  obtain ⟨x, k0, y, n, kd, av, rest, d, mc, ms, post, h1, h2, h3, h4, h5, h6, h7, hDo, h9, h10, h11, h12⟩ := hc
  obtain ⟨hx, hb, hml, hown, hts, hin, hK⟩ := Cx
  obtain ⟨kx1, kx2⟩ := hv_kx_lt h2 (by decide)
  obtain ⟨w, -, hw⟩ := hv_ml_ok (hv_lookup h2)
  simp only [hv_mlok, Bool.and_eq_true, decide_eq_true_eq, kx1, kx2] at hw
  obtain ⟨⟨⟨⟨⟨⟨⟨w1, w2⟩, w3⟩, w4⟩, w5⟩, w6⟩, w7⟩, w8⟩ := hw
  obtain ⟨bytes, maxL, ret, hmL, hcode, hret, hMet⟩ := hDo
  have hM := hMet l g hg
  have hini := hts _ (hv_at_in w4)
  have hrm : (hv_rm d mc ms).frames + 1 ≤ R.frames ∧ 8 + (maxL + 11) + (hv_rm d mc ms).locals ≤ R.locals := ⟨by show d + 1 ≤ _; omega, by show 8 + (maxL + 11) + 40 * d ≤ _; omega⟩
  have hPc : ∀ U : State, U.heap = H → s.WarmedH U.vm → hv_Pc g av S.1 μ (av.map (hv_cv g)).toArray U := fun U hU hW => ⟨rfl, by rw [hU]; exact hH, by
    rw [hU]
    exact (hK.kept (fun a h1 h2 => hS.2.1 a h1 h2)).warm hW⟩
  have hroom : 2 * (F0 m pc lsC (st.map (hv_cv g))).monitorRoom + ((rest.map (hv_cv g)).map fun v => v.category).sum ≤ 8 := by
    rw [hv_cv_sum]
    exact lv_room h6
  have hf : S.2.1 + mc ≤ R.cells ∧ S.2.2 + ms ≤ R.slots := ⟨by omega, by omega⟩
  subst h4
  have hfix : CallFix p m c cc nL s args hv_tbl (hv_nm own) := ⟨hx, hb, hml, hown, hts⟩
  have kk : ∀ (r : Option Value) (sh' : hv_Sh) (μ' : hv_M), post r sh' μ' → hv_Sem p l e R s m args below meth c g nL Qw (pc + 3, ls, r.toList ++ rest, (sh', S.2.1 + mc, S.2.2 + ms), μ') := fun r sh' μ' hp => hX _ (h12 r sh' μ' hp)
  by_cases hk0 : kd = 0
  · subst hk0
    simp only [if_pos] at w6
    rw [if_neg (by decide)] at w5
    have hi : i = .invokestatic x := by
      have e0 : k0 = 0 := by rw [← h3]; rfl
      subst e0
      cases i <;> first | (cases h1; done) | (cases h1; rfl) | (simp [hv_inv] at h1)
    subst hi
    cases hv_lo_eq hlo (n := 3) rfl
    refine hv_after (va_runS (As := av.map (hv_cv g)) (rest := rest.map (hv_cv g)) hfix hM ⟨callB_of n hts (hv_goodIn hcode) rfl rfl rfl hini (hts _ (hv_at_in w5)) ⟨w1, w2, w3⟩ hrm, hts _ (hv_at_in w6)⟩ ⟨hv_blind, hPc⟩ rfl (by rw [List.length_map]; exact h5) hL.2.1 ?_ hroom hd hf) hS hL kk
    show ((av.reverse ++ rest).map (hv_cv g)) = _
    rw [List.map_append, List.map_reverse]
  · obtain ⟨pl, As, rfl, hrec⟩ := h7 hk0
    rw [if_neg hk0] at w6
    have hn : (As.map (hv_cv g)).length = n := by
      rw [List.length_map]
      have := hv_min1 hk0
      rw [this] at h5
      simpa using h5
    have hst : ((Value.ref pl :: As).reverse ++ rest).map (hv_cv g) = (As.map (hv_cv g)).reverse ++ .ref (g.1 + pl) :: rest.map (hv_cv g) := by
      rw [List.map_append, List.map_reverse, List.map_cons, List.reverse_cons, List.append_assoc]
      rfl
    by_cases hk1 : kd = 1
    · subst hk1
      simp only [if_pos] at w7
      rw [if_neg (by decide)] at w5
      have hi : i = .invokevirtual x := by
        have e0 : k0 = 1 := by rw [← h3]; rfl
        subst e0
        cases i <;> first | (cases h1; done) | (cases h1; rfl) | (simp [hv_inv] at h1)
      subst hi
      cases hv_lo_eq hlo (n := 3) rfl
      obtain ⟨c0, hc8, hkd, hnm⟩ := hrec rfl
      refine hv_after (va_runV (C := y.cls) (b := g.1 + pl) (As := As.map (hv_cv g)) (rest := rest.map (hv_cv g)) hfix hM ⟨callB_of n hts (hv_goodIn hcode) rfl rfl rfl hini (hts _ (hv_at_in w5)) ⟨w1, w2, w3⟩ hrm, hts _ (hv_at_in w6), hts _ (hv_at_in w7)⟩ ⟨hv_blind, ?_, hPc⟩ rfl hn hL.2.1 hst hroom hd hf) hS hL kk
      rw [← hnm]
      exact va_recv hK.1 (hH.obj hkd hc8) (hv_cl_at c0 hc8) (q0 := 0) rfl
    · have hk2 : 2 ≤ kd := hv_ge2 hk0 hk1
      simp only [hk2, if_true, decide_eq_true_eq] at w8
      cases hret w8
      have hi : i = .invokespecial x := by
        have e0 : k0 = 2 := hv_min2 hk2 h3
        subst e0
        cases i <;> first | (cases h1; done) | (cases h1; rfl) | (simp [hv_inv] at h1)
      subst hi
      cases hv_lo_eq hlo (n := 3) rfl
      by_cases hk3 : kd = 3
      · subst hk3
        simp only [if_pos] at w5
        have w5 := of_decide_eq_true w5
        exact hv_after (va_runIN (b := g.1 + pl) (As := As.map (hv_cv g)) (rest := rest.map (hv_cv g)) hfix hM ⟨va_cnB n hts (hv_goodIn hcode) rfl rfl rfl (hK.2.2.2.1 _ w5) hini ⟨w1, w2, w3⟩ hrm, w8, hts _ (hv_at_in w6)⟩ ⟨hv_blind, hPc⟩ rfl hn hL.2.1 hst hroom hd hf) hS hL kk
      · rw [if_neg hk3] at w5
        exact hv_after (va_runI (b := g.1 + pl) (As := As.map (hv_cv g)) (rest := rest.map (hv_cv g)) hfix hM ⟨callB_of n hts (hv_goodIn hcode) rfl rfl rfl hini (hts _ (hv_at_in w5)) ⟨w1, w2, w3⟩ hrm, w8, hts _ (hv_at_in w6)⟩ ⟨hv_blind, hPc⟩ rfl hn hL.2.1 hst hroom hd hf) hS hL kk
/-- a run of the plain machine is the machine's -/
theorem hv_sound {Q : hv_Q} {q : hv_C} (Cx : hv_Cx p s m args meth c g own cc nL rt) (hg : g.2.2.2.2 = xs) (hR : D ≤ R.frames ∧ 40 * D ≤ R.locals ∧ MC ≤ R.cells ∧ MS ≤ R.slots)
    (hret : ∀ (i : Instr) (q' : hv_C) (r : Option Value), decode cc q'.1 = .ok (i, 1) → hv_ret rt i q'.2.2.1 = some r → Q r q'.2.2.2.1 q'.2.2.2.2 → hv_Sem p l e R s m args below meth c g nL Qw q') (h : hv_R own xs cc rt D MC MS Q q) : hv_Sem p l e R s m args below meth c g nL Qw q := by
  refine h _ (fun q' hn => ?_)
  obtain ⟨i, len, hd, hlo, hs | hc | ⟨r, hr, hq⟩⟩ := hn
  · obtain ⟨q2, e2, hx⟩ := hs
    intro H locs lsC hH hS hL
    obtain ⟨pc, ls, st, S, μ⟩ := q'
    dsimp only at hd e2 hH hL ⊢
    unfold hv_step at e2
    split at e2
    · rename_i q3 e3
      cases e2
      exact hv_sndA Cx.1 Cx.2.1 hd hlo e3 hL (fun lsC' hL' => hx H locs lsC' hH hS hL')
    · exact hv_sndM Cx hg hR hd hlo e2 hL hH hS ⟨rfl, rfl⟩ (fun H1 locs1 lsC1 h1 h2 h3 => hx H1 locs1 lsC1 h1 h2 h3)
  · intro H locs lsC hH hS hL
    exact hv_snd_call Cx hg hR hd hlo hc hL hH hS (fun _ hq => hq)
  · have hl1 : len = 1 := by
      unfold hv_ret at hr
      split at hr <;> first | exact beq_iff_eq.mp hlo | cases hr
    subst hl1
    exact hret i q' r hd hr hq
end HVW
def hv_ent (av : List Value) (n : Nat) : hv_Ls := av.map some ++ List.replicate (n - av.length) none
theorem hv_args_mem : ∀ (vs : List Value) (i : Nat), (∀ v ∈ vs, v.category = 1) → ∀ k v, vs[k]? = some v → (i + k, v) ∈ lv_args i vs
  | [], _, _, k, v, h => by simp at h
  | w :: vs, i, hc, k, v, h => by
    unfold lv_args
    cases k with
    | zero =>
      cases h
      exact List.mem_cons_self
    | succ k =>
      have hw : ¬ w.category = 2 := by rw [hc w List.mem_cons_self]; decide
      rw [if_neg hw]
      have := hv_args_mem vs (i + 1) (fun v hv => hc v (List.mem_cons_of_mem _ hv)) k v (by simpa using h)
      rw [show i + 1 + k = i + (k + 1) by omega] at this
      exact List.mem_cons_of_mem _ this
theorem hv_sl_len : ∀ (vs : List Value), (∀ v ∈ vs, v.category = 1) → (lg_sl vs).length = vs.length
  | [], _ => rfl
  | w :: vs, hc => by
    have hw : ¬ w.category = 2 := by rw [hc w List.mem_cons_self]; decide
    have := hv_sl_len vs (fun v hv => hc v (List.mem_cons_of_mem _ hv))
    unfold lg_sl at this ⊢
    rw [List.flatMap_cons, if_neg hw]
    simp [this]
theorem hv_ent_LR {g : hv_G} {av : List Value} {n : Nat} (hc : ∀ v ∈ av, v.category = 1) (hn : av.length ≤ n) : hv_LR g ((lg_sl (av.map (hv_cv g)) ++ List.replicate (n - (lg_sl (av.map (hv_cv g))).length) Slot.unset).toArray) n (hv_ent av n) := by
  have hc' : ∀ v ∈ av.map (hv_cv g), v.category = 1 := by
    intro v hv
    obtain ⟨w, hw, rfl⟩ := List.mem_map.mp hv
    rw [hv_cv_cat]
    exact hc w hw
  have hl := lv_entry (av.map (hv_cv g)) (n := n) (by rw [hv_sl_len _ hc', List.length_map]; exact hn)
  refine ⟨by unfold hv_ent; simp; omega, hl.1, hl.2.1, fun k v hv => ?_⟩
  unfold hv_ent at hv
  by_cases hk : k < av.length
  · rw [List.getElem?_append_left (by rw [List.length_map]; exact hk), List.getElem?_map] at hv
    cases hx : av[k]? with
    | none => rw [hx] at hv; cases hv
    | some w =>
      rw [hx] at hv
      cases hv
      have := hv_args_mem (av.map (hv_cv g)) 0 hc' k (hv_cv g v) (by rw [List.getElem?_map, hx]; rfl)
      rw [Nat.zero_add] at this
      exact hl.2.2 _ this
  · rw [List.getElem?_append_right (by rw [List.length_map]; omega), List.getElem?_replicate] at hv
    split at hv <;> cases hv
/-- a method's return type by its kind -/
def hv_rtok (rt : Nat) (y : MethodName) (ret : Option FieldType) : Prop := (rt = 0 ∧ ret = none ∧ y.name ≠ "<init>") ∨ (rt = 1 ∧ ret = some .int ∧ y.name ≠ "<init>") ∨ (rt = 2 ∧ ret = some .long ∧ y.name ≠ "<init>") ∨ (rt = 3 ∧ ret = some .boolean ∧ y.name ≠ "<init>") ∨ (rt = 4 ∧ ret = none ∧ y.name = "<init>")
theorem hv_Does_of {xs : hv_X} {d mc ms : Nat} {y : MethodName} {av : List Value} {sh : hv_Sh} {μ : hv_M} {post : hv_Po} {bytes : ByteArray} {maxL : Nat} {ret : Option FieldType} (own rt : Nat)
    (hy : plainFor y = true) (hcls : y.cls = hv_nm own) (hcode : Cond.code y bytes maxL ret ∈ hv_tbl) (hrt : hv_rtok rt y ret) (hm : maxL ≤ 20) (hn : av.length ≤ maxL) (hc : ∀ v ∈ av, v.category = 1)
    (h : hv_R own xs bytes rt d mc ms (fun r S μ' => post r S.1 μ' ∧ S.2.1 ≤ mc ∧ S.2.2 ≤ ms) (0, hv_ent av maxL, [], (sh, 0, 0), μ)) : hv_Does xs d mc ms y av sh μ post := by
  refine ⟨bytes, maxL, ret, hm, hcode, fun hi => ?_, fun l g hg => ?_⟩
  · rcases hrt with ⟨-, -, q⟩ | ⟨-, -, q⟩ | ⟨-, -, q⟩ | ⟨-, -, q⟩ | ⟨-, q, -⟩
    · exact absurd hi q
    · exact absurd hi q
    · exact absurd hi q
    · exact absurd hi q
    · exact q
  refine va_MetF (cc := bytes) (maxL := maxL) (ret := ret) hy rfl ?_
  intro p e s m args below meth c s₁ B hml hv
  obtain ⟨rfl, hH, hK⟩ := hv
  have hts := atoms_spec (ws := Cond.code y bytes maxL ret :: hv_tbl) B.pre
  have hown : s.vm.findClass y.cls = some m.cls := findClass_of_methodNamed B.named
  have hr := B.returns
  have hlocks := B.notSynchronized
  have hx := B.exec
  have hb := B.bytes
  rw [hcls] at hown
  have hCx : hv_Cx p s m (av.map (hv_cv g)).toArray meth c g own bytes maxL rt := ⟨hx, hb, hml, hown, fun w hw => hts w (List.mem_cons_of_mem _ hw), fun hi => by
    have h1 := (name_of_methodNamed B.named B.method).1
    rcases hrt with ⟨q, -⟩ | ⟨q, -⟩ | ⟨q, -⟩ | ⟨q, -⟩ | ⟨-, -, q⟩
    · omega
    · omega
    · omega
    · omega
    · rw [h1]; exact q, hK⟩
  rw [lg_entry_eq]
  refine hv_sound (Qw := MQ below (hv_Qc g post) (av.map (hv_cv g)).toArray s mc ms (fun q => g.1 ≤ q)) (l := l) (e := e) (below := below) (R := (headSpec (Cond.code y bytes maxL ret :: hv_tbl) (hv_rm d mc ms)).room) hCx hg ⟨Nat.le_refl _, Nat.le_refl _, Nat.le_refl _, Nat.le_refl _⟩ ?_ h s.heap [] _ hH va_S.rf (hv_ent_LR hc hn)
  intro i q' r hd hr' hq H locs lsC hH' hS' hL'
  obtain ⟨pc, ls, st, S, μ'⟩ := q'
  dsimp only at hd hr' hq hH' hL' ⊢
  obtain ⟨hpost, hcs1, hcs2⟩ := hq
  refine W.widen (k := mc) (n := ms) hcs1 hcs2 ?_
  have hQ : ∀ t : State, t.heap = H → s.WarmedH t.vm → hv_Qc g post (av.map (hv_cv g)).toArray s (.returned (r.map (hv_cv g))) t := fun t ht _ => ⟨r, S.1, μ', rfl, hpost, by rw [ht]; exact hH', by rw [ht]; exact hS'.1, fun q h1 h2 => by rw [ht]; exact hS'.2.1 q h1 h2⟩
  unfold hv_ret at hr'
  split at hr'
  · rename_i v
    split at hr'
    · rename_i hrt'
      cases hr'
      rcases hrt with ⟨q, q2, -⟩ | ⟨q, q2, -⟩ | ⟨q, q2, -⟩ | ⟨q, q2, -⟩ | ⟨q, q2, -⟩
      · exact absurd hrt' (by omega)
      · rw [q2] at hr
        exact W.iret (v := v) hx hb hr hQ hS'.2.2 hd
      · exact absurd hrt' (by omega)
      · rw [q2] at hr
        have hv : v = 0 ∨ v = 1 := by
          rcases hrt' with h9 | h9
          · omega
          · exact h9.2
        exact W.zret (v := v) (ty := .boolean) hx hb hr (by rcases hv with rfl | rfl <;> decide) hQ hS'.2.2 hd
      · exact absurd hrt' (by omega)
    · cases hr'
  · rename_i v
    split at hr'
    · rename_i hrt'
      cases hr'
      rcases hrt with ⟨q, q2, -⟩ | ⟨q, q2, -⟩ | ⟨q, q2, -⟩ | ⟨q, q2, -⟩ | ⟨q, q2, -⟩
      · omega
      · omega
      · rw [q2] at hr
        exact W.lret (v := v) hx hb hr hQ hS'.2.2 hd
      · omega
      · omega
    · cases hr'
  · split at hr'
    · rename_i hrt'
      cases hr'
      rcases hrt with ⟨q, q2, -⟩ | ⟨q, q2, -⟩ | ⟨q, q2, -⟩ | ⟨q, q2, -⟩ | ⟨q, q2, -⟩
      · rw [q2] at hr
        exact W.vret hx hb hr hQ hS'.2.2 hd
      · omega
      · omega
      · omega
      · rw [q2] at hr
        exact W.vret hx hb hr hQ hS'.2.2 hd
    · cases hr'
  · cases hr'
