/-! ===== the start: classes, arrays, statics; the law's walk ===== -/
theorem hv_nw_ok : hv_nw.all (fun w => decide (w ∈ lw_tbl) && w.onTables) = true := by decide +kernel
theorem st_arr {s : State} {cA : ClassId} {kA : Class} {comp : ClassId} {ty : FieldType} (h2 : s.vm.classes[cA]? = some kA) (h3 : kA.kind = .array comp ty) : ArrOfT s cA ty := fun n z => ⟨fun k h => (by cases h), kA, h2, comp, h3⟩
theorem st_tab {s : State} {b N : Nat} {nm : String} {f : Nat → Int32} {A : Nat → Prop} (hq : ∀ c ∈ flatC (Jvm.Cond.and given_1 narrow_1), c.before #[Value.ref b] s = true) (hts : ∀ w ∈ lw_tbl, w.before #[Value.ref b] s = true) (hN : N < 2 ^ 31)
    (h1 : Cond.arrayOf (.static RX6 nm "[I") .int ∈ flatC (Jvm.Cond.and given_1 narrow_1)) (h2 : Cond.eq (.length (.static RX6 nm "[I")) (.int (Int32.ofNat N)) ∈ flatC (Jvm.Cond.and given_1 narrow_1))
    (h3 : (List.range N).all (fun j => decide (Cond.eq (.elem (.static RX6 nm "[I") (.int (Int32.ofNat j))) (.int (f j)) ∈ flatC (Jvm.Cond.and given_1 narrow_1))) = true) (h4 : Cond.laysStatic RX6 nm "[I" ∈ lw_tbl) (h5 : Cond.initialized RX6 ∈ lw_tbl) (hA : ∀ a : Nat, a < s.heap.size → ¬ A a) :
    ∃ t : Nat, va_T .int t N (fun i => .int (f i)) A s s.heap ∧ va_Z RX6 nm "[I" (.ref t) A s s.heap := by
  obtain ⟨t, ht, hT⟩ := va_Tof (args := #[Value.ref b]) (tm := .static RX6 nm "[I") (ty := .int) (N := N) (f := fun i => .int (f i)) (A := A) hN (hq _ h1) (va_eqt (hq _ h2)) (fun j hj => va_eqt (hq _ (of_decide_eq_true (List.all_eq_true.mp h3 j (List.mem_range.mpr hj))))) hA
  exact ⟨t, hT, va_Zref (hts _ h4) (hts _ h5) ht hA⟩
theorem st_K {s : State} {b L : Nat} {xs : Nat → Int32} (hts : ∀ w ∈ lw_tbl, w.before #[Value.ref b] s = true) (hX : va_X b L xs s s.heap) (hbl : b < s.heap.size) (hgv : (Jvm.Cond.and given_1 narrow_1).before #[Value.ref b] s = true) :
    ∃ g : hv_G, g.1 = s.heap.size ∧ g.2.2.2.1 0 = b ∧ g.2.2.2.2 = (L, xs) ∧ hv_K g s s.heap := by
  have hq := flat_of_before _ hgv
  have ht2 : ∀ w ∈ hv_tbl, w.before #[Value.ref b] s = true := fun w hw => hts w (List.mem_filter.mp hw).1
  have hA : ∀ a : Nat, a < s.heap.size → ¬ (fun q : Nat => s.heap.size ≤ q) a := fun a ha => Nat.not_le.mpr ha
  have hcls : ∀ k : Nat, ∃ cC : ClassId, ∃ iS : Nat → Nat, k < 8 → u_Kn s (hv_nm k) (hv_T k) (hv_nf k) cC iS := by
    intro k
    by_cases hk : k < 8
    · obtain ⟨h1, -, h3⟩ := hv_ic_at hk
      obtain ⟨cC, iS, h⟩ := u_known ht2 h3 (ht2 _ h1)
      exact ⟨cC, iS, fun _ => h⟩
    · exact ⟨0, fun _ => 0, fun h => absurd h hk⟩
  obtain ⟨dC, hc1⟩ := Classical.axiomOfChoice hcls
  obtain ⟨dI, hc2⟩ := Classical.axiomOfChoice hc1
  obtain ⟨aI, kI, cI, i1, i2, i3⟩ := Cond.arrayClass_spec (ht2 _ (hv_misc_in 0 rfl))
  obtain ⟨aZ, kZ, cZ, z1, z2, z3⟩ := Cond.arrayClass_spec (ht2 _ (hv_misc_in 1 rfl))
  have hO1 := hts (Cond.arrayOver (.array .int)) (by decide +kernel)
  have hO2 := hts (Cond.arrayOver (.object RX0)) (by decide +kernel)
  obtain ⟨cA, aA, kA, a1, a2, a3, a4, a5⟩ := arrayOverA_spec hO1
  obtain ⟨cN, aN, kN, n1, n2, n3, n4, n5⟩ := Cond.arrayOver_spec hO2
  obtain ⟨t1, m1, y1⟩ := st_tab (N := 5) (nm := "MOST_OF_NUMBER") (f := fun i => ([20, 20, 30, 3, 63] : List Int32).getD i 0) hq hts (by decide) (by decide +kernel) (by decide +kernel) (by decide +kernel) (by decide +kernel) (by decide +kernel) hA
  refine ⟨(s.heap.size, (fun k => if k = 10 then aI else if k = 11 then aZ else if k = 12 then aA else aN), (dC, dI), (fun j => if j = 0 then b else t1), (L, xs)), rfl, rfl, rfl, ⟨fun c q hcq => ?_, fun k q hk => ?_⟩, fun j hj => ?_, fun j h0 hj => ?_, fun w hw => ?_, va_AO.of hO2, hO1⟩
  · have hc : c < 8 := (List.getElem?_eq_some_iff.mp hcq).1
    rw [hv_cl_at c hc] at hcq
    cases hcq
    exact hc2 c hc
  · match k, hk with
    | 0, hk => cases hk; exact ⟨st_arr i2 i3, i1⟩
    | 1, hk => cases hk; exact ⟨st_arr z2 z3, z1⟩
    | 2, hk => cases hk; exact ⟨st_arr a3 a4, a5⟩
    | 3, hk => cases hk; exact ⟨st_arr n3 n4, kN, cN, n3, n4, n1, n5⟩
    | k + 4, hk => cases hk
  · have : j = 0 ∨ j = 1 ∨ j = 2 ∨ j = 3 := by omega
    rcases this with rfl | rfl | rfl | rfl
    · obtain ⟨scr, h1, h2, h3, h4, h5⟩ := hX
      exact ⟨scr, h1, h2, h3, by rw [h4]; exact Nat.le_refl _, by rw [h4]; rfl, h5, hA b hbl⟩
    · exact m1
    · exact m1
    · exact m1
  · have : j = 1 ∨ j = 2 ∨ j = 3 := by omega
    rcases this with rfl | rfl | rfl
    · exact y1
    · exact y1
    · exact y1
  · have h := List.all_eq_true.mp hv_nw_ok w hw
    rw [Bool.and_eq_true] at h
    exact va_Nw.of h.2 (hts w (of_decide_eq_true h.1))
theorem whole_start {p : Program} {e : Env} {s : State} {m : MethodId} {below : List Frame} {meth : Method} {c : Code} (l : Launch) {b L : Nat} {xs : Nat → Int32} (hL : L ≤ 2048) (C0 : lw_At p s m meth c b L xs) : W p l e room_1 s m #[Value.ref b] below meth c s.heap [] 0 0 (lw_Z below #[Value.ref b] s) (entryFrame m ([Value.ref b] : List Value).toArray 4) := by
  obtain ⟨hx, hb, hr, hml, hown, hts, hX, hbl, hlocks, hgv⟩ := id C0
  obtain ⟨g, g1, g2, g3, hK⟩ := st_K hts hX hbl hgv
  have Cx : hv_Cx p s m #[Value.ref b] meth c g 10 cL_law 4 3 := ⟨hx, hb, hml, hown, fun w hw => hts w (List.mem_filter.mp hw).1, fun h => absurd h (by decide), hK⟩
  have hlaw := law_all (xs := (L, xs)) (D := 1000) (MC := 600000) (MS := 7302250) (Q := fun r S _ => r = some (.int 1) ∧ S.2.1 ≤ 600000 ∧ S.2.2 ≤ 7302250) (by decide) (by decide) (by decide) hL (fun _ => ⟨rfl, by decide, by decide⟩)
  have hH : hv_H g [] (mmL [] []) s.heap := ⟨by rw [g1]; rfl, fun k s hk => by cases hk⟩
  have hS : va_S (fun a => g.1 ≤ a) s.heap s.heap [] := va_S.rf
  have hLR := hv_ent_LR (g := g) (av := [.retAddr 0]) (n := 4) (fun v hv => by rw [List.mem_singleton.mp hv]; rfl) (by decide)
  rw [show ([Value.retAddr 0].map (hv_cv g)) = [Value.ref b] by rw [← g2]; rfl] at hLR
  rw [lg_entry_eq]
  refine hv_sound (Qw := lw_Z below #[Value.ref b] s) (l := l) (e := e) (below := below) (R := room_1) Cx g3 (D := 1000) (MC := 600000) (MS := 7302250) ⟨by decide, by decide, by decide, by decide⟩ ?_ hlaw s.heap [] _ hH hS hLR
  intro i q' r hd hr' hq H locs lsC hH' hS' hL'
  obtain ⟨pc, ls, st, S, μ'⟩ := q'
  dsimp only at hd hr' hq hH' hL' ⊢
  obtain ⟨rfl, hcs1, hcs2⟩ := hq
  refine va_forget (fun q hq => by rw [← g1]; exact hS'.2.2 q hq) ?_
  refine W.widen (k := 600000) (n := 7302250) hcs1 hcs2 ?_
  unfold hv_ret at hr'
  split at hr'
  · rename_i v
    split at hr'
    · cases hr'
      exact lw_ret hx hb hr hlocks hd
    · cases hr'
  · split at hr' <;> cases hr'
  · split at hr' <;> cases hr'
  · cases hr'
