/-! The law's start: what the Statement gives of it. -/
theorem xl_ne {A B : String} {args : Array Value} {s : State} (hA : (Cond.castable A A).before args s = true) (hB : (Cond.castable B B).before args s = true) (hn : (Cond.not (Cond.castable A B)).before args s = true) : ∃ c d, s.vm.findClass A = some c ∧ s.vm.findClass B = some d ∧ s.vm.assignable c d = false := by
  obtain ⟨c, _, h1, -, -⟩ := Cond.castable_spec hA
  obtain ⟨d, _, h2, -, -⟩ := Cond.castable_spec hB
  have hv := Cond.holds_not_iff.mp hn
  simp only [Cond.value, h1, h2] at hv
  exact ⟨c, d, h1, h2, Option.some.inj hv⟩
theorem xl_st {n d : String} {args : Array Value} {s : State} (hl : (Cond.laysStatic Bundle.tN n d).before args s = true) (hr : (Cond.isRef (.static Bundle.tN n d)).before args s = true) : xt_S n d s.heap.size s s.heap := by
  obtain ⟨c, k, i, f, a, cell, hc, hi, hst, ha, hcell, hs, hcls, hlt, hty⟩ := Cond.laysStatic_spec hl
  have hslot : cell.slots[f.slot]? = some cell.slots[f.slot] := Array.getElem?_eq_getElem hlt
  generalize cell.slots[f.slot] = v at hslot
  have he : (Term.static Bundle.tN n d).eval args s none [] s = some v := by
    simp [Term.eval, State.fieldNamed?, hi, hst, ha, hcell, hs, hslot]
  refine ⟨c, k, i, f, a, cell, v, hc, hi, hst, ha, hcell, hs, hcls, hty, hslot, ?_, (Array.getElem?_eq_some_iff.mp hcell).1⟩
  simp only [Cond.before, Cond.holds, Cond.value, he] at hr
  cases v <;> simp_all [Value.isRef]
theorem xl_tyO {C : String} {s : State} (h : va_AO C s) : ∃ cA, ArrOfT s cA (.object C) ∧ va_RA s cA (.object C) := by
  obtain ⟨comp, c, k, h1, h2, h3, h4, h5⟩ := Cond.arrayOver_spec h
  exact ⟨c, fun N z => ⟨(fun k h => by cases h), k, h3, comp, h4⟩, k, comp, h3, h4, h1, h5⟩
theorem xl_tyI {args : Array Value} {s : State} (h : (Cond.arrayClass .int).before args s = true) : ∃ cA, ArrOfT s cA .int ∧ va_RA s cA .int := by
  obtain ⟨c, k, comp, h1, h2, h3⟩ := Cond.arrayClass_spec h
  exact ⟨c, fun N z => ⟨(fun k h => by cases h), k, h2, comp, h3⟩, h1⟩
theorem xl_tyZ {args : Array Value} {s : State} (h : (Cond.arrayClass .boolean).before args s = true) : ∃ cA, ArrOfT s cA .boolean ∧ va_RA s cA .boolean := by
  obtain ⟨c, k, comp, h1, h2, h3⟩ := Cond.arrayClass_spec h
  exact ⟨c, fun N z => ⟨(fun k h => by cases h), k, h2, comp, h3⟩, h1⟩
theorem xl_tyJ {args : Array Value} {s : State} (h : (Cond.arrayClass .long).before args s = true) : ∃ cA, ArrOfT s cA .long ∧ va_RA s cA .long := by
  obtain ⟨c, k, comp, h1, h2, h3⟩ := Cond.arrayClass_spec h
  exact ⟨c, fun N z => ⟨(fun k h => by cases h), k, h2, comp, h3⟩, h1⟩
theorem xl_K {args : Array Value} {s : State} (hts : ∀ w ∈ xw_ws, w.before args s = true) (hO : xw_O s) : ∃ g : xw_G, xw_K g s := by
  obtain ⟨c0, i0, n0⟩ := u_known (C := R_A) (T := F_A) (N := 4) (n := 4) hts xw_in_A (hts _ is_A)
  obtain ⟨c1, i1, n1⟩ := u_known (C := R_C) (T := F_C) (N := 7) (n := 7) hts xw_in_C (hts _ is_C)
  obtain ⟨c2, i2, n2⟩ := u_known (C := R_Z) (T := F_Z) (N := 6) (n := 6) hts xw_in_Z (hts _ is_Z)
  obtain ⟨c3, i3, n3⟩ := u_known (C := R_Q) (T := F_Q) (N := 3) (n := 3) hts xw_in_Q (hts _ is_Q)
  obtain ⟨c4, i4, n4⟩ := u_known (C := R_X) (T := F_X) (N := 6) (n := 6) hts xw_in_X (hts _ is_X)
  obtain ⟨c5, i5, n5⟩ := u_known (C := R_U) (T := F_U) (N := 34) (n := 34) hts xw_in_U (hts _ is_U)
  obtain ⟨a0, m0⟩ := xl_tyO hO.1
  obtain ⟨a1, m1⟩ := xl_tyO hO.2.1
  obtain ⟨a2, m2⟩ := xl_tyO hO.2.2
  obtain ⟨a3, m3⟩ := xl_tyI (hts _ ar_int)
  obtain ⟨a4, m4⟩ := xl_tyZ (hts _ ar_boolean)
  obtain ⟨a5, m5⟩ := xl_tyJ (hts _ ar_long)
  refine ⟨((fun k => match k with | 0 => c0 | 1 => c1 | 2 => c2 | 3 => c3 | 4 => c4 | _ => c5, fun k => match k with | 0 => i0 | 1 => i1 | 2 => i2 | 3 => i3 | 4 => i4 | _ => i5), fun k => match k with | 0 => a0 | 1 => a1 | 2 => a2 | 3 => a3 | 4 => a4 | _ => a5), ?_, ?_⟩
  · intro k q hq
    match k, hq with
    | 0, hq => cases hq; exact n0
    | 1, hq => cases hq; exact n1
    | 2, hq => cases hq; exact n2
    | 3, hq => cases hq; exact n3
    | 4, hq => cases hq; exact n4
    | 5, hq => cases hq; exact n5
    | k + 6, hq => exact absurd hq (by simp [vwCl])
  · intro k q hq
    match k, hq with
    | 0, hq => cases hq; exact m0
    | 1, hq => cases hq; exact m1
    | 2, hq => cases hq; exact m2
    | 3, hq => cases hq; exact m3
    | 4, hq => cases hq; exact m4
    | 5, hq => cases hq; exact m5
    | k + 6, hq => exact absurd hq (by simp [xw_tys])
theorem xl_t {w : Cond} (k : Nat) (h : tables_1[k]? = some w) : w ∈ lw_tbl := List.mem_append_right _ (List.mem_of_getElem? h)
set_option maxRecDepth 20000 in
theorem xl_cw : ∀ w ∈ xt_fw, w ∈ lw_tbl := List.forall_mem_cons.mpr ⟨xl_t 246 rfl, List.forall_mem_cons.mpr ⟨xl_t 313 rfl, List.forall_mem_cons.mpr ⟨xl_t 361 rfl, List.forall_mem_cons.mpr ⟨xl_t 467 rfl, List.forall_mem_cons.mpr ⟨xl_t 247 rfl, List.forall_mem_cons.mpr ⟨xl_t 249 rfl, List.forall_mem_cons.mpr ⟨xl_t 251 rfl, fun _ h => absurd h List.not_mem_nil⟩⟩⟩⟩⟩⟩⟩
theorem xn_X.k {g : xw_G} {o : Nat} {H H1 : Heap} (h : xn_X g o H) (hk : ∀ p : Nat, o ≤ p → p < o + 56 → H1[p]? = H[p]?) : xn_X g o H1 := by
  obtain ⟨h1, h2, h3, h4, h5, h6⟩ := h
  exact ⟨h1.kept (hk _ (by (try dsimp only); omega) (by (try dsimp only); omega)), h2.kept (hk _ (by (try dsimp only); omega) (by (try dsimp only); omega)), h3.kept (hk _ (by (try dsimp only); omega) (by (try dsimp only); omega)), fun i hi => (h4 i hi).k (fun p q1 q2 => hk p (by omega) (by omega)), fun i hi => (h5 i hi).k (fun p q1 q2 => hk p (by omega) (by omega)), h6.k (fun p q1 q2 => hk p (by omega) (by omega))⟩
set_option maxRecDepth 20000 in
theorem xl_dU : ∀ j, j < 34 → defaultValue (t_U j) = vp_V [.int 0, .null, .null, .null, .null, .null, .null, .null, .null, .null, .int 0, .null, .null, .null, .null, .null, .null, .null, .null, .null, .null, .null, .null, .null, .null, .null, .int 0, .int 0, .int 0, .int 0, .int 0, .int 0, .int 0, .int 0] j := by
  intro j hj
  rcases (show j = 0 ∨ j = 1 ∨ j = 2 ∨ j = 3 ∨ j = 4 ∨ j = 5 ∨ j = 6 ∨ j = 7 ∨ j = 8 ∨ j = 9 ∨ j = 10 ∨ j = 11 ∨ j = 12 ∨ j = 13 ∨ j = 14 ∨ j = 15 ∨ j = 16 ∨ j = 17 ∨ j = 18 ∨ j = 19 ∨ j = 20 ∨ j = 21 ∨ j = 22 ∨ j = 23 ∨ j = 24 ∨ j = 25 ∨ j = 26 ∨ j = 27 ∨ j = 28 ∨ j = 29 ∨ j = 30 ∨ j = 31 ∨ j = 32 ∨ j = 33 by omega) with rfl | rfl | rfl | rfl | rfl | rfl | rfl | rfl | rfl | rfl | rfl | rfl | rfl | rfl | rfl | rfl | rfl | rfl | rfl | rfl | rfl | rfl | rfl | rfl | rfl | rfl | rfl | rfl | rfl | rfl | rfl | rfl | rfl | rfl <;> rfl
