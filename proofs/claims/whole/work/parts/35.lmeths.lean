/-! The law's own methods, by program. -/
theorem xp_register_c (σ : xs_S) (x : Int32) (y : Int32) (h : ¬ (xp_register σ x y).1 = 0) : (xp_register σ x y).1 = 1 ∨ (xp_register σ x y).1 = 2 := by
  revert h
  unfold xp_register
  repeat' split
  all_goals simp
theorem c_L_register (l : Launch) (hsl : l.stackTraces = false) (g : xw_G) (B : Nat → Prop) (o lim w : Nat) (hlw : lim ≤ w) (hBw : B w ∧ ¬ xw_B o w) (σ : xs_S) (x : Int32) (y : Int32) : xl_F l y_L_register (Cond.codeWith y_L_register b_L_register 5 (some .int) [(0, 10, 13, 13), (0, 10, 17, 15)]) g B o lim w σ (xp_register σ x y) nI [.ref o, .int x, .int y, .ref w] 8 132 2 12 := by
  refine xl_hd (own := R_L) (by decide) rfl (Nat.le_of_ble_eq_true rfl) ?_
  intro p e R s m below meth c ls f hRf hRl hRc hRs hhh hC hW hO hN hl
  obtain ⟨hx, hb, hml, hr, hown, hts, hlk⟩ := id hC
  have hX := hW.1
  have hK := hW.2.1
  have hS : va_S (xl_A o w s.heap.size) s.heap s.heap [] := va_S.rf
  have hA0 : ∀ q, xl_A o w s.heap.size q → lim ≤ q := fun q h => h.elim (fun h => h.elim (fun z => Nat.le_trans hW.2.2.2 z.1) (fun z => Nat.le_trans hW.2.2.2 (Nat.le_trans (Nat.le_trans (Nat.le_add_right _ _) hX.lt) z))) (fun z => by rw [z]; exact hlw)
  have hl : lv_has ls 5 [(0, .ref o), (1, .int x), (2, .int y), (3, .ref w)] := hl
  refine lv_aload_n hx hb d_L_register_0 rfl (lv_at hl 3 rfl) ?_
  refine lv_iconst (v := 0) hx hb d_L_register_1 (by decide) ?_
  refine lv_aload_n hx hb d_L_register_2 rfl (lv_at hl 0 rfl) ?_
  refine lv_iload_n hx hb d_L_register_3 rfl (lv_at hl 1 rfl) ?_
  refine lv_iload_n hx hb d_L_register_4 rfl (lv_at hl 2 rfl) ?_
  refine xl_iF (rest := [.int 0, .ref w]) (c_X_register l hsl g B o lim σ x y) gd_L_X_register hd_X_register hC hK hW.2.2.1 hW.2.2.2 hX hS hA0 (fun q h => Or.inl h) (by omega) (by omega) (by omega) (by omega) hl.1 rfl (Nat.le_of_ble_eq_true rfl) d_L_register_5 (fun H locs h0 hX hS hF => ?_) (fun ce q9 H locs h0 hX hS hF e1 e2 e3 => ?_)
  · have hO := hO.kept (hF.2 w hO.lt hBw.2)
    refine lv_i2l (v := (xp_register σ x y).2.1.toInt64) hx hb d_L_register_8 rfl ?_
    refine xl_put hx hb hK hO d_L_register_9 (fun H lc hlc hO hz hq => ?_)
    have hX := hX.out (x := fun q => q = w) (fun q z => by subst z; exact hBw) (xw_F.put hz hq)
    have hS := xw_Sput hS hz hq hlc (Or.inr rfl)
    refine lv_goto (tgt := 21) hx hb d_L_register_10 (by decide) ?_
    refine lv_iconst (v := 0) hx hb d_L_register_21 (by decide) ?_
    exact xl_ret (k := nI) hC hX hO hS (by omega) (by omega) (by rw [h0]; try rfl) rfl (fun _ => rfl) d_L_register_22
  · have hO := hO.kept (hF.2 w hO.lt hBw.2)
    rcases xp_register_c σ x y h0 with h9 | h9
    · rw [h9] at e3
      refine xl_catch (hp := 13) hhh e1 e2 (Vm.classAt_of_findClass e3) (fun pl hpl => xl_T1 (k := 1) hown (hts _ cl_L_13) e3 ⟨by decide, by decide, by decide⟩ pl hpl) ?_
      refine lv_astore (lv' := [(4, .ref q9), (0, .ref o), (1, .int x), (2, .int y), (3, .ref w)]) hx hb d_L_register_13 hl (by decide) rfl (fun ls hl => ?_)
      refine lv_iconst (v := 1) hx hb d_L_register_15 (by decide) ?_
      exact xl_ret (k := nI) hC hX hO hS (by omega) (by omega) (by rw [h9]; try rfl) rfl (fun h => absurd h h0) d_L_register_16
    · rw [h9] at e3
      refine xl_catch (hp := 17) hhh e1 e2 (Vm.classAt_of_findClass e3) (fun pl hpl => xl_T2 (k := 2) (j := 1) hown (hts _ cl_L_13) hN (by decide) e3 ⟨by decide, by decide, by decide⟩ pl hpl (xl_T1 (k := 2) hown (hts _ cl_L_15) e3 ⟨by decide, by decide, by decide⟩ pl hpl)) ?_
      refine lv_astore (lv' := [(4, .ref q9), (0, .ref o), (1, .int x), (2, .int y), (3, .ref w)]) hx hb d_L_register_17 hl (by decide) rfl (fun ls hl => ?_)
      refine lv_iconst (v := 2) hx hb d_L_register_19 (by decide) ?_
      exact xl_ret (k := nI) hC hX hO hS (by omega) (by omega) (by rw [h9]; try rfl) rfl (fun h => absurd h h0) d_L_register_20
theorem xp_connect_c (σ : xs_S) (x : Int32) (h : ¬ (xp_connect σ x).1 = 0) : (xp_connect σ x).1 = 1 ∨ (xp_connect σ x).1 = 2 := by
  revert h
  unfold xp_connect
  repeat' split
  all_goals simp
theorem c_L_connect (l : Launch) (hsl : l.stackTraces = false) (g : xw_G) (B : Nat → Prop) (o lim w : Nat) (hlw : lim ≤ w) (hBw : B w ∧ ¬ xw_B o w) (σ : xs_S) (x : Int32) : xl_F l y_L_connect (Cond.codeWith y_L_connect b_L_connect 4 (some .int) [(0, 9, 12, 13), (0, 9, 15, 15)]) g B o lim w σ (xp_connect σ x) nI [.ref o, .int x, .ref w] 8 131 2 12 := by
  refine xl_hd (own := R_L) (by decide) rfl (Nat.le_of_ble_eq_true rfl) ?_
  intro p e R s m below meth c ls f hRf hRl hRc hRs hhh hC hW hO hN hl
  obtain ⟨hx, hb, hml, hr, hown, hts, hlk⟩ := id hC
  have hX := hW.1
  have hK := hW.2.1
  have hS : va_S (xl_A o w s.heap.size) s.heap s.heap [] := va_S.rf
  have hA0 : ∀ q, xl_A o w s.heap.size q → lim ≤ q := fun q h => h.elim (fun h => h.elim (fun z => Nat.le_trans hW.2.2.2 z.1) (fun z => Nat.le_trans hW.2.2.2 (Nat.le_trans (Nat.le_trans (Nat.le_add_right _ _) hX.lt) z))) (fun z => by rw [z]; exact hlw)
  have hl : lv_has ls 4 [(0, .ref o), (1, .int x), (2, .ref w)] := hl
  refine lv_aload_n hx hb d_L_connect_0 rfl (lv_at hl 2 rfl) ?_
  refine lv_iconst (v := 0) hx hb d_L_connect_1 (by decide) ?_
  refine lv_aload_n hx hb d_L_connect_2 rfl (lv_at hl 0 rfl) ?_
  refine lv_iload_n hx hb d_L_connect_3 rfl (lv_at hl 1 rfl) ?_
  refine xl_iF (rest := [.int 0, .ref w]) (c_X_connect l hsl g B o lim σ x) gd_L_X_connect hd_X_connect hC hK hW.2.2.1 hW.2.2.2 hX hS hA0 (fun q h => Or.inl h) (by omega) (by omega) (by omega) (by omega) hl.1 rfl (Nat.le_of_ble_eq_true rfl) d_L_connect_4 (fun H locs h0 hX hS hF => ?_) (fun ce q9 H locs h0 hX hS hF e1 e2 e3 => ?_)
  · have hO := hO.kept (hF.2 w hO.lt hBw.2)
    refine lv_i2l (v := (xp_connect σ x).2.1.toInt64) hx hb d_L_connect_7 rfl ?_
    refine xl_put hx hb hK hO d_L_connect_8 (fun H lc hlc hO hz hq => ?_)
    have hX := hX.out (x := fun q => q = w) (fun q z => by subst z; exact hBw) (xw_F.put hz hq)
    have hS := xw_Sput hS hz hq hlc (Or.inr rfl)
    refine lv_goto (tgt := 18) hx hb d_L_connect_9 (by decide) ?_
    refine lv_iconst (v := 0) hx hb d_L_connect_18 (by decide) ?_
    exact xl_ret (k := nI) hC hX hO hS (by omega) (by omega) (by rw [h0]; try rfl) rfl (fun _ => rfl) d_L_connect_19
  · have hO := hO.kept (hF.2 w hO.lt hBw.2)
    rcases xp_connect_c σ x h0 with h9 | h9
    · rw [h9] at e3
      refine xl_catch (hp := 12) hhh e1 e2 (Vm.classAt_of_findClass e3) (fun pl hpl => xl_T1 (k := 1) hown (hts _ cl_L_13) e3 ⟨by decide, by decide, by decide⟩ pl hpl) ?_
      refine lv_astore_n (lv' := [(3, .ref q9), (0, .ref o), (1, .int x), (2, .ref w)]) hx hb d_L_connect_12 rfl hl (by decide) rfl (fun ls hl => ?_)
      refine lv_iconst (v := 1) hx hb d_L_connect_13 (by decide) ?_
      exact xl_ret (k := nI) hC hX hO hS (by omega) (by omega) (by rw [h9]; try rfl) rfl (fun h => absurd h h0) d_L_connect_14
    · rw [h9] at e3
      refine xl_catch (hp := 15) hhh e1 e2 (Vm.classAt_of_findClass e3) (fun pl hpl => xl_T2 (k := 2) (j := 1) hown (hts _ cl_L_13) hN (by decide) e3 ⟨by decide, by decide, by decide⟩ pl hpl (xl_T1 (k := 2) hown (hts _ cl_L_15) e3 ⟨by decide, by decide, by decide⟩ pl hpl)) ?_
      refine lv_astore_n (lv' := [(3, .ref q9), (0, .ref o), (1, .int x), (2, .ref w)]) hx hb d_L_connect_15 rfl hl (by decide) rfl (fun ls hl => ?_)
      refine lv_iconst (v := 2) hx hb d_L_connect_16 (by decide) ?_
      exact xl_ret (k := nI) hC hX hO hS (by omega) (by omega) (by rw [h9]; try rfl) rfl (fun h => absurd h h0) d_L_connect_17
theorem xp_login_c (σ : xs_S) (x : Int32) (y : Int32) (h : ¬ (xp_login σ x y).1 = 0) : (xp_login σ x y).1 = 1 ∨ (xp_login σ x y).1 = 2 := by
  revert h
  unfold xp_login
  repeat' split
  all_goals simp
theorem c_L_login (l : Launch) (hsl : l.stackTraces = false) (g : xw_G) (B : Nat → Prop) (o lim w : Nat) (hlw : lim ≤ w) (hBw : B w ∧ ¬ xw_B o w) (σ : xs_S) (x : Int32) (y : Int32) : xl_F l y_L_login (Cond.codeWith y_L_login b_L_login 5 (some .int) [(0, 10, 13, 13), (0, 10, 17, 15)]) g B o lim w σ (xp_login σ x y) nI [.ref o, .int x, .int y, .ref w] 8 132 2 12 := by
  refine xl_hd (own := R_L) (by decide) rfl (Nat.le_of_ble_eq_true rfl) ?_
  intro p e R s m below meth c ls f hRf hRl hRc hRs hhh hC hW hO hN hl
  obtain ⟨hx, hb, hml, hr, hown, hts, hlk⟩ := id hC
  have hX := hW.1
  have hK := hW.2.1
  have hS : va_S (xl_A o w s.heap.size) s.heap s.heap [] := va_S.rf
  have hA0 : ∀ q, xl_A o w s.heap.size q → lim ≤ q := fun q h => h.elim (fun h => h.elim (fun z => Nat.le_trans hW.2.2.2 z.1) (fun z => Nat.le_trans hW.2.2.2 (Nat.le_trans (Nat.le_trans (Nat.le_add_right _ _) hX.lt) z))) (fun z => by rw [z]; exact hlw)
  have hl : lv_has ls 5 [(0, .ref o), (1, .int x), (2, .int y), (3, .ref w)] := hl
  refine lv_aload_n hx hb d_L_login_0 rfl (lv_at hl 3 rfl) ?_
  refine lv_iconst (v := 0) hx hb d_L_login_1 (by decide) ?_
  refine lv_aload_n hx hb d_L_login_2 rfl (lv_at hl 0 rfl) ?_
  refine lv_iload_n hx hb d_L_login_3 rfl (lv_at hl 1 rfl) ?_
  refine lv_iload_n hx hb d_L_login_4 rfl (lv_at hl 2 rfl) ?_
  refine xl_iF (rest := [.int 0, .ref w]) (c_X_login l hsl g B o lim σ x y) gd_L_X_login hd_X_login hC hK hW.2.2.1 hW.2.2.2 hX hS hA0 (fun q h => Or.inl h) (by omega) (by omega) (by omega) (by omega) hl.1 rfl (Nat.le_of_ble_eq_true rfl) d_L_login_5 (fun H locs h0 hX hS hF => ?_) (fun ce q9 H locs h0 hX hS hF e1 e2 e3 => ?_)
  · have hO := hO.kept (hF.2 w hO.lt hBw.2)
    refine lv_i2l (v := (xp_login σ x y).2.1.toInt64) hx hb d_L_login_8 rfl ?_
    refine xl_put hx hb hK hO d_L_login_9 (fun H lc hlc hO hz hq => ?_)
    have hX := hX.out (x := fun q => q = w) (fun q z => by subst z; exact hBw) (xw_F.put hz hq)
    have hS := xw_Sput hS hz hq hlc (Or.inr rfl)
    refine lv_goto (tgt := 21) hx hb d_L_login_10 (by decide) ?_
    refine lv_iconst (v := 0) hx hb d_L_login_21 (by decide) ?_
    exact xl_ret (k := nI) hC hX hO hS (by omega) (by omega) (by rw [h0]; try rfl) rfl (fun _ => rfl) d_L_login_22
  · have hO := hO.kept (hF.2 w hO.lt hBw.2)
    rcases xp_login_c σ x y h0 with h9 | h9
    · rw [h9] at e3
      refine xl_catch (hp := 13) hhh e1 e2 (Vm.classAt_of_findClass e3) (fun pl hpl => xl_T1 (k := 1) hown (hts _ cl_L_13) e3 ⟨by decide, by decide, by decide⟩ pl hpl) ?_
      refine lv_astore (lv' := [(4, .ref q9), (0, .ref o), (1, .int x), (2, .int y), (3, .ref w)]) hx hb d_L_login_13 hl (by decide) rfl (fun ls hl => ?_)
      refine lv_iconst (v := 1) hx hb d_L_login_15 (by decide) ?_
      exact xl_ret (k := nI) hC hX hO hS (by omega) (by omega) (by rw [h9]; try rfl) rfl (fun h => absurd h h0) d_L_login_16
    · rw [h9] at e3
      refine xl_catch (hp := 17) hhh e1 e2 (Vm.classAt_of_findClass e3) (fun pl hpl => xl_T2 (k := 2) (j := 1) hown (hts _ cl_L_13) hN (by decide) e3 ⟨by decide, by decide, by decide⟩ pl hpl (xl_T1 (k := 2) hown (hts _ cl_L_15) e3 ⟨by decide, by decide, by decide⟩ pl hpl)) ?_
      refine lv_astore (lv' := [(4, .ref q9), (0, .ref o), (1, .int x), (2, .int y), (3, .ref w)]) hx hb d_L_login_17 hl (by decide) rfl (fun ls hl => ?_)
      refine lv_iconst (v := 2) hx hb d_L_login_19 (by decide) ?_
      exact xl_ret (k := nI) hC hX hO hS (by omega) (by omega) (by rw [h9]; try rfl) rfl (fun h => absurd h h0) d_L_login_20
theorem xp_prove_c (σ : xs_S) (x : Int32) (y : Int32) (h : ¬ (xp_prove σ x y).1 = 0) : (xp_prove σ x y).1 = 1 ∨ (xp_prove σ x y).1 = 2 ∨ (xp_prove σ x y).1 = 3 := by
  revert h
  unfold xp_prove
  repeat' split
  all_goals simp
theorem c_L_prove (l : Launch) (hsl : l.stackTraces = false) (g : xw_G) (B : Nat → Prop) (o lim w : Nat) (hlw : lim ≤ w) (hBw : B w ∧ ¬ xw_B o w) (σ : xs_S) (x : Int32) (y : Int32) (hwf : xm_wf σ) : xl_F l y_L_prove (Cond.codeWith y_L_prove b_L_prove 5 (some .int) [(0, 10, 13, 13), (0, 10, 17, 15), (0, 10, 21, 27)]) g B o lim w σ (xp_prove σ x y) nI [.ref o, .int x, .int y, .ref w] 8 132 3 18 := by
  refine xl_hd (own := R_L) (by decide) rfl (Nat.le_of_ble_eq_true rfl) ?_
  intro p e R s m below meth c ls f hRf hRl hRc hRs hhh hC hW hO hN hl
  obtain ⟨hx, hb, hml, hr, hown, hts, hlk⟩ := id hC
  have hX := hW.1
  have hK := hW.2.1
  have hS : va_S (xl_A o w s.heap.size) s.heap s.heap [] := va_S.rf
  have hA0 : ∀ q, xl_A o w s.heap.size q → lim ≤ q := fun q h => h.elim (fun h => h.elim (fun z => Nat.le_trans hW.2.2.2 z.1) (fun z => Nat.le_trans hW.2.2.2 (Nat.le_trans (Nat.le_trans (Nat.le_add_right _ _) hX.lt) z))) (fun z => by rw [z]; exact hlw)
  have hl : lv_has ls 5 [(0, .ref o), (1, .int x), (2, .int y), (3, .ref w)] := hl
  refine lv_aload_n hx hb d_L_prove_0 rfl (lv_at hl 3 rfl) ?_
  refine lv_iconst (v := 0) hx hb d_L_prove_1 (by decide) ?_
  refine lv_aload_n hx hb d_L_prove_2 rfl (lv_at hl 0 rfl) ?_
  refine lv_iload_n hx hb d_L_prove_3 rfl (lv_at hl 1 rfl) ?_
  refine lv_iload_n hx hb d_L_prove_4 rfl (lv_at hl 2 rfl) ?_
  refine xl_iF (rest := [.int 0, .ref w]) (c_X_prove l hsl g B o lim σ x y hwf) gd_L_X_prove hd_X_prove hC hK hW.2.2.1 hW.2.2.2 hX hS hA0 (fun q h => Or.inl h) (by omega) (by omega) (by omega) (by omega) hl.1 rfl (Nat.le_of_ble_eq_true rfl) d_L_prove_5 (fun H locs h0 hX hS hF => ?_) (fun ce q9 H locs h0 hX hS hF e1 e2 e3 => ?_)
  · have hO := hO.kept (hF.2 w hO.lt hBw.2)
    refine lv_i2l (v := (xp_prove σ x y).2.1.toInt64) hx hb d_L_prove_8 rfl ?_
    refine xl_put hx hb hK hO d_L_prove_9 (fun H lc hlc hO hz hq => ?_)
    have hX := hX.out (x := fun q => q = w) (fun q z => by subst z; exact hBw) (xw_F.put hz hq)
    have hS := xw_Sput hS hz hq hlc (Or.inr rfl)
    refine lv_goto (tgt := 25) hx hb d_L_prove_10 (by decide) ?_
    refine lv_iconst (v := 0) hx hb d_L_prove_25 (by decide) ?_
    exact xl_ret (k := nI) hC hX hO hS (by omega) (by omega) (by rw [h0]; try rfl) rfl (fun _ => rfl) d_L_prove_26
  · have hO := hO.kept (hF.2 w hO.lt hBw.2)
    rcases xp_prove_c σ x y h0 with h9 | h9 | h9
    · rw [h9] at e3
      refine xl_catch (hp := 13) hhh e1 e2 (Vm.classAt_of_findClass e3) (fun pl hpl => xl_T1 (k := 1) hown (hts _ cl_L_13) e3 ⟨by decide, by decide, by decide⟩ pl hpl) ?_
      refine lv_astore (lv' := [(4, .ref q9), (0, .ref o), (1, .int x), (2, .int y), (3, .ref w)]) hx hb d_L_prove_13 hl (by decide) rfl (fun ls hl => ?_)
      refine lv_iconst (v := 1) hx hb d_L_prove_15 (by decide) ?_
      exact xl_ret (k := nI) hC hX hO hS (by omega) (by omega) (by rw [h9]; try rfl) rfl (fun h => absurd h h0) d_L_prove_16
    · rw [h9] at e3
      refine xl_catch (hp := 17) hhh e1 e2 (Vm.classAt_of_findClass e3) (fun pl hpl => xl_T2 (k := 2) (j := 1) hown (hts _ cl_L_13) hN (by decide) e3 ⟨by decide, by decide, by decide⟩ pl hpl (xl_T1 (k := 2) hown (hts _ cl_L_15) e3 ⟨by decide, by decide, by decide⟩ pl hpl)) ?_
      refine lv_astore (lv' := [(4, .ref q9), (0, .ref o), (1, .int x), (2, .int y), (3, .ref w)]) hx hb d_L_prove_17 hl (by decide) rfl (fun ls hl => ?_)
      refine lv_iconst (v := 2) hx hb d_L_prove_19 (by decide) ?_
      exact xl_ret (k := nI) hC hX hO hS (by omega) (by omega) (by rw [h9]; try rfl) rfl (fun h => absurd h h0) d_L_prove_20
    · rw [h9] at e3
      refine xl_catch (hp := 21) hhh e1 e2 (Vm.classAt_of_findClass e3) (fun pl hpl => xl_T2 (k := 3) (j := 1) hown (hts _ cl_L_13) hN (by decide) e3 ⟨by decide, by decide, by decide⟩ pl hpl (xl_T2 (k := 3) (j := 2) hown (hts _ cl_L_15) hN (by decide) e3 ⟨by decide, by decide, by decide⟩ pl hpl (xl_T1 (k := 3) hown (hts _ cl_L_27) e3 ⟨by decide, by decide, by decide⟩ pl hpl))) ?_
      refine lv_astore (lv' := [(4, .ref q9), (0, .ref o), (1, .int x), (2, .int y), (3, .ref w)]) hx hb d_L_prove_21 hl (by decide) rfl (fun ls hl => ?_)
      refine lv_iconst (v := 3) hx hb d_L_prove_23 (by decide) ?_
      exact xl_ret (k := nI) hC hX hO hS (by omega) (by omega) (by rw [h9]; try rfl) rfl (fun h => absurd h h0) d_L_prove_24
theorem xp_bind_c (σ : xs_S) (x : Int32) (y : Int32) (h : ¬ (xp_bind σ x y).1 = 0) : (xp_bind σ x y).1 = 1 ∨ (xp_bind σ x y).1 = 2 := by
  revert h
  unfold xp_bind
  repeat' split
  all_goals simp
theorem c_L_bind (l : Launch) (hsl : l.stackTraces = false) (g : xw_G) (B : Nat → Prop) (o lim w : Nat) (hlw : lim ≤ w) (hBw : B w ∧ ¬ xw_B o w) (σ : xs_S) (x : Int32) (y : Int32) (hwf : xm_wf σ) : xl_F l y_L_bind (Cond.codeWith y_L_bind b_L_bind 5 (some .int) [(0, 10, 13, 13), (0, 10, 17, 15)]) g B o lim w σ (xp_bind σ x y) nI [.ref o, .int x, .int y, .ref w] 9 202 18 108 := by
  refine xl_hd (own := R_L) (by decide) rfl (Nat.le_of_ble_eq_true rfl) ?_
  intro p e R s m below meth c ls f hRf hRl hRc hRs hhh hC hW hO hN hl
  obtain ⟨hx, hb, hml, hr, hown, hts, hlk⟩ := id hC
  have hX := hW.1
  have hK := hW.2.1
  have hS : va_S (xl_A o w s.heap.size) s.heap s.heap [] := va_S.rf
  have hA0 : ∀ q, xl_A o w s.heap.size q → lim ≤ q := fun q h => h.elim (fun h => h.elim (fun z => Nat.le_trans hW.2.2.2 z.1) (fun z => Nat.le_trans hW.2.2.2 (Nat.le_trans (Nat.le_trans (Nat.le_add_right _ _) hX.lt) z))) (fun z => by rw [z]; exact hlw)
  have hl : lv_has ls 5 [(0, .ref o), (1, .int x), (2, .int y), (3, .ref w)] := hl
  refine lv_aload_n hx hb d_L_bind_0 rfl (lv_at hl 3 rfl) ?_
  refine lv_iconst (v := 0) hx hb d_L_bind_1 (by decide) ?_
  refine lv_aload_n hx hb d_L_bind_2 rfl (lv_at hl 0 rfl) ?_
  refine lv_iload_n hx hb d_L_bind_3 rfl (lv_at hl 1 rfl) ?_
  refine lv_iload_n hx hb d_L_bind_4 rfl (lv_at hl 2 rfl) ?_
  refine xl_iF (rest := [.int 0, .ref w]) (c_X_bind l hsl g B o lim σ x y hwf) gd_L_X_bind hd_X_bind hC hK hW.2.2.1 hW.2.2.2 hX hS hA0 (fun q h => Or.inl h) (by omega) (by omega) (by omega) (by omega) hl.1 rfl (Nat.le_of_ble_eq_true rfl) d_L_bind_5 (fun H locs h0 hX hS hF => ?_) (fun ce q9 H locs h0 hX hS hF e1 e2 e3 => ?_)
  · have hO := hO.kept (hF.2 w hO.lt hBw.2)
    refine lv_i2l (v := (xp_bind σ x y).2.1.toInt64) hx hb d_L_bind_8 rfl ?_
    refine xl_put hx hb hK hO d_L_bind_9 (fun H lc hlc hO hz hq => ?_)
    have hX := hX.out (x := fun q => q = w) (fun q z => by subst z; exact hBw) (xw_F.put hz hq)
    have hS := xw_Sput hS hz hq hlc (Or.inr rfl)
    refine lv_goto (tgt := 21) hx hb d_L_bind_10 (by decide) ?_
    refine lv_iconst (v := 0) hx hb d_L_bind_21 (by decide) ?_
    exact xl_ret (k := nI) hC hX hO hS (by omega) (by omega) (by rw [h0]; try rfl) rfl (fun _ => rfl) d_L_bind_22
  · have hO := hO.kept (hF.2 w hO.lt hBw.2)
    rcases xp_bind_c σ x y h0 with h9 | h9
    · rw [h9] at e3
      refine xl_catch (hp := 13) hhh e1 e2 (Vm.classAt_of_findClass e3) (fun pl hpl => xl_T1 (k := 1) hown (hts _ cl_L_13) e3 ⟨by decide, by decide, by decide⟩ pl hpl) ?_
      refine lv_astore (lv' := [(4, .ref q9), (0, .ref o), (1, .int x), (2, .int y), (3, .ref w)]) hx hb d_L_bind_13 hl (by decide) rfl (fun ls hl => ?_)
      refine lv_iconst (v := 1) hx hb d_L_bind_15 (by decide) ?_
      exact xl_ret (k := nI) hC hX hO hS (by omega) (by omega) (by rw [h9]; try rfl) rfl (fun h => absurd h h0) d_L_bind_16
    · rw [h9] at e3
      refine xl_catch (hp := 17) hhh e1 e2 (Vm.classAt_of_findClass e3) (fun pl hpl => xl_T2 (k := 2) (j := 1) hown (hts _ cl_L_13) hN (by decide) e3 ⟨by decide, by decide, by decide⟩ pl hpl (xl_T1 (k := 2) hown (hts _ cl_L_15) e3 ⟨by decide, by decide, by decide⟩ pl hpl)) ?_
      refine lv_astore (lv' := [(4, .ref q9), (0, .ref o), (1, .int x), (2, .int y), (3, .ref w)]) hx hb d_L_bind_17 hl (by decide) rfl (fun ls hl => ?_)
      refine lv_iconst (v := 2) hx hb d_L_bind_19 (by decide) ?_
      exact xl_ret (k := nI) hC hX hO hS (by omega) (by omega) (by rw [h9]; try rfl) rfl (fun h => absurd h h0) d_L_bind_20
theorem xp_here_c (σ : xs_S) (x : Int32) (y : Int32) (h : ¬ (xp_here σ x y).1 = 0) : (xp_here σ x y).1 = 1 ∨ (xp_here σ x y).1 = 2 := by
  revert h
  unfold xp_here
  repeat' split
  all_goals simp
theorem c_L_here (l : Launch) (hsl : l.stackTraces = false) (g : xw_G) (B : Nat → Prop) (o lim w : Nat) (hlw : lim ≤ w) (hBw : B w ∧ ¬ xw_B o w) (σ : xs_S) (x : Int32) (y : Int32) (hwf : xm_wf σ) : xl_F l y_L_here (Cond.codeWith y_L_here b_L_here 5 (some .int) [(0, 10, 13, 13), (0, 10, 17, 15)]) g B o lim w σ (xp_here σ x y) nI [.ref o, .int x, .int y, .ref w] 8 181 66 396 := by
  refine xl_hd (own := R_L) (by decide) rfl (Nat.le_of_ble_eq_true rfl) ?_
  intro p e R s m below meth c ls f hRf hRl hRc hRs hhh hC hW hO hN hl
  obtain ⟨hx, hb, hml, hr, hown, hts, hlk⟩ := id hC
  have hX := hW.1
  have hK := hW.2.1
  have hS : va_S (xl_A o w s.heap.size) s.heap s.heap [] := va_S.rf
  have hA0 : ∀ q, xl_A o w s.heap.size q → lim ≤ q := fun q h => h.elim (fun h => h.elim (fun z => Nat.le_trans hW.2.2.2 z.1) (fun z => Nat.le_trans hW.2.2.2 (Nat.le_trans (Nat.le_trans (Nat.le_add_right _ _) hX.lt) z))) (fun z => by rw [z]; exact hlw)
  have hl : lv_has ls 5 [(0, .ref o), (1, .int x), (2, .int y), (3, .ref w)] := hl
  refine lv_aload_n hx hb d_L_here_0 rfl (lv_at hl 3 rfl) ?_
  refine lv_iconst (v := 0) hx hb d_L_here_1 (by decide) ?_
  refine lv_aload_n hx hb d_L_here_2 rfl (lv_at hl 0 rfl) ?_
  refine lv_iload_n hx hb d_L_here_3 rfl (lv_at hl 1 rfl) ?_
  refine lv_iload_n hx hb d_L_here_4 rfl (lv_at hl 2 rfl) ?_
  refine xl_iF (rest := [.int 0, .ref w]) (c_X_here l hsl g B o lim σ x y hwf) gd_L_X_here hd_X_here hC hK hW.2.2.1 hW.2.2.2 hX hS hA0 (fun q h => Or.inl h) (by omega) (by omega) (by omega) (by omega) hl.1 rfl (Nat.le_of_ble_eq_true rfl) d_L_here_5 (fun H locs h0 hX hS hF => ?_) (fun ce q9 H locs h0 hX hS hF e1 e2 e3 => ?_)
  · have hO := hO.kept (hF.2 w hO.lt hBw.2)
    refine lv_i2l (v := (xp_here σ x y).2.1.toInt64) hx hb d_L_here_8 rfl ?_
    refine xl_put hx hb hK hO d_L_here_9 (fun H lc hlc hO hz hq => ?_)
    have hX := hX.out (x := fun q => q = w) (fun q z => by subst z; exact hBw) (xw_F.put hz hq)
    have hS := xw_Sput hS hz hq hlc (Or.inr rfl)
    refine lv_goto (tgt := 21) hx hb d_L_here_10 (by decide) ?_
    refine lv_iconst (v := 0) hx hb d_L_here_21 (by decide) ?_
    exact xl_ret (k := nI) hC hX hO hS (by omega) (by omega) (by rw [h0]; try rfl) rfl (fun _ => rfl) d_L_here_22
  · have hO := hO.kept (hF.2 w hO.lt hBw.2)
    rcases xp_here_c σ x y h0 with h9 | h9
    · rw [h9] at e3
      refine xl_catch (hp := 13) hhh e1 e2 (Vm.classAt_of_findClass e3) (fun pl hpl => xl_T1 (k := 1) hown (hts _ cl_L_13) e3 ⟨by decide, by decide, by decide⟩ pl hpl) ?_
      refine lv_astore (lv' := [(4, .ref q9), (0, .ref o), (1, .int x), (2, .int y), (3, .ref w)]) hx hb d_L_here_13 hl (by decide) rfl (fun ls hl => ?_)
      refine lv_iconst (v := 1) hx hb d_L_here_15 (by decide) ?_
      exact xl_ret (k := nI) hC hX hO hS (by omega) (by omega) (by rw [h9]; try rfl) rfl (fun h => absurd h h0) d_L_here_16
    · rw [h9] at e3
      refine xl_catch (hp := 17) hhh e1 e2 (Vm.classAt_of_findClass e3) (fun pl hpl => xl_T2 (k := 2) (j := 1) hown (hts _ cl_L_13) hN (by decide) e3 ⟨by decide, by decide, by decide⟩ pl hpl (xl_T1 (k := 2) hown (hts _ cl_L_15) e3 ⟨by decide, by decide, by decide⟩ pl hpl)) ?_
      refine lv_astore (lv' := [(4, .ref q9), (0, .ref o), (1, .int x), (2, .int y), (3, .ref w)]) hx hb d_L_here_17 hl (by decide) rfl (fun ls hl => ?_)
      refine lv_iconst (v := 2) hx hb d_L_here_19 (by decide) ?_
      exact xl_ret (k := nI) hC hX hO hS (by omega) (by omega) (by rw [h9]; try rfl) rfl (fun h => absurd h h0) d_L_here_20
theorem xp_gone_c (σ : xs_S) (x : Int32) (h : ¬ (xp_gone σ x).1 = 0) : (xp_gone σ x).1 = 1 ∨ (xp_gone σ x).1 = 2 := by
  revert h
  unfold xp_gone
  repeat' split
  all_goals simp
theorem c_L_gone (l : Launch) (hsl : l.stackTraces = false) (g : xw_G) (B : Nat → Prop) (o lim w : Nat) (hlw : lim ≤ w) (hBw : B w ∧ ¬ xw_B o w) (σ : xs_S) (x : Int32) (hwf : xm_wf σ) : xl_F l y_L_gone (Cond.codeWith y_L_gone b_L_gone 4 (some .int) [(0, 9, 12, 13), (0, 9, 15, 15)]) g B o lim w σ (xp_gone σ x) nI [.ref o, .int x, .ref w] 8 179 18 108 := by
  refine xl_hd (own := R_L) (by decide) rfl (Nat.le_of_ble_eq_true rfl) ?_
  intro p e R s m below meth c ls f hRf hRl hRc hRs hhh hC hW hO hN hl
  obtain ⟨hx, hb, hml, hr, hown, hts, hlk⟩ := id hC
  have hX := hW.1
  have hK := hW.2.1
  have hS : va_S (xl_A o w s.heap.size) s.heap s.heap [] := va_S.rf
  have hA0 : ∀ q, xl_A o w s.heap.size q → lim ≤ q := fun q h => h.elim (fun h => h.elim (fun z => Nat.le_trans hW.2.2.2 z.1) (fun z => Nat.le_trans hW.2.2.2 (Nat.le_trans (Nat.le_trans (Nat.le_add_right _ _) hX.lt) z))) (fun z => by rw [z]; exact hlw)
  have hl : lv_has ls 4 [(0, .ref o), (1, .int x), (2, .ref w)] := hl
  refine lv_aload_n hx hb d_L_gone_0 rfl (lv_at hl 2 rfl) ?_
  refine lv_iconst (v := 0) hx hb d_L_gone_1 (by decide) ?_
  refine lv_aload_n hx hb d_L_gone_2 rfl (lv_at hl 0 rfl) ?_
  refine lv_iload_n hx hb d_L_gone_3 rfl (lv_at hl 1 rfl) ?_
  refine xl_iF (rest := [.int 0, .ref w]) (c_X_gone l hsl g B o lim σ x hwf) gd_L_X_gone hd_X_gone hC hK hW.2.2.1 hW.2.2.2 hX hS hA0 (fun q h => Or.inl h) (by omega) (by omega) (by omega) (by omega) hl.1 rfl (Nat.le_of_ble_eq_true rfl) d_L_gone_4 (fun H locs h0 hX hS hF => ?_) (fun ce q9 H locs h0 hX hS hF e1 e2 e3 => ?_)
  · have hO := hO.kept (hF.2 w hO.lt hBw.2)
    refine lv_i2l (v := (xp_gone σ x).2.1.toInt64) hx hb d_L_gone_7 rfl ?_
    refine xl_put hx hb hK hO d_L_gone_8 (fun H lc hlc hO hz hq => ?_)
    have hX := hX.out (x := fun q => q = w) (fun q z => by subst z; exact hBw) (xw_F.put hz hq)
    have hS := xw_Sput hS hz hq hlc (Or.inr rfl)
    refine lv_goto (tgt := 18) hx hb d_L_gone_9 (by decide) ?_
    refine lv_iconst (v := 0) hx hb d_L_gone_18 (by decide) ?_
    exact xl_ret (k := nI) hC hX hO hS (by omega) (by omega) (by rw [h0]; try rfl) rfl (fun _ => rfl) d_L_gone_19
  · have hO := hO.kept (hF.2 w hO.lt hBw.2)
    rcases xp_gone_c σ x h0 with h9 | h9
    · rw [h9] at e3
      refine xl_catch (hp := 12) hhh e1 e2 (Vm.classAt_of_findClass e3) (fun pl hpl => xl_T1 (k := 1) hown (hts _ cl_L_13) e3 ⟨by decide, by decide, by decide⟩ pl hpl) ?_
      refine lv_astore_n (lv' := [(3, .ref q9), (0, .ref o), (1, .int x), (2, .ref w)]) hx hb d_L_gone_12 rfl hl (by decide) rfl (fun ls hl => ?_)
      refine lv_iconst (v := 1) hx hb d_L_gone_13 (by decide) ?_
      exact xl_ret (k := nI) hC hX hO hS (by omega) (by omega) (by rw [h9]; try rfl) rfl (fun h => absurd h h0) d_L_gone_14
    · rw [h9] at e3
      refine xl_catch (hp := 15) hhh e1 e2 (Vm.classAt_of_findClass e3) (fun pl hpl => xl_T2 (k := 2) (j := 1) hown (hts _ cl_L_13) hN (by decide) e3 ⟨by decide, by decide, by decide⟩ pl hpl (xl_T1 (k := 2) hown (hts _ cl_L_15) e3 ⟨by decide, by decide, by decide⟩ pl hpl)) ?_
      refine lv_astore_n (lv' := [(3, .ref q9), (0, .ref o), (1, .int x), (2, .ref w)]) hx hb d_L_gone_15 rfl hl (by decide) rfl (fun ls hl => ?_)
      refine lv_iconst (v := 2) hx hb d_L_gone_16 (by decide) ?_
      exact xl_ret (k := nI) hC hX hO hS (by omega) (by omega) (by rw [h9]; try rfl) rfl (fun h => absurd h h0) d_L_gone_17
theorem xp_close_c (σ : xs_S) (x : Int32) (h : ¬ (xp_close σ x).1 = 0) : (xp_close σ x).1 = 1 ∨ (xp_close σ x).1 = 2 := by
  revert h
  unfold xp_close
  repeat' split
  all_goals simp
theorem c_L_close (l : Launch) (hsl : l.stackTraces = false) (g : xw_G) (B : Nat → Prop) (o lim w : Nat) (hlw : lim ≤ w) (hBw : B w ∧ ¬ xw_B o w) (σ : xs_S) (x : Int32) (hwf : xm_wf σ) : xl_F l y_L_close (Cond.codeWith y_L_close b_L_close 4 (some .int) [(0, 9, 12, 13), (0, 9, 15, 15)]) g B o lim w σ (xp_close σ x) nI [.ref o, .int x, .ref w] 9 201 18 108 := by
  refine xl_hd (own := R_L) (by decide) rfl (Nat.le_of_ble_eq_true rfl) ?_
  intro p e R s m below meth c ls f hRf hRl hRc hRs hhh hC hW hO hN hl
  obtain ⟨hx, hb, hml, hr, hown, hts, hlk⟩ := id hC
  have hX := hW.1
  have hK := hW.2.1
  have hS : va_S (xl_A o w s.heap.size) s.heap s.heap [] := va_S.rf
  have hA0 : ∀ q, xl_A o w s.heap.size q → lim ≤ q := fun q h => h.elim (fun h => h.elim (fun z => Nat.le_trans hW.2.2.2 z.1) (fun z => Nat.le_trans hW.2.2.2 (Nat.le_trans (Nat.le_trans (Nat.le_add_right _ _) hX.lt) z))) (fun z => by rw [z]; exact hlw)
  have hl : lv_has ls 4 [(0, .ref o), (1, .int x), (2, .ref w)] := hl
  refine lv_aload_n hx hb d_L_close_0 rfl (lv_at hl 2 rfl) ?_
  refine lv_iconst (v := 0) hx hb d_L_close_1 (by decide) ?_
  refine lv_aload_n hx hb d_L_close_2 rfl (lv_at hl 0 rfl) ?_
  refine lv_iload_n hx hb d_L_close_3 rfl (lv_at hl 1 rfl) ?_
  refine xl_iF (rest := [.int 0, .ref w]) (c_X_close l hsl g B o lim σ x hwf) gd_L_X_close hd_X_close hC hK hW.2.2.1 hW.2.2.2 hX hS hA0 (fun q h => Or.inl h) (by omega) (by omega) (by omega) (by omega) hl.1 rfl (Nat.le_of_ble_eq_true rfl) d_L_close_4 (fun H locs h0 hX hS hF => ?_) (fun ce q9 H locs h0 hX hS hF e1 e2 e3 => ?_)
  · have hO := hO.kept (hF.2 w hO.lt hBw.2)
    refine lv_i2l (v := (xp_close σ x).2.1.toInt64) hx hb d_L_close_7 rfl ?_
    refine xl_put hx hb hK hO d_L_close_8 (fun H lc hlc hO hz hq => ?_)
    have hX := hX.out (x := fun q => q = w) (fun q z => by subst z; exact hBw) (xw_F.put hz hq)
    have hS := xw_Sput hS hz hq hlc (Or.inr rfl)
    refine lv_goto (tgt := 18) hx hb d_L_close_9 (by decide) ?_
    refine lv_iconst (v := 0) hx hb d_L_close_18 (by decide) ?_
    exact xl_ret (k := nI) hC hX hO hS (by omega) (by omega) (by rw [h0]; try rfl) rfl (fun _ => rfl) d_L_close_19
  · have hO := hO.kept (hF.2 w hO.lt hBw.2)
    rcases xp_close_c σ x h0 with h9 | h9
    · rw [h9] at e3
      refine xl_catch (hp := 12) hhh e1 e2 (Vm.classAt_of_findClass e3) (fun pl hpl => xl_T1 (k := 1) hown (hts _ cl_L_13) e3 ⟨by decide, by decide, by decide⟩ pl hpl) ?_
      refine lv_astore_n (lv' := [(3, .ref q9), (0, .ref o), (1, .int x), (2, .ref w)]) hx hb d_L_close_12 rfl hl (by decide) rfl (fun ls hl => ?_)
      refine lv_iconst (v := 1) hx hb d_L_close_13 (by decide) ?_
      exact xl_ret (k := nI) hC hX hO hS (by omega) (by omega) (by rw [h9]; try rfl) rfl (fun h => absurd h h0) d_L_close_14
    · rw [h9] at e3
      refine xl_catch (hp := 15) hhh e1 e2 (Vm.classAt_of_findClass e3) (fun pl hpl => xl_T2 (k := 2) (j := 1) hown (hts _ cl_L_13) hN (by decide) e3 ⟨by decide, by decide, by decide⟩ pl hpl (xl_T1 (k := 2) hown (hts _ cl_L_15) e3 ⟨by decide, by decide, by decide⟩ pl hpl)) ?_
      refine lv_astore_n (lv' := [(3, .ref q9), (0, .ref o), (1, .int x), (2, .ref w)]) hx hb d_L_close_15 rfl hl (by decide) rfl (fun ls hl => ?_)
      refine lv_iconst (v := 2) hx hb d_L_close_16 (by decide) ?_
      exact xl_ret (k := nI) hC hX hO hS (by omega) (by omega) (by rw [h9]; try rfl) rfl (fun h => absurd h h0) d_L_close_17
theorem xp_message_c (σ : xs_S) (x : Int32) (y : Int32) (z : Int32) (v : Int32) (h : ¬ (xp_message σ x y z v).1 = 0) : (xp_message σ x y z v).1 = 1 ∨ (xp_message σ x y z v).1 = 2 := by
  revert h
  unfold xp_message
  repeat' split
  all_goals simp
theorem c_L_message (l : Launch) (hsl : l.stackTraces = false) (g : xw_G) (B : Nat → Prop) (o lim w : Nat) (hlw : lim ≤ w) (hBw : B w ∧ ¬ xw_B o w) (σ : xs_S) (x : Int32) (y : Int32) (z : Int32) (v : Int32) (hwf : xm_wf σ) : xl_F l y_L_message (Cond.codeWith y_L_message b_L_message 7 (some .int) [(0, 14, 17, 13), (0, 14, 21, 15)]) g B o lim w σ (xp_message σ x y z v) nI [.ref o, .int x, .int y, .int z, .int v, .ref w] 8 158 4 24 := by
  refine xl_hd (own := R_L) (by decide) rfl (Nat.le_of_ble_eq_true rfl) ?_
  intro p e R s m below meth c ls f hRf hRl hRc hRs hhh hC hW hO hN hl
  obtain ⟨hx, hb, hml, hr, hown, hts, hlk⟩ := id hC
  have hX := hW.1
  have hK := hW.2.1
  have hS : va_S (xl_A o w s.heap.size) s.heap s.heap [] := va_S.rf
  have hA0 : ∀ q, xl_A o w s.heap.size q → lim ≤ q := fun q h => h.elim (fun h => h.elim (fun z => Nat.le_trans hW.2.2.2 z.1) (fun z => Nat.le_trans hW.2.2.2 (Nat.le_trans (Nat.le_trans (Nat.le_add_right _ _) hX.lt) z))) (fun z => by rw [z]; exact hlw)
  have hl : lv_has ls 7 [(0, .ref o), (1, .int x), (2, .int y), (3, .int z), (4, .int v), (5, .ref w)] := hl
  refine lv_aload hx hb d_L_message_0 (lv_at hl 5 rfl) ?_
  refine lv_iconst (v := 0) hx hb d_L_message_2 (by decide) ?_
  refine lv_aload_n hx hb d_L_message_3 rfl (lv_at hl 0 rfl) ?_
  refine lv_iload_n hx hb d_L_message_4 rfl (lv_at hl 1 rfl) ?_
  refine lv_iload_n hx hb d_L_message_5 rfl (lv_at hl 2 rfl) ?_
  refine lv_iload_n hx hb d_L_message_6 rfl (lv_at hl 3 rfl) ?_
  refine lv_iload hx hb d_L_message_7 (lv_at hl 4 rfl) ?_
  refine xl_iF (rest := [.int 0, .ref w]) (c_X_message l hsl g B o lim σ x y z v hwf) gd_L_X_message hd_X_message hC hK hW.2.2.1 hW.2.2.2 hX hS hA0 (fun q h => Or.inl h) (by omega) (by omega) (by omega) (by omega) hl.1 rfl (Nat.le_of_ble_eq_true rfl) d_L_message_9 (fun H locs h0 hX hS hF => ?_) (fun ce q9 H locs h0 hX hS hF e1 e2 e3 => ?_)
  · have hO := hO.kept (hF.2 w hO.lt hBw.2)
    refine lv_i2l (v := (xp_message σ x y z v).2.1.toInt64) hx hb d_L_message_12 rfl ?_
    refine xl_put hx hb hK hO d_L_message_13 (fun H lc hlc hO hz hq => ?_)
    have hX := hX.out (x := fun q => q = w) (fun q z => by subst z; exact hBw) (xw_F.put hz hq)
    have hS := xw_Sput hS hz hq hlc (Or.inr rfl)
    refine lv_goto (tgt := 25) hx hb d_L_message_14 (by decide) ?_
    refine lv_iconst (v := 0) hx hb d_L_message_25 (by decide) ?_
    exact xl_ret (k := nI) hC hX hO hS (by omega) (by omega) (by rw [h0]; try rfl) rfl (fun _ => rfl) d_L_message_26
  · have hO := hO.kept (hF.2 w hO.lt hBw.2)
    rcases xp_message_c σ x y z v h0 with h9 | h9
    · rw [h9] at e3
      refine xl_catch (hp := 17) hhh e1 e2 (Vm.classAt_of_findClass e3) (fun pl hpl => xl_T1 (k := 1) hown (hts _ cl_L_13) e3 ⟨by decide, by decide, by decide⟩ pl hpl) ?_
      refine lv_astore (lv' := [(6, .ref q9), (0, .ref o), (1, .int x), (2, .int y), (3, .int z), (4, .int v), (5, .ref w)]) hx hb d_L_message_17 hl (by decide) rfl (fun ls hl => ?_)
      refine lv_iconst (v := 1) hx hb d_L_message_19 (by decide) ?_
      exact xl_ret (k := nI) hC hX hO hS (by omega) (by omega) (by rw [h9]; try rfl) rfl (fun h => absurd h h0) d_L_message_20
    · rw [h9] at e3
      refine xl_catch (hp := 21) hhh e1 e2 (Vm.classAt_of_findClass e3) (fun pl hpl => xl_T2 (k := 2) (j := 1) hown (hts _ cl_L_13) hN (by decide) e3 ⟨by decide, by decide, by decide⟩ pl hpl (xl_T1 (k := 2) hown (hts _ cl_L_15) e3 ⟨by decide, by decide, by decide⟩ pl hpl)) ?_
      refine lv_astore (lv' := [(6, .ref q9), (0, .ref o), (1, .int x), (2, .int y), (3, .int z), (4, .int v), (5, .ref w)]) hx hb d_L_message_21 hl (by decide) rfl (fun ls hl => ?_)
      refine lv_iconst (v := 2) hx hb d_L_message_23 (by decide) ?_
      exact xl_ret (k := nI) hC hX hO hS (by omega) (by omega) (by rw [h9]; try rfl) rfl (fun h => absurd h h0) d_L_message_24
theorem xp_subscribe_c (σ : xs_S) (x : Int32) (y : Int32) (z : Int32) (h : ¬ (xp_subscribe σ x y z).1 = 0) : (xp_subscribe σ x y z).1 = 1 ∨ (xp_subscribe σ x y z).1 = 2 := by
  revert h
  unfold xp_subscribe
  repeat' split
  all_goals simp
theorem c_L_subscribe (l : Launch) (hsl : l.stackTraces = false) (g : xw_G) (B : Nat → Prop) (o lim w : Nat) (hlw : lim ≤ w) (hBw : B w ∧ ¬ xw_B o w) (σ : xs_S) (x : Int32) (y : Int32) (z : Int32) (hwf : xm_wf σ) : xl_F l y_L_subscribe (Cond.codeWith y_L_subscribe b_L_subscribe 6 (some .int) [(0, 12, 15, 13), (0, 12, 19, 15)]) g B o lim w σ (xp_subscribe σ x y z) nI [.ref o, .int x, .int y, .int z, .ref w] 8 185 29 174 := by
  refine xl_hd (own := R_L) (by decide) rfl (Nat.le_of_ble_eq_true rfl) ?_
  intro p e R s m below meth c ls f hRf hRl hRc hRs hhh hC hW hO hN hl
  obtain ⟨hx, hb, hml, hr, hown, hts, hlk⟩ := id hC
  have hX := hW.1
  have hK := hW.2.1
  have hS : va_S (xl_A o w s.heap.size) s.heap s.heap [] := va_S.rf
  have hA0 : ∀ q, xl_A o w s.heap.size q → lim ≤ q := fun q h => h.elim (fun h => h.elim (fun z => Nat.le_trans hW.2.2.2 z.1) (fun z => Nat.le_trans hW.2.2.2 (Nat.le_trans (Nat.le_trans (Nat.le_add_right _ _) hX.lt) z))) (fun z => by rw [z]; exact hlw)
  have hl : lv_has ls 6 [(0, .ref o), (1, .int x), (2, .int y), (3, .int z), (4, .ref w)] := hl
  refine lv_aload hx hb d_L_subscribe_0 (lv_at hl 4 rfl) ?_
  refine lv_iconst (v := 0) hx hb d_L_subscribe_2 (by decide) ?_
  refine lv_aload_n hx hb d_L_subscribe_3 rfl (lv_at hl 0 rfl) ?_
  refine lv_iload_n hx hb d_L_subscribe_4 rfl (lv_at hl 1 rfl) ?_
  refine lv_iload_n hx hb d_L_subscribe_5 rfl (lv_at hl 2 rfl) ?_
  refine lv_iload_n hx hb d_L_subscribe_6 rfl (lv_at hl 3 rfl) ?_
  refine xl_iF (rest := [.int 0, .ref w]) (c_X_subscribe l hsl g B o lim σ x y z hwf) gd_L_X_subscribe hd_X_subscribe hC hK hW.2.2.1 hW.2.2.2 hX hS hA0 (fun q h => Or.inl h) (by omega) (by omega) (by omega) (by omega) hl.1 rfl (Nat.le_of_ble_eq_true rfl) d_L_subscribe_7 (fun H locs h0 hX hS hF => ?_) (fun ce q9 H locs h0 hX hS hF e1 e2 e3 => ?_)
  · have hO := hO.kept (hF.2 w hO.lt hBw.2)
    refine lv_i2l (v := (xp_subscribe σ x y z).2.1.toInt64) hx hb d_L_subscribe_10 rfl ?_
    refine xl_put hx hb hK hO d_L_subscribe_11 (fun H lc hlc hO hz hq => ?_)
    have hX := hX.out (x := fun q => q = w) (fun q z => by subst z; exact hBw) (xw_F.put hz hq)
    have hS := xw_Sput hS hz hq hlc (Or.inr rfl)
    refine lv_goto (tgt := 23) hx hb d_L_subscribe_12 (by decide) ?_
    refine lv_iconst (v := 0) hx hb d_L_subscribe_23 (by decide) ?_
    exact xl_ret (k := nI) hC hX hO hS (by omega) (by omega) (by rw [h0]; try rfl) rfl (fun _ => rfl) d_L_subscribe_24
  · have hO := hO.kept (hF.2 w hO.lt hBw.2)
    rcases xp_subscribe_c σ x y z h0 with h9 | h9
    · rw [h9] at e3
      refine xl_catch (hp := 15) hhh e1 e2 (Vm.classAt_of_findClass e3) (fun pl hpl => xl_T1 (k := 1) hown (hts _ cl_L_13) e3 ⟨by decide, by decide, by decide⟩ pl hpl) ?_
      refine lv_astore (lv' := [(5, .ref q9), (0, .ref o), (1, .int x), (2, .int y), (3, .int z), (4, .ref w)]) hx hb d_L_subscribe_15 hl (by decide) rfl (fun ls hl => ?_)
      refine lv_iconst (v := 1) hx hb d_L_subscribe_17 (by decide) ?_
      exact xl_ret (k := nI) hC hX hO hS (by omega) (by omega) (by rw [h9]; try rfl) rfl (fun h => absurd h h0) d_L_subscribe_18
    · rw [h9] at e3
      refine xl_catch (hp := 19) hhh e1 e2 (Vm.classAt_of_findClass e3) (fun pl hpl => xl_T2 (k := 2) (j := 1) hown (hts _ cl_L_13) hN (by decide) e3 ⟨by decide, by decide, by decide⟩ pl hpl (xl_T1 (k := 2) hown (hts _ cl_L_15) e3 ⟨by decide, by decide, by decide⟩ pl hpl)) ?_
      refine lv_astore (lv' := [(5, .ref q9), (0, .ref o), (1, .int x), (2, .int y), (3, .int z), (4, .ref w)]) hx hb d_L_subscribe_19 hl (by decide) rfl (fun ls hl => ?_)
      refine lv_iconst (v := 2) hx hb d_L_subscribe_21 (by decide) ?_
      exact xl_ret (k := nI) hC hX hO hS (by omega) (by omega) (by rw [h9]; try rfl) rfl (fun h => absurd h h0) d_L_subscribe_22
theorem xp_take_c (σ : xs_S) (x : Int32) (h : ¬ (xp_take σ x).1 = 0) : (xp_take σ x).1 = 1 ∨ (xp_take σ x).1 = 4 := by
  revert h
  unfold xp_take
  repeat' split
  all_goals simp
theorem c_L_take (l : Launch) (hsl : l.stackTraces = false) (g : xw_G) (B : Nat → Prop) (o lim w : Nat) (hlw : lim ≤ w) (hBw : B w ∧ ¬ xw_B o w) (σ : xs_S) (x : Int32) : xl_F l y_L_take (Cond.codeWith y_L_take b_L_take 4 (some .int) [(0, 9, 12, 13), (0, 9, 15, 52)]) g B o lim w σ (xp_take σ x) (fun c => if c = 4 then 2 else nI c) [.ref o, .int x, .ref w] 8 132 2 12 := by
  refine xl_hd (own := R_L) (by decide) rfl (Nat.le_of_ble_eq_true rfl) ?_
  intro p e R s m below meth c ls f hRf hRl hRc hRs hhh hC hW hO hN hl
  obtain ⟨hx, hb, hml, hr, hown, hts, hlk⟩ := id hC
  have hX := hW.1
  have hK := hW.2.1
  have hS : va_S (xl_A o w s.heap.size) s.heap s.heap [] := va_S.rf
  have hA0 : ∀ q, xl_A o w s.heap.size q → lim ≤ q := fun q h => h.elim (fun h => h.elim (fun z => Nat.le_trans hW.2.2.2 z.1) (fun z => Nat.le_trans hW.2.2.2 (Nat.le_trans (Nat.le_trans (Nat.le_add_right _ _) hX.lt) z))) (fun z => by rw [z]; exact hlw)
  have hl : lv_has ls 4 [(0, .ref o), (1, .int x), (2, .ref w)] := hl
  refine lv_aload_n hx hb d_L_take_0 rfl (lv_at hl 2 rfl) ?_
  refine lv_iconst (v := 0) hx hb d_L_take_1 (by decide) ?_
  refine lv_aload_n hx hb d_L_take_2 rfl (lv_at hl 0 rfl) ?_
  refine lv_iload_n hx hb d_L_take_3 rfl (lv_at hl 1 rfl) ?_
  refine xl_iF (rest := [.int 0, .ref w]) (c_X_take l hsl g B o lim σ x) gd_L_X_take hd_X_take hC hK hW.2.2.1 hW.2.2.2 hX hS hA0 (fun q h => Or.inl h) (by omega) (by omega) (by omega) (by omega) hl.1 rfl (Nat.le_of_ble_eq_true rfl) d_L_take_4 (fun H locs h0 hX hS hF => ?_) (fun ce q9 H locs h0 hX hS hF e1 e2 e3 => ?_)
  · have hO := hO.kept (hF.2 w hO.lt hBw.2)
    refine lv_i2l (v := (xp_take σ x).2.1.toInt64) hx hb d_L_take_7 rfl ?_
    refine xl_put hx hb hK hO d_L_take_8 (fun H lc hlc hO hz hq => ?_)
    have hX := hX.out (x := fun q => q = w) (fun q z => by subst z; exact hBw) (xw_F.put hz hq)
    have hS := xw_Sput hS hz hq hlc (Or.inr rfl)
    refine lv_goto (tgt := 18) hx hb d_L_take_9 (by decide) ?_
    refine lv_iconst (v := 0) hx hb d_L_take_18 (by decide) ?_
    exact xl_ret (k := (fun c => if c = 4 then 2 else nI c)) hC hX hO hS (by omega) (by omega) (by rw [h0]; try rfl) rfl (fun _ => rfl) d_L_take_19
  · have hO := hO.kept (hF.2 w hO.lt hBw.2)
    rcases xp_take_c σ x h0 with h9 | h9
    · rw [h9] at e3
      refine xl_catch (hp := 12) hhh e1 e2 (Vm.classAt_of_findClass e3) (fun pl hpl => xl_T1 (k := 1) hown (hts _ cl_L_13) e3 ⟨by decide, by decide, by decide⟩ pl hpl) ?_
      refine lv_astore_n (lv' := [(3, .ref q9), (0, .ref o), (1, .int x), (2, .ref w)]) hx hb d_L_take_12 rfl hl (by decide) rfl (fun ls hl => ?_)
      refine lv_iconst (v := 1) hx hb d_L_take_13 (by decide) ?_
      exact xl_ret (k := (fun c => if c = 4 then 2 else nI c)) hC hX hO hS (by omega) (by omega) (by rw [h9]; try rfl) rfl (fun h => absurd h h0) d_L_take_14
    · rw [h9] at e3
      refine xl_catch (hp := 15) hhh e1 e2 (Vm.classAt_of_findClass e3) (fun pl hpl => xl_T2 (k := 4) (j := 1) hown (hts _ cl_L_13) hN (by decide) e3 ⟨by decide, by decide, by decide⟩ pl hpl (xl_T1 (k := 4) hown (hts _ cl_L_52) e3 ⟨by decide, by decide, by decide⟩ pl hpl)) ?_
      refine lv_astore_n (lv' := [(3, .ref q9), (0, .ref o), (1, .int x), (2, .ref w)]) hx hb d_L_take_15 rfl hl (by decide) rfl (fun ls hl => ?_)
      refine lv_iconst (v := 2) hx hb d_L_take_16 (by decide) ?_
      exact xl_ret (k := (fun c => if c = 4 then 2 else nI c)) hC hX hO hS (by omega) (by omega) (by rw [h9]; try rfl) rfl (fun h => absurd h h0) d_L_take_17
theorem xp_taken_c (σ : xs_S) (x : Int32) (h : ¬ (xp_taken σ x).1 = 0) : (xp_taken σ x).1 = 1 ∨ (xp_taken σ x).1 = 4 := by
  revert h
  unfold xp_taken
  repeat' split
  all_goals simp
theorem c_L_taken (l : Launch) (hsl : l.stackTraces = false) (g : xw_G) (B : Nat → Prop) (o lim w : Nat) (hlw : lim ≤ w) (hBw : B w ∧ ¬ xw_B o w) (σ : xs_S) (x : Int32) : xl_F l y_L_taken (Cond.codeWith y_L_taken b_L_taken 4 (some .int) [(0, 9, 12, 52), (0, 9, 15, 13)]) g B o lim w σ (xp_taken σ x) (fun c => if c = 4 then 1 else if c = 1 then 2 else 0) [.ref o, .int x, .ref w] 7 111 1 6 := by
  refine xl_hd (own := R_L) (by decide) rfl (Nat.le_of_ble_eq_true rfl) ?_
  intro p e R s m below meth c ls f hRf hRl hRc hRs hhh hC hW hO hN hl
  obtain ⟨hx, hb, hml, hr, hown, hts, hlk⟩ := id hC
  have hX := hW.1
  have hK := hW.2.1
  have hS : va_S (xl_A o w s.heap.size) s.heap s.heap [] := va_S.rf
  have hA0 : ∀ q, xl_A o w s.heap.size q → lim ≤ q := fun q h => h.elim (fun h => h.elim (fun z => Nat.le_trans hW.2.2.2 z.1) (fun z => Nat.le_trans hW.2.2.2 (Nat.le_trans (Nat.le_trans (Nat.le_add_right _ _) hX.lt) z))) (fun z => by rw [z]; exact hlw)
  have hl : lv_has ls 4 [(0, .ref o), (1, .int x), (2, .ref w)] := hl
  refine lv_aload_n hx hb d_L_taken_0 rfl (lv_at hl 2 rfl) ?_
  refine lv_iconst (v := 0) hx hb d_L_taken_1 (by decide) ?_
  refine lv_aload_n hx hb d_L_taken_2 rfl (lv_at hl 0 rfl) ?_
  refine lv_iload_n hx hb d_L_taken_3 rfl (lv_at hl 1 rfl) ?_
  refine xl_iF (rest := [.int 0, .ref w]) (c_X_taken l hsl g B o lim σ x) gd_L_X_taken hd_X_taken hC hK hW.2.2.1 hW.2.2.2 hX hS hA0 (fun q h => Or.inl h) (by omega) (by omega) (by omega) (by omega) hl.1 rfl (Nat.le_of_ble_eq_true rfl) d_L_taken_4 (fun H locs h0 hX hS hF => ?_) (fun ce q9 H locs h0 hX hS hF e1 e2 e3 => ?_)
  · have hO := hO.kept (hF.2 w hO.lt hBw.2)
    refine lv_i2l (v := (xp_taken σ x).2.1.toInt64) hx hb d_L_taken_7 rfl ?_
    refine xl_put hx hb hK hO d_L_taken_8 (fun H lc hlc hO hz hq => ?_)
    have hX := hX.out (x := fun q => q = w) (fun q z => by subst z; exact hBw) (xw_F.put hz hq)
    have hS := xw_Sput hS hz hq hlc (Or.inr rfl)
    refine lv_goto (tgt := 18) hx hb d_L_taken_9 (by decide) ?_
    refine lv_iconst (v := 0) hx hb d_L_taken_18 (by decide) ?_
    exact xl_ret (k := (fun c => if c = 4 then 1 else if c = 1 then 2 else 0)) hC hX hO hS (by omega) (by omega) (by rw [h0]; try rfl) rfl (fun _ => rfl) d_L_taken_19
  · have hO := hO.kept (hF.2 w hO.lt hBw.2)
    rcases xp_taken_c σ x h0 with h9 | h9
    · rw [h9] at e3
      refine xl_catch (hp := 15) hhh e1 e2 (Vm.classAt_of_findClass e3) (fun pl hpl => xl_T2 (k := 1) (j := 4) hown (hts _ cl_L_52) hN (by decide) e3 ⟨by decide, by decide, by decide⟩ pl hpl (xl_T1 (k := 1) hown (hts _ cl_L_13) e3 ⟨by decide, by decide, by decide⟩ pl hpl)) ?_
      refine lv_astore_n (lv' := [(3, .ref q9), (0, .ref o), (1, .int x), (2, .ref w)]) hx hb d_L_taken_15 rfl hl (by decide) rfl (fun ls hl => ?_)
      refine lv_iconst (v := 2) hx hb d_L_taken_16 (by decide) ?_
      exact xl_ret (k := (fun c => if c = 4 then 1 else if c = 1 then 2 else 0)) hC hX hO hS (by omega) (by omega) (by rw [h9]; try rfl) rfl (fun h => absurd h h0) d_L_taken_17
    · rw [h9] at e3
      refine xl_catch (hp := 12) hhh e1 e2 (Vm.classAt_of_findClass e3) (fun pl hpl => xl_T1 (k := 4) hown (hts _ cl_L_52) e3 ⟨by decide, by decide, by decide⟩ pl hpl) ?_
      refine lv_astore_n (lv' := [(3, .ref q9), (0, .ref o), (1, .int x), (2, .ref w)]) hx hb d_L_taken_12 rfl hl (by decide) rfl (fun ls hl => ?_)
      refine lv_iconst (v := 1) hx hb d_L_taken_13 (by decide) ?_
      exact xl_ret (k := (fun c => if c = 4 then 1 else if c = 1 then 2 else 0)) hC hX hO hS (by omega) (by omega) (by rw [h9]; try rfl) rfl (fun h => absurd h h0) d_L_taken_14
theorem xp_roster_c (σ : xs_S) (x : Int32) (y : Int32) (h : ¬ (xp_roster σ x y).1 = 0) : (xp_roster σ x y).1 = 1 := by
  revert h
  unfold xp_roster
  repeat' split
  all_goals simp
theorem c_L_roster (l : Launch) (hsl : l.stackTraces = false) (g : xw_G) (B : Nat → Prop) (o lim w : Nat) (hlw : lim ≤ w) (hBw : B w ∧ ¬ xw_B o w) (σ : xs_S) (x : Int32) (y : Int32) : xl_F l y_L_roster (Cond.codeWith y_L_roster b_L_roster 5 (some .int) [(0, 10, 13, 13)]) g B o lim w σ (xp_roster σ x y) nI [.ref o, .int x, .int y, .ref w] 8 131 1 6 := by
  refine xl_hd (own := R_L) (by decide) rfl (Nat.le_of_ble_eq_true rfl) ?_
  intro p e R s m below meth c ls f hRf hRl hRc hRs hhh hC hW hO hN hl
  obtain ⟨hx, hb, hml, hr, hown, hts, hlk⟩ := id hC
  have hX := hW.1
  have hK := hW.2.1
  have hS : va_S (xl_A o w s.heap.size) s.heap s.heap [] := va_S.rf
  have hA0 : ∀ q, xl_A o w s.heap.size q → lim ≤ q := fun q h => h.elim (fun h => h.elim (fun z => Nat.le_trans hW.2.2.2 z.1) (fun z => Nat.le_trans hW.2.2.2 (Nat.le_trans (Nat.le_trans (Nat.le_add_right _ _) hX.lt) z))) (fun z => by rw [z]; exact hlw)
  have hl : lv_has ls 5 [(0, .ref o), (1, .int x), (2, .int y), (3, .ref w)] := hl
  refine lv_aload_n hx hb d_L_roster_0 rfl (lv_at hl 3 rfl) ?_
  refine lv_iconst (v := 0) hx hb d_L_roster_1 (by decide) ?_
  refine lv_aload_n hx hb d_L_roster_2 rfl (lv_at hl 0 rfl) ?_
  refine lv_iload_n hx hb d_L_roster_3 rfl (lv_at hl 1 rfl) ?_
  refine lv_iload_n hx hb d_L_roster_4 rfl (lv_at hl 2 rfl) ?_
  refine xl_iF (rest := [.int 0, .ref w]) (c_X_roster l hsl g B o lim σ x y) gd_L_X_roster hd_X_roster hC hK hW.2.2.1 hW.2.2.2 hX hS hA0 (fun q h => Or.inl h) (by omega) (by omega) (by omega) (by omega) hl.1 rfl (Nat.le_of_ble_eq_true rfl) d_L_roster_5 (fun H locs h0 hX hS hF => ?_) (fun ce q9 H locs h0 hX hS hF e1 e2 e3 => ?_)
  · have hO := hO.kept (hF.2 w hO.lt hBw.2)
    refine lv_i2l (v := (xp_roster σ x y).2.1.toInt64) hx hb d_L_roster_8 rfl ?_
    refine xl_put hx hb hK hO d_L_roster_9 (fun H lc hlc hO hz hq => ?_)
    have hX := hX.out (x := fun q => q = w) (fun q z => by subst z; exact hBw) (xw_F.put hz hq)
    have hS := xw_Sput hS hz hq hlc (Or.inr rfl)
    refine lv_goto (tgt := 17) hx hb d_L_roster_10 (by decide) ?_
    refine lv_iconst (v := 0) hx hb d_L_roster_17 (by decide) ?_
    exact xl_ret (k := nI) hC hX hO hS (by omega) (by omega) (by rw [h0]; try rfl) rfl (fun _ => rfl) d_L_roster_18
  · have hO := hO.kept (hF.2 w hO.lt hBw.2)
    have h9 := xp_roster_c σ x y h0
    rw [h9] at e3
    refine xl_catch (hp := 13) hhh e1 e2 (Vm.classAt_of_findClass e3) (fun pl hpl => xl_T1 (k := 1) hown (hts _ cl_L_13) e3 ⟨by decide, by decide, by decide⟩ pl hpl) ?_
    refine lv_astore (lv' := [(4, .ref q9), (0, .ref o), (1, .int x), (2, .int y), (3, .ref w)]) hx hb d_L_roster_13 hl (by decide) rfl (fun ls hl => ?_)
    refine lv_iconst (v := 1) hx hb d_L_roster_15 (by decide) ?_
    exact xl_ret (k := nI) hC hX hO hS (by omega) (by omega) (by rw [h9]; try rfl) rfl (fun h => absurd h h0) d_L_roster_16
theorem xp_connection_c (σ : xs_S) (x : Int32) (y : Int32) (h : ¬ (xp_connection σ x y).1 = 0) : (xp_connection σ x y).1 = 1 := by
  revert h
  unfold xp_connection
  repeat' split
  all_goals simp
theorem c_L_connection (l : Launch) (hsl : l.stackTraces = false) (g : xw_G) (B : Nat → Prop) (o lim w : Nat) (hlw : lim ≤ w) (hBw : B w ∧ ¬ xw_B o w) (σ : xs_S) (x : Int32) (y : Int32) : xl_F l y_L_connection (Cond.codeWith y_L_connection b_L_connection 5 (some .int) [(0, 10, 13, 13)]) g B o lim w σ (xp_connection σ x y) nI [.ref o, .int x, .int y, .ref w] 8 132 2 12 := by
  refine xl_hd (own := R_L) (by decide) rfl (Nat.le_of_ble_eq_true rfl) ?_
  intro p e R s m below meth c ls f hRf hRl hRc hRs hhh hC hW hO hN hl
  obtain ⟨hx, hb, hml, hr, hown, hts, hlk⟩ := id hC
  have hX := hW.1
  have hK := hW.2.1
  have hS : va_S (xl_A o w s.heap.size) s.heap s.heap [] := va_S.rf
  have hA0 : ∀ q, xl_A o w s.heap.size q → lim ≤ q := fun q h => h.elim (fun h => h.elim (fun z => Nat.le_trans hW.2.2.2 z.1) (fun z => Nat.le_trans hW.2.2.2 (Nat.le_trans (Nat.le_trans (Nat.le_add_right _ _) hX.lt) z))) (fun z => by rw [z]; exact hlw)
  have hl : lv_has ls 5 [(0, .ref o), (1, .int x), (2, .int y), (3, .ref w)] := hl
  refine lv_aload_n hx hb d_L_connection_0 rfl (lv_at hl 3 rfl) ?_
  refine lv_iconst (v := 0) hx hb d_L_connection_1 (by decide) ?_
  refine lv_aload_n hx hb d_L_connection_2 rfl (lv_at hl 0 rfl) ?_
  refine lv_iload_n hx hb d_L_connection_3 rfl (lv_at hl 1 rfl) ?_
  refine lv_iload_n hx hb d_L_connection_4 rfl (lv_at hl 2 rfl) ?_
  refine xl_iF (rest := [.int 0, .ref w]) (c_X_connection l hsl g B o lim σ x y) gd_L_X_connection hd_X_connection hC hK hW.2.2.1 hW.2.2.2 hX hS hA0 (fun q h => Or.inl h) (by omega) (by omega) (by omega) (by omega) hl.1 rfl (Nat.le_of_ble_eq_true rfl) d_L_connection_5 (fun H locs h0 hX hS hF => ?_) (fun ce q9 H locs h0 hX hS hF e1 e2 e3 => ?_)
  · have hO := hO.kept (hF.2 w hO.lt hBw.2)
    refine lv_i2l (v := (xp_connection σ x y).2.1.toInt64) hx hb d_L_connection_8 rfl ?_
    refine xl_put hx hb hK hO d_L_connection_9 (fun H lc hlc hO hz hq => ?_)
    have hX := hX.out (x := fun q => q = w) (fun q z => by subst z; exact hBw) (xw_F.put hz hq)
    have hS := xw_Sput hS hz hq hlc (Or.inr rfl)
    refine lv_goto (tgt := 17) hx hb d_L_connection_10 (by decide) ?_
    refine lv_iconst (v := 0) hx hb d_L_connection_17 (by decide) ?_
    exact xl_ret (k := nI) hC hX hO hS (by omega) (by omega) (by rw [h0]; try rfl) rfl (fun _ => rfl) d_L_connection_18
  · have hO := hO.kept (hF.2 w hO.lt hBw.2)
    have h9 := xp_connection_c σ x y h0
    rw [h9] at e3
    refine xl_catch (hp := 13) hhh e1 e2 (Vm.classAt_of_findClass e3) (fun pl hpl => xl_T1 (k := 1) hown (hts _ cl_L_13) e3 ⟨by decide, by decide, by decide⟩ pl hpl) ?_
    refine lv_astore (lv' := [(4, .ref q9), (0, .ref o), (1, .int x), (2, .int y), (3, .ref w)]) hx hb d_L_connection_13 hl (by decide) rfl (fun ls hl => ?_)
    refine lv_iconst (v := 1) hx hb d_L_connection_15 (by decide) ?_
    exact xl_ret (k := nI) hC hX hO hS (by omega) (by omega) (by rw [h9]; try rfl) rfl (fun h => absurd h h0) d_L_connection_16
theorem xp_count_c (σ : xs_S) (x : Int32) (h : ¬ (xp_count σ x).1 = 0) : (xp_count σ x).1 = 1 := by
  revert h
  unfold xp_count
  repeat' split
  all_goals simp
theorem c_L_count (l : Launch) (hsl : l.stackTraces = false) (g : xw_G) (B : Nat → Prop) (o lim w : Nat) (hlw : lim ≤ w) (hBw : B w ∧ ¬ xw_B o w) (σ : xs_S) (x : Int32) : xl_F l y_L_count (Cond.codeWith y_L_count b_L_count 4 (some .int) [(0, 9, 12, 13)]) g B o lim w σ (xp_count σ x) nI [.ref o, .int x, .ref w] 8 130 1 6 := by
  refine xl_hd (own := R_L) (by decide) rfl (Nat.le_of_ble_eq_true rfl) ?_
  intro p e R s m below meth c ls f hRf hRl hRc hRs hhh hC hW hO hN hl
  obtain ⟨hx, hb, hml, hr, hown, hts, hlk⟩ := id hC
  have hX := hW.1
  have hK := hW.2.1
  have hS : va_S (xl_A o w s.heap.size) s.heap s.heap [] := va_S.rf
  have hA0 : ∀ q, xl_A o w s.heap.size q → lim ≤ q := fun q h => h.elim (fun h => h.elim (fun z => Nat.le_trans hW.2.2.2 z.1) (fun z => Nat.le_trans hW.2.2.2 (Nat.le_trans (Nat.le_trans (Nat.le_add_right _ _) hX.lt) z))) (fun z => by rw [z]; exact hlw)
  have hl : lv_has ls 4 [(0, .ref o), (1, .int x), (2, .ref w)] := hl
  refine lv_aload_n hx hb d_L_count_0 rfl (lv_at hl 2 rfl) ?_
  refine lv_iconst (v := 0) hx hb d_L_count_1 (by decide) ?_
  refine lv_aload_n hx hb d_L_count_2 rfl (lv_at hl 0 rfl) ?_
  refine lv_iload_n hx hb d_L_count_3 rfl (lv_at hl 1 rfl) ?_
  refine xl_iF (rest := [.int 0, .ref w]) (c_X_count l hsl g B o lim σ x) gd_L_X_count hd_X_count hC hK hW.2.2.1 hW.2.2.2 hX hS hA0 (fun q h => Or.inl h) (by omega) (by omega) (by omega) (by omega) hl.1 rfl (Nat.le_of_ble_eq_true rfl) d_L_count_4 (fun H locs h0 hX hS hF => ?_) (fun ce q9 H locs h0 hX hS hF e1 e2 e3 => ?_)
  · have hO := hO.kept (hF.2 w hO.lt hBw.2)
    refine lv_i2l (v := (xp_count σ x).2.1.toInt64) hx hb d_L_count_7 rfl ?_
    refine xl_put hx hb hK hO d_L_count_8 (fun H lc hlc hO hz hq => ?_)
    have hX := hX.out (x := fun q => q = w) (fun q z => by subst z; exact hBw) (xw_F.put hz hq)
    have hS := xw_Sput hS hz hq hlc (Or.inr rfl)
    refine lv_goto (tgt := 15) hx hb d_L_count_9 (by decide) ?_
    refine lv_iconst (v := 0) hx hb d_L_count_15 (by decide) ?_
    exact xl_ret (k := nI) hC hX hO hS (by omega) (by omega) (by rw [h0]; try rfl) rfl (fun _ => rfl) d_L_count_16
  · have hO := hO.kept (hF.2 w hO.lt hBw.2)
    have h9 := xp_count_c σ x h0
    rw [h9] at e3
    refine xl_catch (hp := 12) hhh e1 e2 (Vm.classAt_of_findClass e3) (fun pl hpl => xl_T1 (k := 1) hown (hts _ cl_L_13) e3 ⟨by decide, by decide, by decide⟩ pl hpl) ?_
    refine lv_astore_n (lv' := [(3, .ref q9), (0, .ref o), (1, .int x), (2, .ref w)]) hx hb d_L_count_12 rfl hl (by decide) rfl (fun ls hl => ?_)
    refine lv_iconst (v := 1) hx hb d_L_count_13 (by decide) ?_
    exact xl_ret (k := nI) hC hX hO hS (by omega) (by omega) (by rw [h9]; try rfl) rfl (fun h => absurd h h0) d_L_count_14
