/-! The face, by program. -/
set_option maxHeartbeats 4000000 in
set_option maxRecDepth 100000 in
theorem c_X_checkArgument_1 (l : Launch) (g : xw_G) (B : Nat → Prop) (o lim : Nat) (σ : xs_S) : xc_V l y_X_checkArgument (Cond.code y_X_checkArgument b_X_checkArgument 1 none) g B o lim σ σ [.int 1] (fun _ => True) 6 89 0 0 := by
  refine xh_V (own := R_X) (by decide) rfl (Nat.le_of_ble_eq_true rfl) ?_
  intro p e R s m below meth c ls hRf hRl hRc hRs hC hW hE hl
  obtain ⟨hx, hb, hml, hr, hown, hts, hlk⟩ := id hC
  have hX := hW.1
  have hK := hW.2.1
  have hS : va_S (xw_A o s.heap.size) s.heap s.heap [] := va_S.rf
  have hl : lv_has ls 1 [(0, .int 1)] := hl
  refine lv_iload_n hx hb d_X_checkArgument_0 rfl (lv_at hl 0 rfl) ?_
  refine lv_if_ne (tgt := 12) hx hb d_X_checkArgument_1 (by decide) (fun c_1 => ?_) (fun c_1 => absurd c_1 (by decide))
  exact xr_V (τ := σ) hC hW hX hS (by omega) (by omega) rfl d_X_checkArgument_12
set_option maxHeartbeats 4000000 in
set_option maxRecDepth 100000 in
theorem c_X_checkArgument_0 (l : Launch) (hsl : l.stackTraces = false) (g : xw_G) (B : Nat → Prop) (o lim : Nat) (σ : xs_S) : xc_X l y_X_checkArgument (Cond.code y_X_checkArgument b_X_checkArgument 1 none) g B o lim σ σ [.int 0] (fun _ => True) "java/lang/IllegalArgumentException" 6 89 1 6 := by
  refine xh_X (own := R_X) (by decide) rfl (Nat.le_of_ble_eq_true rfl) ?_
  intro p e R s m below meth c ls hRf hRl hRc hRs hxt hC hW hE hl
  obtain ⟨hx, hb, hml, hr, hown, hts, hlk⟩ := id hC
  have hX := hW.1
  have hK := hW.2.1
  have hS : va_S (xw_A o s.heap.size) s.heap s.heap [] := va_S.rf
  have hl : lv_has ls 1 [(0, .int 0)] := hl
  refine lv_iload_n hx hb d_X_checkArgument_0 rfl (lv_at hl 0 rfl) ?_
  refine lv_if_ne (tgt := 12) hx hb d_X_checkArgument_1 (by decide) (fun c_1 => (c_1 (by decide)).elim) (fun c_1 => ?_)
  exact xr_TX hC hsl hxt hW hX hS hl.1 rfl hkl_1 hii_1 hia_1 hat_1 d_X_checkArgument_4 d_X_checkArgument_7 d_X_checkArgument_8 d_X_checkArgument_11 (by omega) (by omega) (by omega) (by omega) (by omega) (by omega)
set_option maxHeartbeats 4000000 in
set_option maxRecDepth 100000 in
theorem c_X_checkState_1 (l : Launch) (g : xw_G) (B : Nat → Prop) (o lim : Nat) (σ : xs_S) : xc_V l y_X_checkState (Cond.code y_X_checkState b_X_checkState 1 none) g B o lim σ σ [.int 1] (fun _ => True) 6 89 0 0 := by
  refine xh_V (own := R_X) (by decide) rfl (Nat.le_of_ble_eq_true rfl) ?_
  intro p e R s m below meth c ls hRf hRl hRc hRs hC hW hE hl
  obtain ⟨hx, hb, hml, hr, hown, hts, hlk⟩ := id hC
  have hX := hW.1
  have hK := hW.2.1
  have hS : va_S (xw_A o s.heap.size) s.heap s.heap [] := va_S.rf
  have hl : lv_has ls 1 [(0, .int 1)] := hl
  refine lv_iload_n hx hb d_X_checkState_0 rfl (lv_at hl 0 rfl) ?_
  refine lv_if_ne (tgt := 12) hx hb d_X_checkState_1 (by decide) (fun c_1 => ?_) (fun c_1 => absurd c_1 (by decide))
  exact xr_V (τ := σ) hC hW hX hS (by omega) (by omega) rfl d_X_checkState_12
set_option maxHeartbeats 4000000 in
set_option maxRecDepth 100000 in
theorem c_X_checkState_0 (l : Launch) (hsl : l.stackTraces = false) (g : xw_G) (B : Nat → Prop) (o lim : Nat) (σ : xs_S) : xc_X l y_X_checkState (Cond.code y_X_checkState b_X_checkState 1 none) g B o lim σ σ [.int 0] (fun _ => True) "java/lang/IllegalStateException" 6 89 1 6 := by
  refine xh_X (own := R_X) (by decide) rfl (Nat.le_of_ble_eq_true rfl) ?_
  intro p e R s m below meth c ls hRf hRl hRc hRs hxt hC hW hE hl
  obtain ⟨hx, hb, hml, hr, hown, hts, hlk⟩ := id hC
  have hX := hW.1
  have hK := hW.2.1
  have hS : va_S (xw_A o s.heap.size) s.heap s.heap [] := va_S.rf
  have hl : lv_has ls 1 [(0, .int 0)] := hl
  refine lv_iload_n hx hb d_X_checkState_0 rfl (lv_at hl 0 rfl) ?_
  refine lv_if_ne (tgt := 12) hx hb d_X_checkState_1 (by decide) (fun c_1 => (c_1 (by decide)).elim) (fun c_1 => ?_)
  exact xr_TX hC hsl hxt hW hX hS hl.1 rfl hkl_2 hii_2 hia_2 hat_2 d_X_checkState_4 d_X_checkState_7 d_X_checkState_8 d_X_checkState_11 (by omega) (by omega) (by omega) (by omega) (by omega) (by omega)
set_option maxHeartbeats 4000000 in
set_option maxRecDepth 100000 in
theorem c_X_register (l : Launch) (hsl : l.stackTraces = false) (g : xw_G) (B : Nat → Prop) (o lim : Nat) (σ : xs_S) (x : Int32) (y : Int32) : xc_F l y_X_register (Cond.code y_X_register b_X_register 4 (some .int)) g B o lim σ (xp_register σ x y) [.ref o, .int x, .int y] 7 109 2 12 := by
  refine xh_F (own := R_X) (by decide) rfl (Nat.le_of_ble_eq_true rfl) ?_
  intro p e R s m below meth c ls hRf hRl hRc hRs hxt hC hW hl
  obtain ⟨hx, hb, hml, hr, hown, hts, hlk⟩ := id hC
  have hX := hW.1
  have hK := hW.2.1
  have hS : va_S (xw_A o s.heap.size) s.heap s.heap [] := va_S.rf
  have hl : lv_has ls 4 [(0, .ref o), (1, .int x), (2, .int y)] := hl
  refine lv_iload_n hx hb d_X_register_0 rfl (lv_at hl 1 rfl) ?_
  refine xk_sQ (rest := []) (c_X_isAccount l g B o lim σ x) gd_X_X_isAccount hd_X_isAccount hC hW hX hS trivial (by omega) (by omega) (by omega) (by omega) hl.1 rfl (Nat.le_of_ble_eq_true rfl) d_X_register_1 (fun v8 H locs hv hX hS hF => ?_)
  obtain rfl := hv
  refine lv_if_eq (tgt := 22) hx hb d_X_register_4 (by decide) (fun c_1 => ?_) (fun c_1 => ?_)
  · have c_1 := xs_b0 c_1
    refine lv_iconst (v := 0) hx hb d_X_register_22 (by decide) ?_
    refine xk_sX (rest := []) (c_X_checkArgument_0 l hsl g B o lim σ) gd_X_X_checkArgument hd_X_checkArgument hC hW hX hS trivial (by omega) (by omega) (by omega) (by omega) hl.1 rfl (Nat.le_of_ble_eq_true rfl) d_X_register_23 (fun ce9 q9 H locs hX hS e1 e2 e3 => ?_)
    exact xr_FX hC hxt hW hX hS (by omega) (by omega) e1 e2 e3 (k := 0) (v := 0) (by simp only [xp_register, c_1, if_true, if_false, reduceIte, Bool.false_eq_true, Bool.true_eq_false, and_true, true_and, and_false, false_and, or_true, true_or, or_false, false_or, not_true_eq_false, not_false_eq_true] <;> rfl) rfl
  · have c_1 := xs_b1 c_1
    refine lv_iload_n hx hb d_X_register_7 rfl (lv_at hl 2 rfl) ?_
    refine lv_if_lt (tgt := 22) hx hb d_X_register_8 (by decide) (fun c_2 => ?_) (fun c_2 => ?_)
    · refine lv_iconst (v := 0) hx hb d_X_register_22 (by decide) ?_
      refine xk_sX (rest := []) (c_X_checkArgument_0 l hsl g B o lim σ) gd_X_X_checkArgument hd_X_checkArgument hC hW hX hS trivial (by omega) (by omega) (by omega) (by omega) hl.1 rfl (Nat.le_of_ble_eq_true rfl) d_X_register_23 (fun ce9 q9 H locs hX hS e1 e2 e3 => ?_)
      exact xr_FX hC hxt hW hX hS (by omega) (by omega) e1 e2 e3 (k := 0) (v := 0) (by simp only [xp_register, c_1, c_2, if_true, if_false, reduceIte, Bool.false_eq_true, Bool.true_eq_false, and_true, true_and, and_false, false_and, or_true, true_or, or_false, false_or, not_true_eq_false, not_false_eq_true] <;> rfl) rfl
    · refine lv_iload_n hx hb d_X_register_11 rfl (lv_at hl 2 rfl) ?_
      refine lv_sipush (v := 9999) hx hb d_X_register_12 (by decide) ?_
      refine lv_icmp_gt (tgt := 22) hx hb d_X_register_15 (by decide) (fun c_3 => ?_) (fun c_3 => ?_)
      · refine lv_iconst (v := 0) hx hb d_X_register_22 (by decide) ?_
        refine xk_sX (rest := []) (c_X_checkArgument_0 l hsl g B o lim σ) gd_X_X_checkArgument hd_X_checkArgument hC hW hX hS trivial (by omega) (by omega) (by omega) (by omega) hl.1 rfl (Nat.le_of_ble_eq_true rfl) d_X_register_23 (fun ce9 q9 H locs hX hS e1 e2 e3 => ?_)
        exact xr_FX hC hxt hW hX hS (by omega) (by omega) e1 e2 e3 (k := 0) (v := 0) (by simp only [xp_register, c_1, c_2, c_3, if_true, if_false, reduceIte, Bool.false_eq_true, Bool.true_eq_false, and_true, true_and, and_false, false_and, or_true, true_or, or_false, false_or, not_true_eq_false, not_false_eq_true] <;> rfl) rfl
      · refine lv_iconst (v := 1) hx hb d_X_register_18 (by decide) ?_
        refine lv_goto (tgt := 23) hx hb d_X_register_19 (by decide) ?_
        refine xk_sV (rest := []) (c_X_checkArgument_1 l g B o lim σ) gd_X_X_checkArgument hd_X_checkArgument hC hW hX hS trivial (by omega) (by omega) (by omega) (by omega) hl.1 rfl (Nat.le_of_ble_eq_true rfl) d_X_register_23 (fun H locs hX hS hF => ?_)
        refine lv_aload_n hx hb d_X_register_26 rfl (lv_at hl 0 rfl) ?_
        obtain ⟨v9, hXo, hXl⟩ := hX.1
        refine gf_X_X_accounts hx hb hts hown hK hXo rfl d_X_register_27 ?_
        refine lv_iload_n hx hb d_X_register_30 rfl (lv_at hl 1 rfl) ?_
        refine xb_aald (v := o + 3 + 4 * (xs_ix x)) hx hb hK 0 rfl hX.2.1 (xm_in8t c_1) rfl d_X_register_31 ?_
        refine lv_astore_n (lv' := [(3, .ref (o + 3 + 4 * (xs_ix x))), (0, .ref o), (1, .int x), (2, .int y)]) hx hb d_X_register_32 rfl hl (by decide) rfl (fun ls hl => ?_)
        refine lv_aload_n hx hb d_X_register_33 rfl (lv_at hl 0 rfl) ?_
        refine gf_X_A_registered hx hb hts hown hK (hX.2.2.2.1 (xs_ix x) (xs_ixl (xm_in8t c_1))) rfl d_X_register_34 ?_
        refine lv_if_ne (tgt := 44) hx hb d_X_register_37 (by decide) (fun c_4 => ?_) (fun c_4 => ?_)
        · have c_4 := xs_b1 c_4
          refine lv_iconst (v := 0) hx hb d_X_register_44 (by decide) ?_
          refine xk_sX (rest := []) (c_X_checkState_0 l hsl g B o lim σ) gd_X_X_checkState hd_X_checkState hC hW hX hS trivial (by omega) (by omega) (by omega) (by omega) hl.1 rfl (Nat.le_of_ble_eq_true rfl) d_X_register_45 (fun ce9 q9 H locs hX hS e1 e2 e3 => ?_)
          exact xr_FX hC hxt hW hX hS (by omega) (by omega) e1 e2 e3 (k := 1) (v := 0) (by simp only [xp_register, c_1, c_2, c_3, c_4, if_true, if_false, reduceIte, Bool.false_eq_true, Bool.true_eq_false, and_true, true_and, and_false, false_and, or_true, true_or, or_false, false_or, not_true_eq_false, not_false_eq_true] <;> rfl) rfl
        · have c_4 := xs_b0 c_4
          refine lv_iconst (v := 1) hx hb d_X_register_40 (by decide) ?_
          refine lv_goto (tgt := 45) hx hb d_X_register_41 (by decide) ?_
          refine xk_sV (rest := []) (c_X_checkState_1 l g B o lim σ) gd_X_X_checkState hd_X_checkState hC hW hX hS trivial (by omega) (by omega) (by omega) (by omega) hl.1 rfl (Nat.le_of_ble_eq_true rfl) d_X_register_45 (fun H locs hX hS hF => ?_)
          refine lv_aload_n hx hb d_X_register_48 rfl (lv_at hl 0 rfl) ?_
          refine lv_iconst (v := 1) hx hb d_X_register_49 (by decide) ?_
          refine pf_X_A_registered (b := true) hx hb hts hown hK hX hS (xs_ixl (xm_in8t c_1)) d_X_register_50 (fun H locs hX hS hF => ?_)
          refine lv_aload_n hx hb d_X_register_53 rfl (lv_at hl 0 rfl) ?_
          refine lv_iload_n hx hb d_X_register_54 rfl (lv_at hl 3 rfl) ?_
          refine pf_X_A_password hx hb hts hown hK hX hS (xs_ixl (xm_in8t c_1)) d_X_register_55 (fun H locs hX hS hF => ?_)
          refine lv_iconst (v := 1) hx hb d_X_register_58 (by decide) ?_
          exact xr_F hC hW hX hS (by omega) (by omega) (by simp only [xp_register, c_1, c_2, c_3, c_4, xs_cn_scn, xs_nx_scn, xs_up_scn, xs_lt_scn, xs_q_scn, xs_ac_scn, xs_mk_scn, xs_ac_sac, xs_sac_sac, xs_nx_sg, xs_up_sg, xs_lt_sg, xs_cn_sg, xs_q_sg, if_true, if_false, reduceIte, Bool.false_eq_true, Bool.true_eq_false, and_true, true_and, and_false, false_and, or_true, true_or, or_false, false_or, not_true_eq_false, not_false_eq_true] <;> rfl) d_X_register_59
set_option maxHeartbeats 4000000 in
set_option maxRecDepth 100000 in
theorem c_X_connect (l : Launch) (hsl : l.stackTraces = false) (g : xw_G) (B : Nat → Prop) (o lim : Nat) (σ : xs_S) (x : Int32) : xc_F l y_X_connect (Cond.code y_X_connect b_X_connect 3 (some .int)) g B o lim σ (xp_connect σ x) [.ref o, .int x] 7 109 2 12 := by
  refine xh_F (own := R_X) (by decide) rfl (Nat.le_of_ble_eq_true rfl) ?_
  intro p e R s m below meth c ls hRf hRl hRc hRs hxt hC hW hl
  obtain ⟨hx, hb, hml, hr, hown, hts, hlk⟩ := id hC
  have hX := hW.1
  have hK := hW.2.1
  have hS : va_S (xw_A o s.heap.size) s.heap s.heap [] := va_S.rf
  have hl : lv_has ls 3 [(0, .ref o), (1, .int x)] := hl
  refine lv_iload_n hx hb d_X_connect_0 rfl (lv_at hl 1 rfl) ?_
  refine xk_sQ (rest := []) (c_X_isConnection l g B o lim σ x) gd_X_X_isConnection hd_X_isConnection hC hW hX hS trivial (by omega) (by omega) (by omega) (by omega) hl.1 rfl (Nat.le_of_ble_eq_true rfl) d_X_connect_1 (fun v8 H locs hv hX hS hF => ?_)
  obtain rfl := hv
  cases c_1 : (xm_in6 x) with
  | false =>
    refine xk_sX (rest := []) (c_X_checkArgument_0 l hsl g B o lim σ) gd_X_X_checkArgument hd_X_checkArgument hC hW hX hS trivial (by omega) (by omega) (by omega) (by omega) hl.1 rfl (Nat.le_of_ble_eq_true rfl) d_X_connect_4 (fun ce9 q9 H locs hX hS e1 e2 e3 => ?_)
    exact xr_FX hC hxt hW hX hS (by omega) (by omega) e1 e2 e3 (k := 0) (v := 0) (by simp only [xp_connect, c_1, if_true, if_false, reduceIte, Bool.false_eq_true, Bool.true_eq_false, and_true, true_and, and_false, false_and, or_true, true_or, or_false, false_or, not_true_eq_false, not_false_eq_true] <;> rfl) rfl
  | true =>
    refine xk_sV (rest := []) (c_X_checkArgument_1 l g B o lim σ) gd_X_X_checkArgument hd_X_checkArgument hC hW hX hS trivial (by omega) (by omega) (by omega) (by omega) hl.1 rfl (Nat.le_of_ble_eq_true rfl) d_X_connect_4 (fun H locs hX hS hF => ?_)
    refine lv_aload_n hx hb d_X_connect_7 rfl (lv_at hl 0 rfl) ?_
    obtain ⟨v9, hXo, hXl⟩ := hX.1
    refine gf_X_X_connections hx hb hts hown hK hXo rfl d_X_connect_8 ?_
    refine lv_iload_n hx hb d_X_connect_11 rfl (lv_at hl 1 rfl) ?_
    refine xb_aald (v := o + 36 + 3 * (xs_ix x)) hx hb hK 1 rfl hX.2.2.1 (xm_in6t c_1) rfl d_X_connect_12 ?_
    refine lv_astore_n (lv' := [(2, .ref (o + 36 + 3 * (xs_ix x))), (0, .ref o), (1, .int x)]) hx hb d_X_connect_13 rfl hl (by decide) rfl (fun ls hl => ?_)
    refine lv_aload_n hx hb d_X_connect_14 rfl (lv_at hl 0 rfl) ?_
    refine gf_X_C_stage hx hb hts hown hK (hX.2.2.2.2.2.1 (xs_ix x) (xs_ixl (xm_in6t c_1))) rfl d_X_connect_15 ?_
    refine lv_if_ne (tgt := 25) hx hb d_X_connect_18 (by decide) (fun c_2 => ?_) (fun c_2 => ?_)
    · refine lv_iconst (v := 0) hx hb d_X_connect_25 (by decide) ?_
      refine xk_sX (rest := []) (c_X_checkState_0 l hsl g B o lim σ) gd_X_X_checkState hd_X_checkState hC hW hX hS trivial (by omega) (by omega) (by omega) (by omega) hl.1 rfl (Nat.le_of_ble_eq_true rfl) d_X_connect_26 (fun ce9 q9 H locs hX hS e1 e2 e3 => ?_)
      exact xr_FX hC hxt hW hX hS (by omega) (by omega) e1 e2 e3 (k := 1) (v := 0) (by simp only [xp_connect, c_1, c_2, if_true, if_false, reduceIte, Bool.false_eq_true, Bool.true_eq_false, and_true, true_and, and_false, false_and, or_true, true_or, or_false, false_or, not_true_eq_false, not_false_eq_true] <;> rfl) rfl
    · refine lv_iconst (v := 1) hx hb d_X_connect_21 (by decide) ?_
      refine lv_goto (tgt := 26) hx hb d_X_connect_22 (by decide) ?_
      refine xk_sV (rest := []) (c_X_checkState_1 l g B o lim σ) gd_X_X_checkState hd_X_checkState hC hW hX hS trivial (by omega) (by omega) (by omega) (by omega) hl.1 rfl (Nat.le_of_ble_eq_true rfl) d_X_connect_26 (fun H locs hX hS hF => ?_)
      refine lv_aload_n hx hb d_X_connect_29 rfl (lv_at hl 0 rfl) ?_
      refine lv_iconst (v := 1) hx hb d_X_connect_30 (by decide) ?_
      refine pf_X_C_stage hx hb hts hown hK hX hS (xs_ixl (xm_in6t c_1)) d_X_connect_31 (fun H locs hX hS hF => ?_)
      refine lv_aload_n hx hb d_X_connect_34 rfl (lv_at hl 0 rfl) ?_
      refine gf_X_C_inbox hx hb hts hown hK (hX.2.2.2.2.2.1 (xs_ix x) (xs_ixl (xm_in6t c_1))) rfl d_X_connect_35 ?_
      obtain ⟨f9, hq9, hl9, hz9⟩ := hX.2.2.2.2.2.2.1 (8 + (xs_ix x)) (xs_8 (xs_ixl (xm_in6t c_1)))
      refine xk_iV (rest := []) (c_Q_clear l g B o lim (xm_sst σ (xs_ix x) 1) (8 + (xs_ix x)) (xs_8 (xs_ixl (xm_in6t c_1)))) gd_X_Q_clear hd_Q_clear hC hW hX hS (xb_recv hK (ci := xi_Q) rfl hq9.1) trivial (by omega) (by omega) (by omega) (by omega) hl.1 rfl (Nat.le_of_ble_eq_true rfl) d_X_connect_38 (fun H locs hX hS hF => ?_)
      refine lv_iconst (v := 1) hx hb d_X_connect_41 (by decide) ?_
      exact xr_F hC hW hX hS (by omega) (by omega) (by simp only [xp_connect, c_1, c_2, xs_cn_scn, xs_nx_scn, xs_up_scn, xs_lt_scn, xs_q_scn, xs_ac_scn, xs_mk_scn, xs_ac_sac, xs_sac_sac, xs_nx_sg, xs_up_sg, xs_lt_sg, xs_cn_sg, xs_q_sg, if_true, if_false, reduceIte, Bool.false_eq_true, Bool.true_eq_false, and_true, true_and, and_false, false_and, or_true, true_or, or_false, false_or, not_true_eq_false, not_false_eq_true] <;> rfl) d_X_connect_42
set_option maxHeartbeats 4000000 in
set_option maxRecDepth 100000 in
theorem c_X_login (l : Launch) (hsl : l.stackTraces = false) (g : xw_G) (B : Nat → Prop) (o lim : Nat) (σ : xs_S) (x : Int32) (y : Int32) : xc_F l y_X_login (Cond.code y_X_login b_X_login 4 (some .int)) g B o lim σ (xp_login σ x y) [.ref o, .int x, .int y] 7 109 2 12 := by
  refine xh_F (own := R_X) (by decide) rfl (Nat.le_of_ble_eq_true rfl) ?_
  intro p e R s m below meth c ls hRf hRl hRc hRs hxt hC hW hl
  obtain ⟨hx, hb, hml, hr, hown, hts, hlk⟩ := id hC
  have hX := hW.1
  have hK := hW.2.1
  have hS : va_S (xw_A o s.heap.size) s.heap s.heap [] := va_S.rf
  have hl : lv_has ls 4 [(0, .ref o), (1, .int x), (2, .int y)] := hl
  refine lv_iload_n hx hb d_X_login_0 rfl (lv_at hl 1 rfl) ?_
  refine xk_sQ (rest := []) (c_X_isConnection l g B o lim σ x) gd_X_X_isConnection hd_X_isConnection hC hW hX hS trivial (by omega) (by omega) (by omega) (by omega) hl.1 rfl (Nat.le_of_ble_eq_true rfl) d_X_login_1 (fun v8 H locs hv hX hS hF => ?_)
  obtain rfl := hv
  refine lv_if_eq (tgt := 18) hx hb d_X_login_4 (by decide) (fun c_1 => ?_) (fun c_1 => ?_)
  · have c_1 := xs_b0 c_1
    refine lv_iconst (v := 0) hx hb d_X_login_18 (by decide) ?_
    refine xk_sX (rest := []) (c_X_checkArgument_0 l hsl g B o lim σ) gd_X_X_checkArgument hd_X_checkArgument hC hW hX hS trivial (by omega) (by omega) (by omega) (by omega) hl.1 rfl (Nat.le_of_ble_eq_true rfl) d_X_login_19 (fun ce9 q9 H locs hX hS e1 e2 e3 => ?_)
    exact xr_FX hC hxt hW hX hS (by omega) (by omega) e1 e2 e3 (k := 0) (v := 0) (by simp only [xp_login, xp_login1, xm_sst, xm_sacc, xm_sch, c_1, if_true, if_false, reduceIte, Bool.false_eq_true, Bool.true_eq_false, and_true, true_and, and_false, false_and, or_true, true_or, or_false, false_or, not_true_eq_false, not_false_eq_true] <;> rfl) rfl
  · have c_1 := xs_b1 c_1
    refine lv_iload_n hx hb d_X_login_7 rfl (lv_at hl 2 rfl) ?_
    refine xk_sQ (rest := []) (c_X_isAccount l g B o lim σ y) gd_X_X_isAccount hd_X_isAccount hC hW hX hS trivial (by omega) (by omega) (by omega) (by omega) hl.1 rfl (Nat.le_of_ble_eq_true rfl) d_X_login_8 (fun v8 H locs hv hX hS hF => ?_)
    obtain rfl := hv
    refine lv_if_eq (tgt := 18) hx hb d_X_login_11 (by decide) (fun c_2 => ?_) (fun c_2 => ?_)
    · have c_2 := xs_b0 c_2
      refine lv_iconst (v := 0) hx hb d_X_login_18 (by decide) ?_
      refine xk_sX (rest := []) (c_X_checkArgument_0 l hsl g B o lim σ) gd_X_X_checkArgument hd_X_checkArgument hC hW hX hS trivial (by omega) (by omega) (by omega) (by omega) hl.1 rfl (Nat.le_of_ble_eq_true rfl) d_X_login_19 (fun ce9 q9 H locs hX hS e1 e2 e3 => ?_)
      exact xr_FX hC hxt hW hX hS (by omega) (by omega) e1 e2 e3 (k := 0) (v := 0) (by simp only [xp_login, xp_login1, xm_sst, xm_sacc, xm_sch, c_1, c_2, if_true, if_false, reduceIte, Bool.false_eq_true, Bool.true_eq_false, and_true, true_and, and_false, false_and, or_true, true_or, or_false, false_or, not_true_eq_false, not_false_eq_true] <;> rfl) rfl
    · have c_2 := xs_b1 c_2
      refine lv_iconst (v := 1) hx hb d_X_login_14 (by decide) ?_
      refine lv_goto (tgt := 19) hx hb d_X_login_15 (by decide) ?_
      refine xk_sV (rest := []) (c_X_checkArgument_1 l g B o lim σ) gd_X_X_checkArgument hd_X_checkArgument hC hW hX hS trivial (by omega) (by omega) (by omega) (by omega) hl.1 rfl (Nat.le_of_ble_eq_true rfl) d_X_login_19 (fun H locs hX hS hF => ?_)
      refine lv_aload_n hx hb d_X_login_22 rfl (lv_at hl 0 rfl) ?_
      obtain ⟨v9, hXo, hXl⟩ := hX.1
      refine gf_X_X_connections hx hb hts hown hK hXo rfl d_X_login_23 ?_
      refine lv_iload_n hx hb d_X_login_26 rfl (lv_at hl 1 rfl) ?_
      refine xb_aald (v := o + 36 + 3 * (xs_ix x)) hx hb hK 1 rfl hX.2.2.1 (xm_in6t c_1) rfl d_X_login_27 ?_
      refine lv_astore_n (lv' := [(3, .ref (o + 36 + 3 * (xs_ix x))), (0, .ref o), (1, .int x), (2, .int y)]) hx hb d_X_login_28 rfl hl (by decide) rfl (fun ls hl => ?_)
      refine lv_aload_n hx hb d_X_login_29 rfl (lv_at hl 0 rfl) ?_
      refine gf_X_C_stage hx hb hts hown hK (hX.2.2.2.2.2.1 (xs_ix x) (xs_ixl (xm_in6t c_1))) rfl d_X_login_30 ?_
      refine lv_iconst (v := 1) hx hb d_X_login_33 (by decide) ?_
      refine lv_icmp_ne (tgt := 41) hx hb d_X_login_34 (by decide) (fun c_3 => ?_) (fun c_3 => ?_)
      · refine lv_iconst (v := 0) hx hb d_X_login_41 (by decide) ?_
        refine xk_sX (rest := []) (c_X_checkState_0 l hsl g B o lim σ) gd_X_X_checkState hd_X_checkState hC hW hX hS trivial (by omega) (by omega) (by omega) (by omega) hl.1 rfl (Nat.le_of_ble_eq_true rfl) d_X_login_42 (fun ce9 q9 H locs hX hS e1 e2 e3 => ?_)
        exact xr_FX hC hxt hW hX hS (by omega) (by omega) e1 e2 e3 (k := 1) (v := 0) (by simp only [xp_login, xp_login1, xm_sst, xm_sacc, xm_sch, c_1, c_2, c_3, if_true, if_false, reduceIte, Bool.false_eq_true, Bool.true_eq_false, and_true, true_and, and_false, false_and, or_true, true_or, or_false, false_or, not_true_eq_false, not_false_eq_true] <;> rfl) rfl
      · refine lv_iconst (v := 1) hx hb d_X_login_37 (by decide) ?_
        refine lv_goto (tgt := 42) hx hb d_X_login_38 (by decide) ?_
        refine xk_sV (rest := []) (c_X_checkState_1 l g B o lim σ) gd_X_X_checkState hd_X_checkState hC hW hX hS trivial (by omega) (by omega) (by omega) (by omega) hl.1 rfl (Nat.le_of_ble_eq_true rfl) d_X_login_42 (fun H locs hX hS hF => ?_)
        refine lv_aload_n hx hb d_X_login_45 rfl (lv_at hl 0 rfl) ?_
        refine lv_iconst (v := 2) hx hb d_X_login_46 (by decide) ?_
        refine pf_X_C_stage hx hb hts hown hK hX hS (xs_ixl (xm_in6t c_1)) d_X_login_47 (fun H locs hX hS hF => ?_)
        refine lv_aload_n hx hb d_X_login_50 rfl (lv_at hl 0 rfl) ?_
        refine lv_iload_n hx hb d_X_login_51 rfl (lv_at hl 3 rfl) ?_
        refine pf_X_C_account hx hb hts hown hK hX hS (xs_ixl (xm_in6t c_1)) d_X_login_52 (fun H locs hX hS hF => ?_)
        refine lv_aload_n hx hb d_X_login_55 rfl (lv_at hl 0 rfl) ?_
        refine lv_aload_n hx hb d_X_login_56 rfl (lv_at hl 1 rfl) ?_
        obtain ⟨v9, hXo, hXl⟩ := hX.1
        refine gf_X_X_nextChallenge hx hb hts hown hK hXo rfl d_X_login_57 ?_
        refine pf_X_C_challenge hx hb hts hown hK hX hS (xs_ixl (xm_in6t c_1)) d_X_login_60 (fun H locs hX hS hF => ?_)
        refine lv_aload_n hx hb d_X_login_63 rfl (lv_at hl 1 rfl) ?_
        refine lv_aload_n hx hb d_X_login_64 rfl (lv_at hl 1 rfl) ?_
        obtain ⟨v9, hXo, hXl⟩ := hX.1
        refine gf_X_X_nextChallenge hx hb hts hown hK hXo rfl d_X_login_65 ?_
        refine lv_sipush (v := 7919) hx hb d_X_login_68 (by decide) ?_
        refine lv_iadd hx hb d_X_login_71 ?_
        refine lv_sipush (v := 10000) hx hb d_X_login_72 (by decide) ?_
        refine lv_irem hx hb d_X_login_75 (by decide) ?_
        refine pf_X_X_nextChallenge hx hb hts hown hK hX hS d_X_login_76 (fun H locs hX hS hF => ?_)
        refine lv_aload_n hx hb d_X_login_79 rfl (lv_at hl 0 rfl) ?_
        refine gf_X_C_challenge hx hb hts hown hK (hX.2.2.2.2.2.1 (xs_ix x) (xs_ixl (xm_in6t c_1))) rfl d_X_login_80 ?_
        exact xr_F hC hW hX hS (by omega) (by omega) (by simp only [xp_login, xp_login1, xm_sst, xm_sacc, xm_sch, c_1, c_2, c_3, xs_cn_scn, xs_nx_scn, xs_up_scn, xs_lt_scn, xs_q_scn, xs_ac_scn, xs_mk_scn, xs_ac_sac, xs_sac_sac, xs_nx_sg, xs_up_sg, xs_lt_sg, xs_cn_sg, xs_q_sg, if_true, if_false, reduceIte, Bool.false_eq_true, Bool.true_eq_false, and_true, true_and, and_false, false_and, or_true, true_or, or_false, false_or, not_true_eq_false, not_false_eq_true] <;> rfl) d_X_login_83
set_option maxHeartbeats 4000000 in
set_option maxRecDepth 100000 in
theorem c_X_prove (l : Launch) (hsl : l.stackTraces = false) (g : xw_G) (B : Nat → Prop) (o lim : Nat) (σ : xs_S) (x : Int32) (y : Int32) (hwf : xm_wf σ) : xc_F l y_X_prove (Cond.code y_X_prove b_X_prove 4 (some .int)) g B o lim σ (xp_prove σ x y) [.ref o, .int x, .int y] 7 109 3 18 := by
  refine xh_F (own := R_X) (by decide) rfl (Nat.le_of_ble_eq_true rfl) ?_
  intro p e R s m below meth c ls hRf hRl hRc hRs hxt hC hW hl
  obtain ⟨hx, hb, hml, hr, hown, hts, hlk⟩ := id hC
  have hX := hW.1
  have hK := hW.2.1
  have hS : va_S (xw_A o s.heap.size) s.heap s.heap [] := va_S.rf
  have hl : lv_has ls 4 [(0, .ref o), (1, .int x), (2, .int y)] := hl
  refine lv_iload_n hx hb d_X_prove_0 rfl (lv_at hl 1 rfl) ?_
  refine xk_sQ (rest := []) (c_X_isConnection l g B o lim σ x) gd_X_X_isConnection hd_X_isConnection hC hW hX hS trivial (by omega) (by omega) (by omega) (by omega) hl.1 rfl (Nat.le_of_ble_eq_true rfl) d_X_prove_1 (fun v8 H locs hv hX hS hF => ?_)
  obtain rfl := hv
  cases c_1 : (xm_in6 x) with
  | false =>
    refine xk_sX (rest := []) (c_X_checkArgument_0 l hsl g B o lim σ) gd_X_X_checkArgument hd_X_checkArgument hC hW hX hS trivial (by omega) (by omega) (by omega) (by omega) hl.1 rfl (Nat.le_of_ble_eq_true rfl) d_X_prove_4 (fun ce9 q9 H locs hX hS e1 e2 e3 => ?_)
    exact xr_FX hC hxt hW hX hS (by omega) (by omega) e1 e2 e3 (k := 0) (v := 0) (by simp only [xp_prove, c_1, if_true, if_false, reduceIte, Bool.false_eq_true, Bool.true_eq_false, and_true, true_and, and_false, false_and, or_true, true_or, or_false, false_or, not_true_eq_false, not_false_eq_true] <;> rfl) rfl
  | true =>
    refine xk_sV (rest := []) (c_X_checkArgument_1 l g B o lim σ) gd_X_X_checkArgument hd_X_checkArgument hC hW hX hS trivial (by omega) (by omega) (by omega) (by omega) hl.1 rfl (Nat.le_of_ble_eq_true rfl) d_X_prove_4 (fun H locs hX hS hF => ?_)
    refine lv_aload_n hx hb d_X_prove_7 rfl (lv_at hl 0 rfl) ?_
    obtain ⟨v9, hXo, hXl⟩ := hX.1
    refine gf_X_X_connections hx hb hts hown hK hXo rfl d_X_prove_8 ?_
    refine lv_iload_n hx hb d_X_prove_11 rfl (lv_at hl 1 rfl) ?_
    refine xb_aald (v := o + 36 + 3 * (xs_ix x)) hx hb hK 1 rfl hX.2.2.1 (xm_in6t c_1) rfl d_X_prove_12 ?_
    refine lv_astore_n (lv' := [(3, .ref (o + 36 + 3 * (xs_ix x))), (0, .ref o), (1, .int x), (2, .int y)]) hx hb d_X_prove_13 rfl hl (by decide) rfl (fun ls hl => ?_)
    refine lv_aload_n hx hb d_X_prove_14 rfl (lv_at hl 0 rfl) ?_
    refine gf_X_C_stage hx hb hts hown hK (hX.2.2.2.2.2.1 (xs_ix x) (xs_ixl (xm_in6t c_1))) rfl d_X_prove_15 ?_
    refine lv_iconst (v := 2) hx hb d_X_prove_18 (by decide) ?_
    refine lv_icmp_ne (tgt := 26) hx hb d_X_prove_19 (by decide) (fun c_2 => ?_) (fun c_2 => ?_)
    · refine lv_iconst (v := 0) hx hb d_X_prove_26 (by decide) ?_
      refine xk_sX (rest := []) (c_X_checkState_0 l hsl g B o lim σ) gd_X_X_checkState hd_X_checkState hC hW hX hS trivial (by omega) (by omega) (by omega) (by omega) hl.1 rfl (Nat.le_of_ble_eq_true rfl) d_X_prove_27 (fun ce9 q9 H locs hX hS e1 e2 e3 => ?_)
      exact xr_FX hC hxt hW hX hS (by omega) (by omega) e1 e2 e3 (k := 1) (v := 0) (by simp only [xp_prove, c_1, c_2, if_true, if_false, reduceIte, Bool.false_eq_true, Bool.true_eq_false, and_true, true_and, and_false, false_and, or_true, true_or, or_false, false_or, not_true_eq_false, not_false_eq_true] <;> rfl) rfl
    · refine lv_iconst (v := 1) hx hb d_X_prove_22 (by decide) ?_
      refine lv_goto (tgt := 27) hx hb d_X_prove_23 (by decide) ?_
      refine xk_sV (rest := []) (c_X_checkState_1 l g B o lim σ) gd_X_X_checkState hd_X_checkState hC hW hX hS trivial (by omega) (by omega) (by omega) (by omega) hl.1 rfl (Nat.le_of_ble_eq_true rfl) d_X_prove_27 (fun H locs hX hS hF => ?_)
      refine lv_aload_n hx hb d_X_prove_30 rfl (lv_at hl 1 rfl) ?_
      refine lv_aload_n hx hb d_X_prove_31 rfl (lv_at hl 0 rfl) ?_
      refine lv_iload_n hx hb d_X_prove_32 rfl (lv_at hl 3 rfl) ?_
      have hvac := hwf.2.1 _ (xs_ixl (xm_in6t c_1)) (Or.inl c_2)
      obtain ⟨v9, hXo, hXl⟩ := hX.1
      refine xk_iQ (rest := []) (c_X_isRightProof l g B o lim σ (xs_ix x) (xs_ixl (xm_in6t c_1)) y hvac) gd_X_X_isRightProof hd_X_isRightProof hC hW hX hS (xb_recv hK (ci := xi_X) rfl hXo) trivial (by omega) (by omega) (by omega) (by omega) hl.1 rfl (Nat.le_of_ble_eq_true rfl) d_X_prove_33 (fun v8 H locs hv hX hS hF => ?_)
      obtain rfl := hv
      refine lv_if_ne (tgt := 57) hx hb d_X_prove_36 (by decide) (fun c_3 => ?_) (fun c_3 => ?_)
      · have c_3 := xs_b1 c_3
        refine lv_aload_n hx hb d_X_prove_57 rfl (lv_at hl 0 rfl) ?_
        refine lv_iconst (v := 3) hx hb d_X_prove_58 (by decide) ?_
        refine pf_X_C_stage hx hb hts hown hK hX hS (xs_ixl (xm_in6t c_1)) d_X_prove_59 (fun H locs hX hS hF => ?_)
        refine lv_iconst (v := 1) hx hb d_X_prove_62 (by decide) ?_
        exact xr_F hC hW hX hS (by omega) (by omega) (by simp only [xp_prove, c_1, c_2, c_3, xs_cn_scn, xs_nx_scn, xs_up_scn, xs_lt_scn, xs_q_scn, xs_ac_scn, xs_mk_scn, xs_ac_sac, xs_sac_sac, xs_nx_sg, xs_up_sg, xs_lt_sg, xs_cn_sg, xs_q_sg, if_true, if_false, reduceIte, Bool.false_eq_true, Bool.true_eq_false, and_true, true_and, and_false, false_and, or_true, true_or, or_false, false_or, not_true_eq_false, not_false_eq_true] <;> rfl) d_X_prove_63
      · have c_3 := xs_b0 c_3
        refine lv_aload_n hx hb d_X_prove_39 rfl (lv_at hl 0 rfl) ?_
        refine lv_iconst (v := 1) hx hb d_X_prove_40 (by decide) ?_
        refine pf_X_C_stage hx hb hts hown hK hX hS (xs_ixl (xm_in6t c_1)) d_X_prove_41 (fun H locs hX hS hF => ?_)
        refine lv_aload_n hx hb d_X_prove_44 rfl (lv_at hl 0 rfl) ?_
        refine lv_iconst (v := (-1)) hx hb d_X_prove_45 (by decide) ?_
        refine pf_X_C_account hx hb hts hown hK hX hS (xs_ixl (xm_in6t c_1)) d_X_prove_46 (fun H locs hX hS hF => ?_)
        exact xr_T hC hsl hxt hW hX hS hl.1 (k := 2) (v := 0) (by simp only [xp_prove, c_1, c_2, c_3, xs_cn_scn, xs_nx_scn, xs_up_scn, xs_lt_scn, xs_q_scn, xs_ac_scn, xs_mk_scn, xs_ac_sac, xs_sac_sac, xs_nx_sg, xs_up_sg, xs_lt_sg, xs_cn_sg, xs_q_sg, if_true, if_false, reduceIte, Bool.false_eq_true, Bool.true_eq_false, and_true, true_and, and_false, false_and, or_true, true_or, or_false, false_or, not_true_eq_false, not_false_eq_true] <;> rfl) rfl hkl_3 hii_3 hia_3 hat_3 d_X_prove_49 d_X_prove_52 d_X_prove_53 d_X_prove_56 (by omega) (by omega) (by omega) (by omega) (by omega) (by omega)
set_option maxHeartbeats 4000000 in
set_option maxRecDepth 100000 in
theorem c_X_bind (l : Launch) (hsl : l.stackTraces = false) (g : xw_G) (B : Nat → Prop) (o lim : Nat) (σ : xs_S) (x : Int32) (y : Int32) (hwf : xm_wf σ) : xc_F l y_X_bind (Cond.code y_X_bind b_X_bind 5 (some .int)) g B o lim σ (xp_bind σ x y) [.ref o, .int x, .int y] 8 178 18 108 := by
  refine xh_F (own := R_X) (by decide) rfl (Nat.le_of_ble_eq_true rfl) ?_
  intro p e R s m below meth c ls hRf hRl hRc hRs hxt hC hW hl
  obtain ⟨hx, hb, hml, hr, hown, hts, hlk⟩ := id hC
  have hX := hW.1
  have hK := hW.2.1
  have hS : va_S (xw_A o s.heap.size) s.heap s.heap [] := va_S.rf
  have hl : lv_has ls 5 [(0, .ref o), (1, .int x), (2, .int y)] := hl
  refine lv_iload_n hx hb d_X_bind_0 rfl (lv_at hl 1 rfl) ?_
  refine xk_sQ (rest := []) (c_X_isConnection l g B o lim σ x) gd_X_X_isConnection hd_X_isConnection hC hW hX hS trivial (by omega) (by omega) (by omega) (by omega) hl.1 rfl (Nat.le_of_ble_eq_true rfl) d_X_bind_1 (fun v8 H locs hv hX hS hF => ?_)
  obtain rfl := hv
  refine lv_if_eq (tgt := 20) hx hb d_X_bind_4 (by decide) (fun c_1 => ?_) (fun c_1 => ?_)
  · have c_1 := xs_b0 c_1
    refine lv_iconst (v := 0) hx hb d_X_bind_20 (by decide) ?_
    refine xk_sX (rest := []) (c_X_checkArgument_0 l hsl g B o lim σ) gd_X_X_checkArgument hd_X_checkArgument hC hW hX hS trivial (by omega) (by omega) (by omega) (by omega) hl.1 rfl (Nat.le_of_ble_eq_true rfl) d_X_bind_21 (fun ce9 q9 H locs hX hS e1 e2 e3 => ?_)
    exact xr_FX hC hxt hW hX hS (by omega) (by omega) e1 e2 e3 (k := 0) (v := 0) (by simp only [xp_bind, xp_bind1, c_1, if_true, if_false, reduceIte, Bool.false_eq_true, Bool.true_eq_false, and_true, true_and, and_false, false_and, or_true, true_or, or_false, false_or, not_true_eq_false, not_false_eq_true] <;> rfl) rfl
  · have c_1 := xs_b1 c_1
    refine lv_iload_n hx hb d_X_bind_7 rfl (lv_at hl 2 rfl) ?_
    refine lv_if_lt (tgt := 20) hx hb d_X_bind_8 (by decide) (fun c_2 => ?_) (fun c_2 => ?_)
    · refine lv_iconst (v := 0) hx hb d_X_bind_20 (by decide) ?_
      refine xk_sX (rest := []) (c_X_checkArgument_0 l hsl g B o lim σ) gd_X_X_checkArgument hd_X_checkArgument hC hW hX hS trivial (by omega) (by omega) (by omega) (by omega) hl.1 rfl (Nat.le_of_ble_eq_true rfl) d_X_bind_21 (fun ce9 q9 H locs hX hS e1 e2 e3 => ?_)
      exact xr_FX hC hxt hW hX hS (by omega) (by omega) e1 e2 e3 (k := 0) (v := 0) (by simp only [xp_bind, xp_bind1, c_1, c_2, if_true, if_false, reduceIte, Bool.false_eq_true, Bool.true_eq_false, and_true, true_and, and_false, false_and, or_true, true_or, or_false, false_or, not_true_eq_false, not_false_eq_true] <;> rfl) rfl
    · refine lv_iload_n hx hb d_X_bind_11 rfl (lv_at hl 2 rfl) ?_
      refine lv_iconst (v := 3) hx hb d_X_bind_12 (by decide) ?_
      refine lv_icmp_ge (tgt := 20) hx hb d_X_bind_13 (by decide) (fun c_3 => ?_) (fun c_3 => ?_)
      · refine lv_iconst (v := 0) hx hb d_X_bind_20 (by decide) ?_
        refine xk_sX (rest := []) (c_X_checkArgument_0 l hsl g B o lim σ) gd_X_X_checkArgument hd_X_checkArgument hC hW hX hS trivial (by omega) (by omega) (by omega) (by omega) hl.1 rfl (Nat.le_of_ble_eq_true rfl) d_X_bind_21 (fun ce9 q9 H locs hX hS e1 e2 e3 => ?_)
        exact xr_FX hC hxt hW hX hS (by omega) (by omega) e1 e2 e3 (k := 0) (v := 0) (by simp only [xp_bind, xp_bind1, c_1, c_2, c_3, if_true, if_false, reduceIte, Bool.false_eq_true, Bool.true_eq_false, and_true, true_and, and_false, false_and, or_true, true_or, or_false, false_or, not_true_eq_false, not_false_eq_true] <;> rfl) rfl
      · refine lv_iconst (v := 1) hx hb d_X_bind_16 (by decide) ?_
        refine lv_goto (tgt := 21) hx hb d_X_bind_17 (by decide) ?_
        refine xk_sV (rest := []) (c_X_checkArgument_1 l g B o lim σ) gd_X_X_checkArgument hd_X_checkArgument hC hW hX hS trivial (by omega) (by omega) (by omega) (by omega) hl.1 rfl (Nat.le_of_ble_eq_true rfl) d_X_bind_21 (fun H locs hX hS hF => ?_)
        refine lv_aload_n hx hb d_X_bind_24 rfl (lv_at hl 0 rfl) ?_
        obtain ⟨v9, hXo, hXl⟩ := hX.1
        refine gf_X_X_connections hx hb hts hown hK hXo rfl d_X_bind_25 ?_
        refine lv_iload_n hx hb d_X_bind_28 rfl (lv_at hl 1 rfl) ?_
        refine xb_aald (v := o + 36 + 3 * (xs_ix x)) hx hb hK 1 rfl hX.2.2.1 (xm_in6t c_1) rfl d_X_bind_29 ?_
        refine lv_astore_n (lv' := [(3, .ref (o + 36 + 3 * (xs_ix x))), (0, .ref o), (1, .int x), (2, .int y)]) hx hb d_X_bind_30 rfl hl (by decide) rfl (fun ls hl => ?_)
        refine lv_aload_n hx hb d_X_bind_31 rfl (lv_at hl 0 rfl) ?_
        refine gf_X_C_stage hx hb hts hown hK (hX.2.2.2.2.2.1 (xs_ix x) (xs_ixl (xm_in6t c_1))) rfl d_X_bind_32 ?_
        refine lv_iconst (v := 3) hx hb d_X_bind_35 (by decide) ?_
        refine lv_icmp_ne (tgt := 43) hx hb d_X_bind_36 (by decide) (fun c_4 => ?_) (fun c_4 => ?_)
        · refine lv_iconst (v := 0) hx hb d_X_bind_43 (by decide) ?_
          refine xk_sX (rest := []) (c_X_checkState_0 l hsl g B o lim σ) gd_X_X_checkState hd_X_checkState hC hW hX hS trivial (by omega) (by omega) (by omega) (by omega) hl.1 rfl (Nat.le_of_ble_eq_true rfl) d_X_bind_44 (fun ce9 q9 H locs hX hS e1 e2 e3 => ?_)
          exact xr_FX hC hxt hW hX hS (by omega) (by omega) e1 e2 e3 (k := 1) (v := 0) (by simp only [xp_bind, xp_bind1, c_1, c_2, c_3, c_4, if_true, if_false, reduceIte, Bool.false_eq_true, Bool.true_eq_false, and_true, true_and, and_false, false_and, or_true, true_or, or_false, false_or, not_true_eq_false, not_false_eq_true] <;> rfl) rfl
        · refine lv_iconst (v := 1) hx hb d_X_bind_39 (by decide) ?_
          refine lv_goto (tgt := 44) hx hb d_X_bind_40 (by decide) ?_
          refine xk_sV (rest := []) (c_X_checkState_1 l g B o lim σ) gd_X_X_checkState hd_X_checkState hC hW hX hS trivial (by omega) (by omega) (by omega) (by omega) hl.1 rfl (Nat.le_of_ble_eq_true rfl) d_X_bind_44 (fun H locs hX hS hF => ?_)
          refine lv_aload_n hx hb d_X_bind_47 rfl (lv_at hl 1 rfl) ?_
          refine lv_aload_n hx hb d_X_bind_48 rfl (lv_at hl 0 rfl) ?_
          refine gf_X_C_account hx hb hts hown hK (hX.2.2.2.2.2.1 (xs_ix x) (xs_ixl (xm_in6t c_1))) rfl d_X_bind_49 ?_
          refine lv_iload_n hx hb d_X_bind_52 rfl (lv_at hl 3 rfl) ?_
          obtain ⟨v9, hXo, hXl⟩ := hX.1
          refine xk_iQ (rest := []) (c_X_boundWith l g B o lim σ ((xs_cn σ (xs_ix x)).2.1) y) gd_X_X_boundWith hd_X_boundWith hC hW hX hS (xb_recv hK (ci := xi_X) rfl hXo) trivial (by omega) (by omega) (by omega) (by omega) hl.1 rfl (Nat.le_of_ble_eq_true rfl) d_X_bind_53 (fun v8 H locs hv hX hS hF => ?_)
          cases hbw : xm_bw 6 0 σ ((xs_cn σ (xs_ix x)).2.1) y with
          | none =>
            rw [hbw] at hv
            obtain rfl : v8 = .null := hv
            refine lv_astoreN (lv' := [(4, .null), (3, .ref (o + 36 + 3 * (xs_ix x))), (0, .ref o), (1, .int x), (2, .int y)]) hx hb d_X_bind_56 hl (by decide) rfl (fun ls hl => ?_)
            refine lv_aloadN hx hb d_X_bind_58 (lv_at hl 0 rfl) ?_
            refine lv_ifnullN (tgt := 69) hx hb d_X_bind_60 (by decide) ?_
            refine lv_aload_n hx hb d_X_bind_69 rfl (lv_at hl 1 rfl) ?_
            refine lv_iconst (v := 4) hx hb d_X_bind_70 (by decide) ?_
            refine pf_X_C_stage hx hb hts hown hK hX hS (xs_ixl (xm_in6t c_1)) d_X_bind_71 (fun H locs hX hS hF => ?_)
            refine lv_aload_n hx hb d_X_bind_74 rfl (lv_at hl 1 rfl) ?_
            refine lv_iload_n hx hb d_X_bind_75 rfl (lv_at hl 4 rfl) ?_
            refine pf_X_C_resource hx hb hts hown hK hX hS (xs_ixl (xm_in6t c_1)) d_X_bind_76 (fun H locs hX hS hF => ?_)
            refine lv_aloadN hx hb d_X_bind_79 (lv_at hl 0 rfl) ?_
            refine lv_ifnullN (tgt := 88) hx hb d_X_bind_81 (by decide) ?_
            refine lv_iconst (v := 0) hx hb d_X_bind_88 (by decide) ?_
            exact xr_F hC hW hX hS (by omega) (by omega) (by simp only [xp_bind, xp_bind1, c_1, c_2, c_3, c_4, hbw, xs_cn_scn, xs_nx_scn, xs_up_scn, xs_lt_scn, xs_q_scn, xs_ac_scn, xs_mk_scn, xs_ac_sac, xs_sac_sac, xs_nx_sg, xs_up_sg, xs_lt_sg, xs_cn_sg, xs_q_sg, if_true, if_false, reduceIte, Bool.false_eq_true, Bool.true_eq_false, and_true, true_and, and_false, false_and, or_true, true_or, or_false, false_or, not_true_eq_false, not_false_eq_true] <;> rfl) d_X_bind_89
          | some ib =>
            rw [hbw] at hv
            obtain ⟨rfl, hib⟩ : v8 = .ref (o + 36 + 3 * ib) ∧ ib < 6 := hv
            refine lv_astore (lv' := [(4, .ref (o + 36 + 3 * ib)), (3, .ref (o + 36 + 3 * (xs_ix x))), (0, .ref o), (1, .int x), (2, .int y)]) hx hb d_X_bind_56 hl (by decide) rfl (fun ls hl => ?_)
            refine lv_aload hx hb d_X_bind_58 (lv_at hl 0 rfl) ?_
            refine lv_ifnull hx hb d_X_bind_60 ?_
            refine lv_aload_n hx hb d_X_bind_63 rfl (lv_at hl 2 rfl) ?_
            refine lv_aload hx hb d_X_bind_64 (lv_at hl 0 rfl) ?_
            obtain ⟨v9, hXo, hXl⟩ := hX.1
            refine xk_iV (rest := []) (c_X_shut l g B o lim σ ib hib (fun h => hwf.2.1 ib hib (Or.inr (Or.inr (hwf.1 ib hib h))))) gd_X_X_shut hd_X_shut hC hW hX hS (xb_recv hK (ci := xi_X) rfl hXo) trivial (by omega) (by omega) (by omega) (by omega) hl.1 rfl (Nat.le_of_ble_eq_true rfl) d_X_bind_66 (fun H locs hX hS hF => ?_)
            refine lv_aload_n hx hb d_X_bind_69 rfl (lv_at hl 1 rfl) ?_
            refine lv_iconst (v := 4) hx hb d_X_bind_70 (by decide) ?_
            refine pf_X_C_stage hx hb hts hown hK hX hS (xs_ixl (xm_in6t c_1)) d_X_bind_71 (fun H locs hX hS hF => ?_)
            refine lv_aload_n hx hb d_X_bind_74 rfl (lv_at hl 1 rfl) ?_
            refine lv_iload_n hx hb d_X_bind_75 rfl (lv_at hl 4 rfl) ?_
            refine pf_X_C_resource hx hb hts hown hK hX hS (xs_ixl (xm_in6t c_1)) d_X_bind_76 (fun H locs hX hS hF => ?_)
            refine lv_aload hx hb d_X_bind_79 (lv_at hl 0 rfl) ?_
            refine lv_ifnull hx hb d_X_bind_81 ?_
            refine lv_iconst (v := 1) hx hb d_X_bind_84 (by decide) ?_
            refine lv_goto (tgt := 89) hx hb d_X_bind_85 (by decide) ?_
            exact xr_F hC hW hX hS (by omega) (by omega) (by simp only [xp_bind, xp_bind1, c_1, c_2, c_3, c_4, hbw, xs_cn_scn, xs_nx_scn, xs_up_scn, xs_lt_scn, xs_q_scn, xs_ac_scn, xs_mk_scn, xs_ac_sac, xs_sac_sac, xs_nx_sg, xs_up_sg, xs_lt_sg, xs_cn_sg, xs_q_sg, if_true, if_false, reduceIte, Bool.false_eq_true, Bool.true_eq_false, and_true, true_and, and_false, false_and, or_true, true_or, or_false, false_or, not_true_eq_false, not_false_eq_true] <;> rfl) d_X_bind_89
set_option maxHeartbeats 4000000 in
set_option maxRecDepth 100000 in
theorem c_X_here (l : Launch) (hsl : l.stackTraces = false) (g : xw_G) (B : Nat → Prop) (o lim : Nat) (σ : xs_S) (x : Int32) (y : Int32) (hwf : xm_wf σ) : xc_F l y_X_here (Cond.code y_X_here b_X_here 5 (some .int)) g B o lim σ (xp_here σ x y) [.ref o, .int x, .int y] 7 157 66 396 := by
  refine xh_F (own := R_X) (by decide) rfl (Nat.le_of_ble_eq_true rfl) ?_
  intro p e R s m below meth c ls hRf hRl hRc hRs hxt hC hW hl
  obtain ⟨hx, hb, hml, hr, hown, hts, hlk⟩ := id hC
  have hX := hW.1
  have hK := hW.2.1
  have hS : va_S (xw_A o s.heap.size) s.heap s.heap [] := va_S.rf
  have hl : lv_has ls 5 [(0, .ref o), (1, .int x), (2, .int y)] := hl
  refine lv_iload_n hx hb d_X_here_0 rfl (lv_at hl 1 rfl) ?_
  refine xk_sQ (rest := []) (c_X_isConnection l g B o lim σ x) gd_X_X_isConnection hd_X_isConnection hC hW hX hS trivial (by omega) (by omega) (by omega) (by omega) hl.1 rfl (Nat.le_of_ble_eq_true rfl) d_X_here_1 (fun v8 H locs hv hX hS hF => ?_)
  obtain rfl := hv
  refine lv_if_eq (tgt := 22) hx hb d_X_here_4 (by decide) (fun c_1 => ?_) (fun c_1 => ?_)
  · have c_1 := xs_b0 c_1
    refine lv_iconst (v := 0) hx hb d_X_here_22 (by decide) ?_
    refine xk_sX (rest := []) (c_X_checkArgument_0 l hsl g B o lim σ) gd_X_X_checkArgument hd_X_checkArgument hC hW hX hS trivial (by omega) (by omega) (by omega) (by omega) hl.1 rfl (Nat.le_of_ble_eq_true rfl) d_X_here_23 (fun ce9 q9 H locs hX hS e1 e2 e3 => ?_)
    exact xr_FX hC hxt hW hX hS (by omega) (by omega) e1 e2 e3 (k := 0) (v := 0) (by simp only [xp_here, xp_here1, xp_here2, xp_here3, xs_cn_stw, xs_cn_so, xm_spr_ac, xm_sav_ac, c_1, if_true, if_false, reduceIte, Bool.false_eq_true, Bool.true_eq_false, and_true, true_and, and_false, false_and, or_true, true_or, or_false, false_or, not_true_eq_false, not_false_eq_true] <;> rfl) rfl
  · have c_1 := xs_b1 c_1
    refine lv_iload_n hx hb d_X_here_7 rfl (lv_at hl 2 rfl) ?_
    refine lv_bipush (v := (-3)) hx hb d_X_here_8 (by decide) ?_
    refine lv_icmp_lt (tgt := 22) hx hb d_X_here_10 (by decide) (fun c_2 => ?_) (fun c_2 => ?_)
    · refine lv_iconst (v := 0) hx hb d_X_here_22 (by decide) ?_
      refine xk_sX (rest := []) (c_X_checkArgument_0 l hsl g B o lim σ) gd_X_X_checkArgument hd_X_checkArgument hC hW hX hS trivial (by omega) (by omega) (by omega) (by omega) hl.1 rfl (Nat.le_of_ble_eq_true rfl) d_X_here_23 (fun ce9 q9 H locs hX hS e1 e2 e3 => ?_)
      exact xr_FX hC hxt hW hX hS (by omega) (by omega) e1 e2 e3 (k := 0) (v := 0) (by simp only [xp_here, xp_here1, xp_here2, xp_here3, xs_cn_stw, xs_cn_so, xm_spr_ac, xm_sav_ac, c_1, c_2, if_true, if_false, reduceIte, Bool.false_eq_true, Bool.true_eq_false, and_true, true_and, and_false, false_and, or_true, true_or, or_false, false_or, not_true_eq_false, not_false_eq_true] <;> rfl) rfl
    · refine lv_iload_n hx hb d_X_here_13 rfl (lv_at hl 2 rfl) ?_
      refine lv_iconst (v := 3) hx hb d_X_here_14 (by decide) ?_
      refine lv_icmp_gt (tgt := 22) hx hb d_X_here_15 (by decide) (fun c_3 => ?_) (fun c_3 => ?_)
      · refine lv_iconst (v := 0) hx hb d_X_here_22 (by decide) ?_
        refine xk_sX (rest := []) (c_X_checkArgument_0 l hsl g B o lim σ) gd_X_X_checkArgument hd_X_checkArgument hC hW hX hS trivial (by omega) (by omega) (by omega) (by omega) hl.1 rfl (Nat.le_of_ble_eq_true rfl) d_X_here_23 (fun ce9 q9 H locs hX hS e1 e2 e3 => ?_)
        exact xr_FX hC hxt hW hX hS (by omega) (by omega) e1 e2 e3 (k := 0) (v := 0) (by simp only [xp_here, xp_here1, xp_here2, xp_here3, xs_cn_stw, xs_cn_so, xm_spr_ac, xm_sav_ac, c_1, c_2, c_3, if_true, if_false, reduceIte, Bool.false_eq_true, Bool.true_eq_false, and_true, true_and, and_false, false_and, or_true, true_or, or_false, false_or, not_true_eq_false, not_false_eq_true] <;> rfl) rfl
      · refine lv_iconst (v := 1) hx hb d_X_here_18 (by decide) ?_
        refine lv_goto (tgt := 23) hx hb d_X_here_19 (by decide) ?_
        refine xk_sV (rest := []) (c_X_checkArgument_1 l g B o lim σ) gd_X_X_checkArgument hd_X_checkArgument hC hW hX hS trivial (by omega) (by omega) (by omega) (by omega) hl.1 rfl (Nat.le_of_ble_eq_true rfl) d_X_here_23 (fun H locs hX hS hF => ?_)
        refine lv_aload_n hx hb d_X_here_26 rfl (lv_at hl 0 rfl) ?_
        obtain ⟨v9, hXo, hXl⟩ := hX.1
        refine gf_X_X_connections hx hb hts hown hK hXo rfl d_X_here_27 ?_
        refine lv_iload_n hx hb d_X_here_30 rfl (lv_at hl 1 rfl) ?_
        refine xb_aald (v := o + 36 + 3 * (xs_ix x)) hx hb hK 1 rfl hX.2.2.1 (xm_in6t c_1) rfl d_X_here_31 ?_
        refine lv_astore_n (lv' := [(3, .ref (o + 36 + 3 * (xs_ix x))), (0, .ref o), (1, .int x), (2, .int y)]) hx hb d_X_here_32 rfl hl (by decide) rfl (fun ls hl => ?_)
        refine lv_aload_n hx hb d_X_here_33 rfl (lv_at hl 0 rfl) ?_
        refine gf_X_C_stage hx hb hts hown hK (hX.2.2.2.2.2.1 (xs_ix x) (xs_ixl (xm_in6t c_1))) rfl d_X_here_34 ?_
        refine lv_iconst (v := 4) hx hb d_X_here_37 (by decide) ?_
        refine lv_icmp_ne (tgt := 45) hx hb d_X_here_38 (by decide) (fun c_4 => ?_) (fun c_4 => ?_)
        · refine lv_iconst (v := 0) hx hb d_X_here_45 (by decide) ?_
          refine xk_sX (rest := []) (c_X_checkState_0 l hsl g B o lim σ) gd_X_X_checkState hd_X_checkState hC hW hX hS trivial (by omega) (by omega) (by omega) (by omega) hl.1 rfl (Nat.le_of_ble_eq_true rfl) d_X_here_46 (fun ce9 q9 H locs hX hS e1 e2 e3 => ?_)
          exact xr_FX hC hxt hW hX hS (by omega) (by omega) e1 e2 e3 (k := 1) (v := 0) (by simp only [xp_here, xp_here1, xp_here2, xp_here3, xs_cn_stw, xs_cn_so, xm_spr_ac, xm_sav_ac, c_1, c_2, c_3, c_4, if_true, if_false, reduceIte, Bool.false_eq_true, Bool.true_eq_false, and_true, true_and, and_false, false_and, or_true, true_or, or_false, false_or, not_true_eq_false, not_false_eq_true] <;> rfl) rfl
        · refine lv_iconst (v := 1) hx hb d_X_here_41 (by decide) ?_
          refine lv_goto (tgt := 46) hx hb d_X_here_42 (by decide) ?_
          refine xk_sV (rest := []) (c_X_checkState_1 l g B o lim σ) gd_X_X_checkState hd_X_checkState hC hW hX hS trivial (by omega) (by omega) (by omega) (by omega) hl.1 rfl (Nat.le_of_ble_eq_true rfl) d_X_here_46 (fun H locs hX hS hF => ?_)
          have hvac := hwf.2.1 _ (xs_ixl (xm_in6t c_1)) (Or.inr (Or.inr c_4))
          refine lv_aload_n hx hb d_X_here_49 rfl (lv_at hl 0 rfl) ?_
          refine gf_X_C_available hx hb hts hown hK (hX.2.2.2.2.2.1 (xs_ix x) (xs_ixl (xm_in6t c_1))) rfl d_X_here_50 ?_
          refine lv_istore (lv' := [(4, .int (xs_b (xs_cn σ (xs_ix x)).2.2.2.2.2)), (3, .ref (o + 36 + 3 * (xs_ix x))), (0, .ref o), (1, .int x), (2, .int y)]) hx hb d_X_here_53 hl (by decide) rfl (fun ls hl => ?_)
          refine lv_aload_n hx hb d_X_here_55 rfl (lv_at hl 1 rfl) ?_
          refine lv_iconst (v := 1) hx hb d_X_here_56 (by decide) ?_
          refine pf_X_C_available (b := true) hx hb hts hown hK hX hS (xs_ixl (xm_in6t c_1)) d_X_here_57 (fun H locs hX hS hF => ?_)
          refine lv_aload_n hx hb d_X_here_60 rfl (lv_at hl 1 rfl) ?_
          refine lv_iload_n hx hb d_X_here_61 rfl (lv_at hl 4 rfl) ?_
          refine pf_X_C_priority hx hb hts hown hK hX hS (xs_ixl (xm_in6t c_1)) d_X_here_62 (fun H locs hX hS hF => ?_)
          refine lv_aload_n hx hb d_X_here_65 rfl (lv_at hl 2 rfl) ?_
          refine lv_aload_n hx hb d_X_here_66 rfl (lv_at hl 1 rfl) ?_
          refine lv_iconst (v := 2) hx hb d_X_here_67 (by decide) ?_
          obtain ⟨v9, hXo, hXl⟩ := hX.1
          refine xk_iV (rest := []) (c_X_sendToWatchers l g B o lim (xm_spr (xm_sav σ (xs_ix x) true) (xs_ix x) y) (xs_ix x) (xs_ixl (xm_in6t c_1)) 2 (by simp only [xs_cn_stw, xs_cn_so, xm_spr_ac, xm_sav_ac]; exact hvac)) gd_X_X_sendToWatchers hd_X_sendToWatchers hC hW hX hS (xb_recv hK (ci := xi_X) rfl hXo) trivial (by omega) (by omega) (by omega) (by omega) hl.1 rfl (Nat.le_of_ble_eq_true rfl) d_X_here_68 (fun H locs hX hS hF => ?_)
          refine lv_iload hx hb d_X_here_71 (lv_at hl 0 rfl) ?_
          refine lv_if_ne (tgt := 90) hx hb d_X_here_73 (by decide) (fun c_5 => ?_) (fun c_5 => ?_)
          · have c_5 := xs_b1 c_5
            refine lv_aload_n hx hb d_X_here_90 rfl (lv_at hl 1 rfl) ?_
            refine gf_X_C_inbox hx hb hts hown hK (hX.2.2.2.2.2.1 (xs_ix x) (xs_ixl (xm_in6t c_1))) rfl d_X_here_91 ?_
            obtain ⟨f9, hq9, hl9, hz9⟩ := hX.2.2.2.2.2.2.1 (8 + (xs_ix x)) (xs_8 (xs_ixl (xm_in6t c_1)))
            refine gf_X_Q_size hx hb hts hown hK hq9.1 rfl d_X_here_94 ?_
            exact xr_F hC hW hX hS (by omega) (by omega) (by simp only [xp_here, xp_here1, xp_here2, xp_here3, xs_cn_stw, xs_cn_so, xm_spr_ac, xm_sav_ac, c_1, c_2, c_3, c_4, c_5, xs_cn_scn, xs_nx_scn, xs_up_scn, xs_lt_scn, xs_q_scn, xs_ac_scn, xs_mk_scn, xs_ac_sac, xs_sac_sac, xs_nx_sg, xs_up_sg, xs_lt_sg, xs_cn_sg, xs_q_sg, if_true, if_false, reduceIte, Bool.false_eq_true, Bool.true_eq_false, and_true, true_and, and_false, false_and, or_true, true_or, or_false, false_or, not_true_eq_false, not_false_eq_true] <;> rfl) d_X_here_97
          · have c_5 := xs_b0 c_5
            refine lv_aload_n hx hb d_X_here_76 rfl (lv_at hl 2 rfl) ?_
            refine lv_aload_n hx hb d_X_here_77 rfl (lv_at hl 1 rfl) ?_
            obtain ⟨v9, hXo, hXl⟩ := hX.1
            refine xk_iV (rest := []) (c_X_showOthers l g B o lim (xm_stw 8 0 (xm_spr (xm_sav σ (xs_ix x) true) (xs_ix x) y) (xs_ix (xs_cn (xm_spr (xm_sav σ (xs_ix x) true) (xs_ix x) y) (xs_ix x)).2.1) (xs_ix x) 2) (xs_ix x) (xs_ixl (xm_in6t c_1)) (by simp only [xs_cn_stw, xs_cn_so, xm_spr_ac, xm_sav_ac]; exact hvac)) gd_X_X_showOthers hd_X_showOthers hC hW hX hS (xb_recv hK (ci := xi_X) rfl hXo) trivial (by omega) (by omega) (by omega) (by omega) hl.1 rfl (Nat.le_of_ble_eq_true rfl) d_X_here_78 (fun H locs hX hS hF => ?_)
            refine lv_iload_n hx hb d_X_here_81 rfl (lv_at hl 4 rfl) ?_
            refine lv_if_lt (tgt := 90) hx hb d_X_here_82 (by decide) (fun c_6 => ?_) (fun c_6 => ?_)
            · refine lv_aload_n hx hb d_X_here_90 rfl (lv_at hl 1 rfl) ?_
              refine gf_X_C_inbox hx hb hts hown hK (hX.2.2.2.2.2.1 (xs_ix x) (xs_ixl (xm_in6t c_1))) rfl d_X_here_91 ?_
              obtain ⟨f9, hq9, hl9, hz9⟩ := hX.2.2.2.2.2.2.1 (8 + (xs_ix x)) (xs_8 (xs_ixl (xm_in6t c_1)))
              refine gf_X_Q_size hx hb hts hown hK hq9.1 rfl d_X_here_94 ?_
              exact xr_F hC hW hX hS (by omega) (by omega) (by simp only [xp_here, xp_here1, xp_here2, xp_here3, xs_cn_stw, xs_cn_so, xm_spr_ac, xm_sav_ac, c_1, c_2, c_3, c_4, c_5, c_6, xs_cn_scn, xs_nx_scn, xs_up_scn, xs_lt_scn, xs_q_scn, xs_ac_scn, xs_mk_scn, xs_ac_sac, xs_sac_sac, xs_nx_sg, xs_up_sg, xs_lt_sg, xs_cn_sg, xs_q_sg, if_true, if_false, reduceIte, Bool.false_eq_true, Bool.true_eq_false, and_true, true_and, and_false, false_and, or_true, true_or, or_false, false_or, not_true_eq_false, not_false_eq_true] <;> rfl) d_X_here_97
            · refine lv_aload_n hx hb d_X_here_85 rfl (lv_at hl 2 rfl) ?_
              refine lv_aload_n hx hb d_X_here_86 rfl (lv_at hl 1 rfl) ?_
              obtain ⟨v9, hXo, hXl⟩ := hX.1
              refine xk_iV (rest := []) (c_X_handOverKept l g B o lim (xm_so 8 0 (xm_stw 8 0 (xm_spr (xm_sav σ (xs_ix x) true) (xs_ix x) y) (xs_ix (xs_cn (xm_spr (xm_sav σ (xs_ix x) true) (xs_ix x) y) (xs_ix x)).2.1) (xs_ix x) 2) (xs_ix (xs_cn (xm_stw 8 0 (xm_spr (xm_sav σ (xs_ix x) true) (xs_ix x) y) (xs_ix (xs_cn (xm_spr (xm_sav σ (xs_ix x) true) (xs_ix x) y) (xs_ix x)).2.1) (xs_ix x) 2) (xs_ix x)).2.1) (xs_ix x)) (xs_ix x) (xs_ixl (xm_in6t c_1)) (by simp only [xs_cn_stw, xs_cn_so, xm_spr_ac, xm_sav_ac]; exact hvac)) gd_X_X_handOverKept hd_X_handOverKept hC hW hX hS (xb_recv hK (ci := xi_X) rfl hXo) trivial (by omega) (by omega) (by omega) (by omega) hl.1 rfl (Nat.le_of_ble_eq_true rfl) d_X_here_87 (fun H locs hX hS hF => ?_)
              refine lv_aload_n hx hb d_X_here_90 rfl (lv_at hl 1 rfl) ?_
              refine gf_X_C_inbox hx hb hts hown hK (hX.2.2.2.2.2.1 (xs_ix x) (xs_ixl (xm_in6t c_1))) rfl d_X_here_91 ?_
              obtain ⟨f9, hq9, hl9, hz9⟩ := hX.2.2.2.2.2.2.1 (8 + (xs_ix x)) (xs_8 (xs_ixl (xm_in6t c_1)))
              refine gf_X_Q_size hx hb hts hown hK hq9.1 rfl d_X_here_94 ?_
              exact xr_F hC hW hX hS (by omega) (by omega) (by simp only [xp_here, xp_here1, xp_here2, xp_here3, xs_cn_stw, xs_cn_so, xm_spr_ac, xm_sav_ac, c_1, c_2, c_3, c_4, c_5, c_6, xs_cn_scn, xs_nx_scn, xs_up_scn, xs_lt_scn, xs_q_scn, xs_ac_scn, xs_mk_scn, xs_ac_sac, xs_sac_sac, xs_nx_sg, xs_up_sg, xs_lt_sg, xs_cn_sg, xs_q_sg, if_true, if_false, reduceIte, Bool.false_eq_true, Bool.true_eq_false, and_true, true_and, and_false, false_and, or_true, true_or, or_false, false_or, not_true_eq_false, not_false_eq_true] <;> rfl) d_X_here_97
set_option maxHeartbeats 4000000 in
set_option maxRecDepth 100000 in
theorem c_X_gone (l : Launch) (hsl : l.stackTraces = false) (g : xw_G) (B : Nat → Prop) (o lim : Nat) (σ : xs_S) (x : Int32) (hwf : xm_wf σ) : xc_F l y_X_gone (Cond.code y_X_gone b_X_gone 3 (some .int)) g B o lim σ (xp_gone σ x) [.ref o, .int x] 7 157 18 108 := by
  refine xh_F (own := R_X) (by decide) rfl (Nat.le_of_ble_eq_true rfl) ?_
  intro p e R s m below meth c ls hRf hRl hRc hRs hxt hC hW hl
  obtain ⟨hx, hb, hml, hr, hown, hts, hlk⟩ := id hC
  have hX := hW.1
  have hK := hW.2.1
  have hS : va_S (xw_A o s.heap.size) s.heap s.heap [] := va_S.rf
  have hl : lv_has ls 3 [(0, .ref o), (1, .int x)] := hl
  refine lv_iload_n hx hb d_X_gone_0 rfl (lv_at hl 1 rfl) ?_
  refine xk_sQ (rest := []) (c_X_isConnection l g B o lim σ x) gd_X_X_isConnection hd_X_isConnection hC hW hX hS trivial (by omega) (by omega) (by omega) (by omega) hl.1 rfl (Nat.le_of_ble_eq_true rfl) d_X_gone_1 (fun v8 H locs hv hX hS hF => ?_)
  obtain rfl := hv
  cases c_1 : (xm_in6 x) with
  | false =>
    refine xk_sX (rest := []) (c_X_checkArgument_0 l hsl g B o lim σ) gd_X_X_checkArgument hd_X_checkArgument hC hW hX hS trivial (by omega) (by omega) (by omega) (by omega) hl.1 rfl (Nat.le_of_ble_eq_true rfl) d_X_gone_4 (fun ce9 q9 H locs hX hS e1 e2 e3 => ?_)
    exact xr_FX hC hxt hW hX hS (by omega) (by omega) e1 e2 e3 (k := 0) (v := 0) (by simp only [xp_gone, xm_sav_ac, c_1, if_true, if_false, reduceIte, Bool.false_eq_true, Bool.true_eq_false, and_true, true_and, and_false, false_and, or_true, true_or, or_false, false_or, not_true_eq_false, not_false_eq_true] <;> rfl) rfl
  | true =>
    refine xk_sV (rest := []) (c_X_checkArgument_1 l g B o lim σ) gd_X_X_checkArgument hd_X_checkArgument hC hW hX hS trivial (by omega) (by omega) (by omega) (by omega) hl.1 rfl (Nat.le_of_ble_eq_true rfl) d_X_gone_4 (fun H locs hX hS hF => ?_)
    refine lv_aload_n hx hb d_X_gone_7 rfl (lv_at hl 0 rfl) ?_
    obtain ⟨v9, hXo, hXl⟩ := hX.1
    refine gf_X_X_connections hx hb hts hown hK hXo rfl d_X_gone_8 ?_
    refine lv_iload_n hx hb d_X_gone_11 rfl (lv_at hl 1 rfl) ?_
    refine xb_aald (v := o + 36 + 3 * (xs_ix x)) hx hb hK 1 rfl hX.2.2.1 (xm_in6t c_1) rfl d_X_gone_12 ?_
    refine lv_astore_n (lv' := [(2, .ref (o + 36 + 3 * (xs_ix x))), (0, .ref o), (1, .int x)]) hx hb d_X_gone_13 rfl hl (by decide) rfl (fun ls hl => ?_)
    refine lv_aload_n hx hb d_X_gone_14 rfl (lv_at hl 0 rfl) ?_
    refine gf_X_C_available hx hb hts hown hK (hX.2.2.2.2.2.1 (xs_ix x) (xs_ixl (xm_in6t c_1))) rfl d_X_gone_15 ?_
    cases c_2 : (xs_cn σ (xs_ix x)).2.2.2.2.2 with
    | false =>
      refine xk_sX (rest := []) (c_X_checkState_0 l hsl g B o lim σ) gd_X_X_checkState hd_X_checkState hC hW hX hS trivial (by omega) (by omega) (by omega) (by omega) hl.1 rfl (Nat.le_of_ble_eq_true rfl) d_X_gone_18 (fun ce9 q9 H locs hX hS e1 e2 e3 => ?_)
      exact xr_FX hC hxt hW hX hS (by omega) (by omega) e1 e2 e3 (k := 1) (v := 0) (by simp only [xp_gone, xm_sav_ac, c_1, c_2, if_true, if_false, reduceIte, Bool.false_eq_true, Bool.true_eq_false, and_true, true_and, and_false, false_and, or_true, true_or, or_false, false_or, not_true_eq_false, not_false_eq_true] <;> rfl) rfl
    | true =>
      refine xk_sV (rest := []) (c_X_checkState_1 l g B o lim σ) gd_X_X_checkState hd_X_checkState hC hW hX hS trivial (by omega) (by omega) (by omega) (by omega) hl.1 rfl (Nat.le_of_ble_eq_true rfl) d_X_gone_18 (fun H locs hX hS hF => ?_)
      have hvac := hwf.2.1 _ (xs_ixl (xm_in6t c_1)) (Or.inr (Or.inr (hwf.1 _ (xs_ixl (xm_in6t c_1)) c_2)))
      refine lv_aload_n hx hb d_X_gone_21 rfl (lv_at hl 0 rfl) ?_
      refine lv_iconst (v := 0) hx hb d_X_gone_22 (by decide) ?_
      refine pf_X_C_available (b := false) hx hb hts hown hK hX hS (xs_ixl (xm_in6t c_1)) d_X_gone_23 (fun H locs hX hS hF => ?_)
      refine lv_aload_n hx hb d_X_gone_26 rfl (lv_at hl 1 rfl) ?_
      refine lv_aload_n hx hb d_X_gone_27 rfl (lv_at hl 0 rfl) ?_
      refine lv_iconst (v := 3) hx hb d_X_gone_28 (by decide) ?_
      obtain ⟨v9, hXo, hXl⟩ := hX.1
      refine xk_iV (rest := []) (c_X_sendToWatchers l g B o lim (xm_sav σ (xs_ix x) false) (xs_ix x) (xs_ixl (xm_in6t c_1)) 3 (by simp only [xs_cn_stw, xs_cn_so, xm_spr_ac, xm_sav_ac]; exact hvac)) gd_X_X_sendToWatchers hd_X_sendToWatchers hC hW hX hS (xb_recv hK (ci := xi_X) rfl hXo) trivial (by omega) (by omega) (by omega) (by omega) hl.1 rfl (Nat.le_of_ble_eq_true rfl) d_X_gone_29 (fun H locs hX hS hF => ?_)
      refine lv_iconst (v := 1) hx hb d_X_gone_32 (by decide) ?_
      exact xr_F hC hW hX hS (by omega) (by omega) (by simp only [xp_gone, xm_sav_ac, c_1, c_2, xs_cn_scn, xs_nx_scn, xs_up_scn, xs_lt_scn, xs_q_scn, xs_ac_scn, xs_mk_scn, xs_ac_sac, xs_sac_sac, xs_nx_sg, xs_up_sg, xs_lt_sg, xs_cn_sg, xs_q_sg, if_true, if_false, reduceIte, Bool.false_eq_true, Bool.true_eq_false, and_true, true_and, and_false, false_and, or_true, true_or, or_false, false_or, not_true_eq_false, not_false_eq_true] <;> rfl) d_X_gone_33
set_option maxHeartbeats 4000000 in
set_option maxRecDepth 100000 in
theorem c_X_close (l : Launch) (hsl : l.stackTraces = false) (g : xw_G) (B : Nat → Prop) (o lim : Nat) (σ : xs_S) (x : Int32) (hwf : xm_wf σ) : xc_F l y_X_close (Cond.code y_X_close b_X_close 4 (some .int)) g B o lim σ (xp_close σ x) [.ref o, .int x] 8 178 18 108 := by
  refine xh_F (own := R_X) (by decide) rfl (Nat.le_of_ble_eq_true rfl) ?_
  intro p e R s m below meth c ls hRf hRl hRc hRs hxt hC hW hl
  obtain ⟨hx, hb, hml, hr, hown, hts, hlk⟩ := id hC
  have hX := hW.1
  have hK := hW.2.1
  have hS : va_S (xw_A o s.heap.size) s.heap s.heap [] := va_S.rf
  have hl : lv_has ls 4 [(0, .ref o), (1, .int x)] := hl
  refine lv_iload_n hx hb d_X_close_0 rfl (lv_at hl 1 rfl) ?_
  refine xk_sQ (rest := []) (c_X_isConnection l g B o lim σ x) gd_X_X_isConnection hd_X_isConnection hC hW hX hS trivial (by omega) (by omega) (by omega) (by omega) hl.1 rfl (Nat.le_of_ble_eq_true rfl) d_X_close_1 (fun v8 H locs hv hX hS hF => ?_)
  obtain rfl := hv
  cases c_1 : (xm_in6 x) with
  | false =>
    refine xk_sX (rest := []) (c_X_checkArgument_0 l hsl g B o lim σ) gd_X_X_checkArgument hd_X_checkArgument hC hW hX hS trivial (by omega) (by omega) (by omega) (by omega) hl.1 rfl (Nat.le_of_ble_eq_true rfl) d_X_close_4 (fun ce9 q9 H locs hX hS e1 e2 e3 => ?_)
    exact xr_FX hC hxt hW hX hS (by omega) (by omega) e1 e2 e3 (k := 0) (v := 0) (by simp only [xp_close, c_1, if_true, if_false, reduceIte, Bool.false_eq_true, Bool.true_eq_false, and_true, true_and, and_false, false_and, or_true, true_or, or_false, false_or, not_true_eq_false, not_false_eq_true] <;> rfl) rfl
  | true =>
    refine xk_sV (rest := []) (c_X_checkArgument_1 l g B o lim σ) gd_X_X_checkArgument hd_X_checkArgument hC hW hX hS trivial (by omega) (by omega) (by omega) (by omega) hl.1 rfl (Nat.le_of_ble_eq_true rfl) d_X_close_4 (fun H locs hX hS hF => ?_)
    refine lv_aload_n hx hb d_X_close_7 rfl (lv_at hl 0 rfl) ?_
    obtain ⟨v9, hXo, hXl⟩ := hX.1
    refine gf_X_X_connections hx hb hts hown hK hXo rfl d_X_close_8 ?_
    refine lv_iload_n hx hb d_X_close_11 rfl (lv_at hl 1 rfl) ?_
    refine xb_aald (v := o + 36 + 3 * (xs_ix x)) hx hb hK 1 rfl hX.2.2.1 (xm_in6t c_1) rfl d_X_close_12 ?_
    refine lv_astore_n (lv' := [(2, .ref (o + 36 + 3 * (xs_ix x))), (0, .ref o), (1, .int x)]) hx hb d_X_close_13 rfl hl (by decide) rfl (fun ls hl => ?_)
    refine lv_aload_n hx hb d_X_close_14 rfl (lv_at hl 0 rfl) ?_
    refine gf_X_C_stage hx hb hts hown hK (hX.2.2.2.2.2.1 (xs_ix x) (xs_ixl (xm_in6t c_1))) rfl d_X_close_15 ?_
    refine lv_if_eq (tgt := 25) hx hb d_X_close_18 (by decide) (fun c_2 => ?_) (fun c_2 => ?_)
    · refine lv_iconst (v := 0) hx hb d_X_close_25 (by decide) ?_
      refine xk_sX (rest := []) (c_X_checkState_0 l hsl g B o lim σ) gd_X_X_checkState hd_X_checkState hC hW hX hS trivial (by omega) (by omega) (by omega) (by omega) hl.1 rfl (Nat.le_of_ble_eq_true rfl) d_X_close_26 (fun ce9 q9 H locs hX hS e1 e2 e3 => ?_)
      exact xr_FX hC hxt hW hX hS (by omega) (by omega) e1 e2 e3 (k := 1) (v := 0) (by simp only [xp_close, c_1, c_2, if_true, if_false, reduceIte, Bool.false_eq_true, Bool.true_eq_false, and_true, true_and, and_false, false_and, or_true, true_or, or_false, false_or, not_true_eq_false, not_false_eq_true] <;> rfl) rfl
    · refine lv_iconst (v := 1) hx hb d_X_close_21 (by decide) ?_
      refine lv_goto (tgt := 26) hx hb d_X_close_22 (by decide) ?_
      refine xk_sV (rest := []) (c_X_checkState_1 l g B o lim σ) gd_X_X_checkState hd_X_checkState hC hW hX hS trivial (by omega) (by omega) (by omega) (by omega) hl.1 rfl (Nat.le_of_ble_eq_true rfl) d_X_close_26 (fun H locs hX hS hF => ?_)
      refine lv_aload_n hx hb d_X_close_29 rfl (lv_at hl 0 rfl) ?_
      refine gf_X_C_stage hx hb hts hown hK (hX.2.2.2.2.2.1 (xs_ix x) (xs_ixl (xm_in6t c_1))) rfl d_X_close_30 ?_
      refine lv_istore_n (lv' := [(3, .int ((xs_cn σ (xs_ix x)).1)), (2, .ref (o + 36 + 3 * (xs_ix x))), (0, .ref o), (1, .int x)]) hx hb d_X_close_33 rfl hl (by decide) rfl (fun ls hl => ?_)
      refine lv_aload_n hx hb d_X_close_34 rfl (lv_at hl 2 rfl) ?_
      refine lv_aload_n hx hb d_X_close_35 rfl (lv_at hl 1 rfl) ?_
      obtain ⟨v9, hXo, hXl⟩ := hX.1
      refine xk_iV (rest := []) (c_X_shut l g B o lim σ (xs_ix x) (xs_ixl (xm_in6t c_1)) (fun h => hwf.2.1 _ (xs_ixl (xm_in6t c_1)) (Or.inr (Or.inr (hwf.1 _ (xs_ixl (xm_in6t c_1)) h))))) gd_X_X_shut hd_X_shut hC hW hX hS (xb_recv hK (ci := xi_X) rfl hXo) trivial (by omega) (by omega) (by omega) (by omega) hl.1 rfl (Nat.le_of_ble_eq_true rfl) d_X_close_36 (fun H locs hX hS hF => ?_)
      refine lv_iload_n hx hb d_X_close_39 rfl (lv_at hl 0 rfl) ?_
      exact xr_F hC hW hX hS (by omega) (by omega) (by simp only [xp_close, c_1, c_2, xs_cn_scn, xs_nx_scn, xs_up_scn, xs_lt_scn, xs_q_scn, xs_ac_scn, xs_mk_scn, xs_ac_sac, xs_sac_sac, xs_nx_sg, xs_up_sg, xs_lt_sg, xs_cn_sg, xs_q_sg, if_true, if_false, reduceIte, Bool.false_eq_true, Bool.true_eq_false, and_true, true_and, and_false, false_and, or_true, true_or, or_false, false_or, not_true_eq_false, not_false_eq_true] <;> rfl) d_X_close_40
set_option maxHeartbeats 4000000 in
set_option maxRecDepth 100000 in
theorem c_X_message (l : Launch) (hsl : l.stackTraces = false) (g : xw_G) (B : Nat → Prop) (o lim : Nat) (σ : xs_S) (x : Int32) (y : Int32) (z : Int32) (t : Int32) (hwf : xm_wf σ) : xc_F l y_X_message (Cond.code y_X_message b_X_message 6 (some .int)) g B o lim σ (xp_message σ x y z t) [.ref o, .int x, .int y, .int z, .int t] 7 133 4 24 := by
  refine xh_F (own := R_X) (by decide) rfl (Nat.le_of_ble_eq_true rfl) ?_
  intro p e R s m below meth c ls hRf hRl hRc hRs hxt hC hW hl
  obtain ⟨hx, hb, hml, hr, hown, hts, hlk⟩ := id hC
  have hX := hW.1
  have hK := hW.2.1
  have hS : va_S (xw_A o s.heap.size) s.heap s.heap [] := va_S.rf
  have hl : lv_has ls 6 [(0, .ref o), (1, .int x), (2, .int y), (3, .int z), (4, .int t)] := hl
  refine lv_iload_n hx hb d_X_message_0 rfl (lv_at hl 1 rfl) ?_
  refine xk_sQ (rest := []) (c_X_isConnection l g B o lim σ x) gd_X_X_isConnection hd_X_isConnection hC hW hX hS trivial (by omega) (by omega) (by omega) (by omega) hl.1 rfl (Nat.le_of_ble_eq_true rfl) d_X_message_1 (fun v8 H locs hv hX hS hF => ?_)
  obtain rfl := hv
  refine lv_if_eq (tgt := 28) hx hb d_X_message_4 (by decide) (fun c_1 => ?_) (fun c_1 => ?_)
  · have c_1 := xs_b0 c_1
    refine lv_iconst (v := 0) hx hb d_X_message_28 (by decide) ?_
    refine xk_sX (rest := []) (c_X_checkArgument_0 l hsl g B o lim σ) gd_X_X_checkArgument hd_X_checkArgument hC hW hX hS trivial (by omega) (by omega) (by omega) (by omega) hl.1 rfl (Nat.le_of_ble_eq_true rfl) d_X_message_29 (fun ce9 q9 H locs hX hS e1 e2 e3 => ?_)
    exact xr_FX hC hxt hW hX hS (by omega) (by omega) e1 e2 e3 (k := 0) (v := 0) (by simp only [xp_message, c_1, if_true, if_false, reduceIte, Bool.false_eq_true, Bool.true_eq_false, and_true, true_and, and_false, false_and, or_true, true_or, or_false, false_or, not_true_eq_false, not_false_eq_true] <;> rfl) rfl
  · have c_1 := xs_b1 c_1
    refine lv_iload_n hx hb d_X_message_7 rfl (lv_at hl 2 rfl) ?_
    refine xk_sQ (rest := []) (c_X_isAccount l g B o lim σ y) gd_X_X_isAccount hd_X_isAccount hC hW hX hS trivial (by omega) (by omega) (by omega) (by omega) hl.1 rfl (Nat.le_of_ble_eq_true rfl) d_X_message_8 (fun v8 H locs hv hX hS hF => ?_)
    obtain rfl := hv
    refine lv_if_eq (tgt := 28) hx hb d_X_message_11 (by decide) (fun c_2 => ?_) (fun c_2 => ?_)
    · have c_2 := xs_b0 c_2
      refine lv_iconst (v := 0) hx hb d_X_message_28 (by decide) ?_
      refine xk_sX (rest := []) (c_X_checkArgument_0 l hsl g B o lim σ) gd_X_X_checkArgument hd_X_checkArgument hC hW hX hS trivial (by omega) (by omega) (by omega) (by omega) hl.1 rfl (Nat.le_of_ble_eq_true rfl) d_X_message_29 (fun ce9 q9 H locs hX hS e1 e2 e3 => ?_)
      exact xr_FX hC hxt hW hX hS (by omega) (by omega) e1 e2 e3 (k := 0) (v := 0) (by simp only [xp_message, c_1, c_2, if_true, if_false, reduceIte, Bool.false_eq_true, Bool.true_eq_false, and_true, true_and, and_false, false_and, or_true, true_or, or_false, false_or, not_true_eq_false, not_false_eq_true] <;> rfl) rfl
    · have c_2 := xs_b1 c_2
      refine lv_iload_n hx hb d_X_message_14 rfl (lv_at hl 3 rfl) ?_
      refine lv_iconst (v := (-1)) hx hb d_X_message_15 (by decide) ?_
      refine lv_icmp_lt (tgt := 28) hx hb d_X_message_16 (by decide) (fun c_3 => ?_) (fun c_3 => ?_)
      · refine lv_iconst (v := 0) hx hb d_X_message_28 (by decide) ?_
        refine xk_sX (rest := []) (c_X_checkArgument_0 l hsl g B o lim σ) gd_X_X_checkArgument hd_X_checkArgument hC hW hX hS trivial (by omega) (by omega) (by omega) (by omega) hl.1 rfl (Nat.le_of_ble_eq_true rfl) d_X_message_29 (fun ce9 q9 H locs hX hS e1 e2 e3 => ?_)
        exact xr_FX hC hxt hW hX hS (by omega) (by omega) e1 e2 e3 (k := 0) (v := 0) (by simp only [xp_message, c_1, c_2, c_3, if_true, if_false, reduceIte, Bool.false_eq_true, Bool.true_eq_false, and_true, true_and, and_false, false_and, or_true, true_or, or_false, false_or, not_true_eq_false, not_false_eq_true] <;> rfl) rfl
      · refine lv_iload_n hx hb d_X_message_19 rfl (lv_at hl 3 rfl) ?_
        refine lv_iconst (v := 3) hx hb d_X_message_20 (by decide) ?_
        refine lv_icmp_ge (tgt := 28) hx hb d_X_message_21 (by decide) (fun c_4 => ?_) (fun c_4 => ?_)
        · refine lv_iconst (v := 0) hx hb d_X_message_28 (by decide) ?_
          refine xk_sX (rest := []) (c_X_checkArgument_0 l hsl g B o lim σ) gd_X_X_checkArgument hd_X_checkArgument hC hW hX hS trivial (by omega) (by omega) (by omega) (by omega) hl.1 rfl (Nat.le_of_ble_eq_true rfl) d_X_message_29 (fun ce9 q9 H locs hX hS e1 e2 e3 => ?_)
          exact xr_FX hC hxt hW hX hS (by omega) (by omega) e1 e2 e3 (k := 0) (v := 0) (by simp only [xp_message, c_1, c_2, c_3, c_4, if_true, if_false, reduceIte, Bool.false_eq_true, Bool.true_eq_false, and_true, true_and, and_false, false_and, or_true, true_or, or_false, false_or, not_true_eq_false, not_false_eq_true] <;> rfl) rfl
        · refine lv_iconst (v := 1) hx hb d_X_message_24 (by decide) ?_
          refine lv_goto (tgt := 29) hx hb d_X_message_25 (by decide) ?_
          refine xk_sV (rest := []) (c_X_checkArgument_1 l g B o lim σ) gd_X_X_checkArgument hd_X_checkArgument hC hW hX hS trivial (by omega) (by omega) (by omega) (by omega) hl.1 rfl (Nat.le_of_ble_eq_true rfl) d_X_message_29 (fun H locs hX hS hF => ?_)
          refine lv_aload_n hx hb d_X_message_32 rfl (lv_at hl 0 rfl) ?_
          obtain ⟨v9, hXo, hXl⟩ := hX.1
          refine gf_X_X_connections hx hb hts hown hK hXo rfl d_X_message_33 ?_
          refine lv_iload_n hx hb d_X_message_36 rfl (lv_at hl 1 rfl) ?_
          refine xb_aald (v := o + 36 + 3 * (xs_ix x)) hx hb hK 1 rfl hX.2.2.1 (xm_in6t c_1) rfl d_X_message_37 ?_
          refine lv_astore (lv' := [(5, .ref (o + 36 + 3 * (xs_ix x))), (0, .ref o), (1, .int x), (2, .int y), (3, .int z), (4, .int t)]) hx hb d_X_message_38 hl (by decide) rfl (fun ls hl => ?_)
          refine lv_aload hx hb d_X_message_40 (lv_at hl 0 rfl) ?_
          refine gf_X_C_stage hx hb hts hown hK (hX.2.2.2.2.2.1 (xs_ix x) (xs_ixl (xm_in6t c_1))) rfl d_X_message_42 ?_
          refine lv_iconst (v := 4) hx hb d_X_message_45 (by decide) ?_
          refine lv_icmp_ne (tgt := 53) hx hb d_X_message_46 (by decide) (fun c_5 => ?_) (fun c_5 => ?_)
          · refine lv_iconst (v := 0) hx hb d_X_message_53 (by decide) ?_
            refine xk_sX (rest := []) (c_X_checkState_0 l hsl g B o lim σ) gd_X_X_checkState hd_X_checkState hC hW hX hS trivial (by omega) (by omega) (by omega) (by omega) hl.1 rfl (Nat.le_of_ble_eq_true rfl) d_X_message_54 (fun ce9 q9 H locs hX hS e1 e2 e3 => ?_)
            exact xr_FX hC hxt hW hX hS (by omega) (by omega) e1 e2 e3 (k := 1) (v := 0) (by simp only [xp_message, c_1, c_2, c_3, c_4, c_5, if_true, if_false, reduceIte, Bool.false_eq_true, Bool.true_eq_false, and_true, true_and, and_false, false_and, or_true, true_or, or_false, false_or, not_true_eq_false, not_false_eq_true] <;> rfl) rfl
          · refine lv_iconst (v := 1) hx hb d_X_message_49 (by decide) ?_
            refine lv_goto (tgt := 54) hx hb d_X_message_50 (by decide) ?_
            refine xk_sV (rest := []) (c_X_checkState_1 l g B o lim σ) gd_X_X_checkState hd_X_checkState hC hW hX hS trivial (by omega) (by omega) (by omega) (by omega) hl.1 rfl (Nat.le_of_ble_eq_true rfl) d_X_message_54 (fun H locs hX hS hF => ?_)
            have hvac := hwf.2.1 _ (xs_ixl (xm_in6t c_1)) (Or.inr (Or.inr c_5))
            refine lv_aload_n hx hb d_X_message_57 rfl (lv_at hl 1 rfl) ?_
            refine nw_X_Z hx hb hts hown hK hX hS (by omega) (by omega) d_X_message_58 (fun a9 H9 hn9 hb9 hsz9 hX9 hS9 hF9 => ?_)
            have hX0 := hX
            have hX := hX9
            refine lv_dup hx hb d_X_message_61 rfl ?_
            refine lv_iconst (v := 1) hx hb d_X_message_62 (by decide) ?_
            refine lv_aload hx hb d_X_message_63 (lv_at hl 0 rfl) ?_
            refine gf_X_C_account hx hb hts hown hK (hX.2.2.2.2.2.1 (xs_ix x) (xs_ixl (xm_in6t c_1))) rfl d_X_message_65 ?_
            refine lv_aload hx hb d_X_message_68 (lv_at hl 0 rfl) ?_
            refine gf_X_C_resource hx hb hts hown hK (hX.2.2.2.2.2.1 (xs_ix x) (xs_ixl (xm_in6t c_1))) rfl d_X_message_70 ?_
            refine lv_iload hx hb d_X_message_73 (lv_at hl 5 rfl) ?_
            refine lv_iload_n hx hb d_X_message_75 rfl (lv_at hl 3 rfl) ?_
            refine lv_iload_n hx hb d_X_message_76 rfl (lv_at hl 4 rfl) ?_
            refine in_X_Z (rest := [.ref a9, .ref o]) hC hW hX0 hX9 hS9 hF9 hn9 hb9 hsz9 (by omega) (by omega) (by omega) (by omega) hl.1 rfl (Nat.le_of_ble_eq_true rfl) d_X_message_77 (fun H locs hzn hX hS hF => ?_)
            have hz_6 := hzn
            have hok : xm_ok (1, (xs_cn σ (xs_ix x)).2.1, (xs_cn σ (xs_ix x)).2.2.1, t, y, z) := ⟨hvac, (xm_in8t c_2)⟩
            obtain ⟨v9, hXo, hXl⟩ := hX.1
            refine xk_iV (rest := []) (c_X_send l g B o lim σ a9 (1, (xs_cn σ (xs_ix x)).2.1, (xs_cn σ (xs_ix x)).2.2.1, t, y, z) hok) gd_X_X_send hd_X_send hC hW hX hS (xb_recv hK (ci := xi_X) rfl hXo) hz_6 (by omega) (by omega) (by omega) (by omega) hl.1 rfl (Nat.le_of_ble_eq_true rfl) d_X_message_80 (fun H locs hX hS hF => ?_)
            have hz_6 := hz_6.F hX.2.2.2.2.2.2.2.1 hF
            refine lv_iconst (v := 1) hx hb d_X_message_83 (by decide) ?_
            exact xr_F hC hW hX hS (by omega) (by omega) (by simp only [xp_message, c_1, c_2, c_3, c_4, c_5, xs_cn_scn, xs_nx_scn, xs_up_scn, xs_lt_scn, xs_q_scn, xs_ac_scn, xs_mk_scn, xs_ac_sac, xs_sac_sac, xs_nx_sg, xs_up_sg, xs_lt_sg, xs_cn_sg, xs_q_sg, if_true, if_false, reduceIte, Bool.false_eq_true, Bool.true_eq_false, and_true, true_and, and_false, false_and, or_true, true_or, or_false, false_or, not_true_eq_false, not_false_eq_true] <;> rfl) d_X_message_84
set_option maxHeartbeats 4000000 in
set_option maxRecDepth 100000 in
theorem c_X_subscribe (l : Launch) (hsl : l.stackTraces = false) (g : xw_G) (B : Nat → Prop) (o lim : Nat) (σ : xs_S) (x : Int32) (y : Int32) (z : Int32) (hwf : xm_wf σ) : xc_F l y_X_subscribe (Cond.code y_X_subscribe b_X_subscribe 6 (some .int)) g B o lim σ (xp_subscribe σ x y z) [.ref o, .int x, .int y, .int z] 7 160 29 174 := by
  refine xh_F (own := R_X) (by decide) rfl (Nat.le_of_ble_eq_true rfl) ?_
  intro p e R s m below meth c ls hRf hRl hRc hRs hxt hC hW hl
  obtain ⟨hx, hb, hml, hr, hown, hts, hlk⟩ := id hC
  have hX := hW.1
  have hK := hW.2.1
  have hS : va_S (xw_A o s.heap.size) s.heap s.heap [] := va_S.rf
  have hl : lv_has ls 6 [(0, .ref o), (1, .int x), (2, .int y), (3, .int z)] := hl
  refine lv_iload_n hx hb d_X_subscribe_0 rfl (lv_at hl 1 rfl) ?_
  refine xk_sQ (rest := []) (c_X_isConnection l g B o lim σ x) gd_X_X_isConnection hd_X_isConnection hC hW hX hS trivial (by omega) (by omega) (by omega) (by omega) hl.1 rfl (Nat.le_of_ble_eq_true rfl) d_X_subscribe_1 (fun v8 H locs hv hX hS hF => ?_)
  obtain rfl := hv
  refine lv_if_eq (tgt := 29) hx hb d_X_subscribe_4 (by decide) (fun c_1 => ?_) (fun c_1 => ?_)
  · have c_1 := xs_b0 c_1
    refine lv_iconst (v := 0) hx hb d_X_subscribe_29 (by decide) ?_
    refine xk_sX (rest := []) (c_X_checkArgument_0 l hsl g B o lim σ) gd_X_X_checkArgument hd_X_checkArgument hC hW hX hS trivial (by omega) (by omega) (by omega) (by omega) hl.1 rfl (Nat.le_of_ble_eq_true rfl) d_X_subscribe_30 (fun ce9 q9 H locs hX hS e1 e2 e3 => ?_)
    exact xr_FX hC hxt hW hX hS (by omega) (by omega) e1 e2 e3 (k := 0) (v := 0) (by simp only [xp_subscribe, xp_sub1, xp_sub2, xp_sub3, c_1, if_true, if_false, reduceIte, Bool.false_eq_true, Bool.true_eq_false, and_true, true_and, and_false, false_and, or_true, true_or, or_false, false_or, not_true_eq_false, not_false_eq_true] <;> rfl) rfl
  · have c_1 := xs_b1 c_1
    refine lv_iload_n hx hb d_X_subscribe_7 rfl (lv_at hl 2 rfl) ?_
    refine xk_sQ (rest := []) (c_X_isAccount l g B o lim σ y) gd_X_X_isAccount hd_X_isAccount hC hW hX hS trivial (by omega) (by omega) (by omega) (by omega) hl.1 rfl (Nat.le_of_ble_eq_true rfl) d_X_subscribe_8 (fun v8 H locs hv hX hS hF => ?_)
    obtain rfl := hv
    refine lv_if_eq (tgt := 29) hx hb d_X_subscribe_11 (by decide) (fun c_2 => ?_) (fun c_2 => ?_)
    · have c_2 := xs_b0 c_2
      refine lv_iconst (v := 0) hx hb d_X_subscribe_29 (by decide) ?_
      refine xk_sX (rest := []) (c_X_checkArgument_0 l hsl g B o lim σ) gd_X_X_checkArgument hd_X_checkArgument hC hW hX hS trivial (by omega) (by omega) (by omega) (by omega) hl.1 rfl (Nat.le_of_ble_eq_true rfl) d_X_subscribe_30 (fun ce9 q9 H locs hX hS e1 e2 e3 => ?_)
      exact xr_FX hC hxt hW hX hS (by omega) (by omega) e1 e2 e3 (k := 0) (v := 0) (by simp only [xp_subscribe, xp_sub1, xp_sub2, xp_sub3, c_1, c_2, if_true, if_false, reduceIte, Bool.false_eq_true, Bool.true_eq_false, and_true, true_and, and_false, false_and, or_true, true_or, or_false, false_or, not_true_eq_false, not_false_eq_true] <;> rfl) rfl
    · have c_2 := xs_b1 c_2
      refine lv_iload_n hx hb d_X_subscribe_14 rfl (lv_at hl 3 rfl) ?_
      refine lv_iconst (v := 4) hx hb d_X_subscribe_15 (by decide) ?_
      refine lv_icmp_lt (tgt := 29) hx hb d_X_subscribe_16 (by decide) (fun c_3 => ?_) (fun c_3 => ?_)
      · refine lv_iconst (v := 0) hx hb d_X_subscribe_29 (by decide) ?_
        refine xk_sX (rest := []) (c_X_checkArgument_0 l hsl g B o lim σ) gd_X_X_checkArgument hd_X_checkArgument hC hW hX hS trivial (by omega) (by omega) (by omega) (by omega) hl.1 rfl (Nat.le_of_ble_eq_true rfl) d_X_subscribe_30 (fun ce9 q9 H locs hX hS e1 e2 e3 => ?_)
        exact xr_FX hC hxt hW hX hS (by omega) (by omega) e1 e2 e3 (k := 0) (v := 0) (by simp only [xp_subscribe, xp_sub1, xp_sub2, xp_sub3, c_1, c_2, c_3, if_true, if_false, reduceIte, Bool.false_eq_true, Bool.true_eq_false, and_true, true_and, and_false, false_and, or_true, true_or, or_false, false_or, not_true_eq_false, not_false_eq_true] <;> rfl) rfl
      · refine lv_iload_n hx hb d_X_subscribe_19 rfl (lv_at hl 3 rfl) ?_
        refine lv_bipush (v := 7) hx hb d_X_subscribe_20 (by decide) ?_
        refine lv_icmp_gt (tgt := 29) hx hb d_X_subscribe_22 (by decide) (fun c_4 => ?_) (fun c_4 => ?_)
        · refine lv_iconst (v := 0) hx hb d_X_subscribe_29 (by decide) ?_
          refine xk_sX (rest := []) (c_X_checkArgument_0 l hsl g B o lim σ) gd_X_X_checkArgument hd_X_checkArgument hC hW hX hS trivial (by omega) (by omega) (by omega) (by omega) hl.1 rfl (Nat.le_of_ble_eq_true rfl) d_X_subscribe_30 (fun ce9 q9 H locs hX hS e1 e2 e3 => ?_)
          exact xr_FX hC hxt hW hX hS (by omega) (by omega) e1 e2 e3 (k := 0) (v := 0) (by simp only [xp_subscribe, xp_sub1, xp_sub2, xp_sub3, c_1, c_2, c_3, c_4, if_true, if_false, reduceIte, Bool.false_eq_true, Bool.true_eq_false, and_true, true_and, and_false, false_and, or_true, true_or, or_false, false_or, not_true_eq_false, not_false_eq_true] <;> rfl) rfl
        · refine lv_iconst (v := 1) hx hb d_X_subscribe_25 (by decide) ?_
          refine lv_goto (tgt := 30) hx hb d_X_subscribe_26 (by decide) ?_
          refine xk_sV (rest := []) (c_X_checkArgument_1 l g B o lim σ) gd_X_X_checkArgument hd_X_checkArgument hC hW hX hS trivial (by omega) (by omega) (by omega) (by omega) hl.1 rfl (Nat.le_of_ble_eq_true rfl) d_X_subscribe_30 (fun H locs hX hS hF => ?_)
          refine lv_aload_n hx hb d_X_subscribe_33 rfl (lv_at hl 0 rfl) ?_
          obtain ⟨v9, hXo, hXl⟩ := hX.1
          refine gf_X_X_connections hx hb hts hown hK hXo rfl d_X_subscribe_34 ?_
          refine lv_iload_n hx hb d_X_subscribe_37 rfl (lv_at hl 1 rfl) ?_
          refine xb_aald (v := o + 36 + 3 * (xs_ix x)) hx hb hK 1 rfl hX.2.2.1 (xm_in6t c_1) rfl d_X_subscribe_38 ?_
          refine lv_astore (lv' := [(4, .ref (o + 36 + 3 * (xs_ix x))), (0, .ref o), (1, .int x), (2, .int y), (3, .int z)]) hx hb d_X_subscribe_39 hl (by decide) rfl (fun ls hl => ?_)
          refine lv_aload hx hb d_X_subscribe_41 (lv_at hl 0 rfl) ?_
          refine gf_X_C_account hx hb hts hown hK (hX.2.2.2.2.2.1 (xs_ix x) (xs_ixl (xm_in6t c_1))) rfl d_X_subscribe_43 ?_
          refine lv_iload_n hx hb d_X_subscribe_46 rfl (lv_at hl 3 rfl) ?_
          refine lv_icmp_eq (tgt := 54) hx hb d_X_subscribe_47 (by decide) (fun c_5 => ?_) (fun c_5 => ?_)
          · refine lv_iconst (v := 0) hx hb d_X_subscribe_54 (by decide) ?_
            refine xk_sX (rest := []) (c_X_checkArgument_0 l hsl g B o lim σ) gd_X_X_checkArgument hd_X_checkArgument hC hW hX hS trivial (by omega) (by omega) (by omega) (by omega) hl.1 rfl (Nat.le_of_ble_eq_true rfl) d_X_subscribe_55 (fun ce9 q9 H locs hX hS e1 e2 e3 => ?_)
            exact xr_FX hC hxt hW hX hS (by omega) (by omega) e1 e2 e3 (k := 0) (v := 0) (by simp only [xp_subscribe, xp_sub1, xp_sub2, xp_sub3, c_1, c_2, c_3, c_4, c_5, if_true, if_false, reduceIte, Bool.false_eq_true, Bool.true_eq_false, and_true, true_and, and_false, false_and, or_true, true_or, or_false, false_or, not_true_eq_false, not_false_eq_true] <;> rfl) rfl
          · refine lv_iconst (v := 1) hx hb d_X_subscribe_50 (by decide) ?_
            refine lv_goto (tgt := 55) hx hb d_X_subscribe_51 (by decide) ?_
            refine xk_sV (rest := []) (c_X_checkArgument_1 l g B o lim σ) gd_X_X_checkArgument hd_X_checkArgument hC hW hX hS trivial (by omega) (by omega) (by omega) (by omega) hl.1 rfl (Nat.le_of_ble_eq_true rfl) d_X_subscribe_55 (fun H locs hX hS hF => ?_)
            refine lv_aload hx hb d_X_subscribe_58 (lv_at hl 0 rfl) ?_
            refine gf_X_C_stage hx hb hts hown hK (hX.2.2.2.2.2.1 (xs_ix x) (xs_ixl (xm_in6t c_1))) rfl d_X_subscribe_60 ?_
            refine lv_iconst (v := 4) hx hb d_X_subscribe_63 (by decide) ?_
            refine lv_icmp_ne (tgt := 71) hx hb d_X_subscribe_64 (by decide) (fun c_6 => ?_) (fun c_6 => ?_)
            · refine lv_iconst (v := 0) hx hb d_X_subscribe_71 (by decide) ?_
              refine xk_sX (rest := []) (c_X_checkState_0 l hsl g B o lim σ) gd_X_X_checkState hd_X_checkState hC hW hX hS trivial (by omega) (by omega) (by omega) (by omega) hl.1 rfl (Nat.le_of_ble_eq_true rfl) d_X_subscribe_72 (fun ce9 q9 H locs hX hS e1 e2 e3 => ?_)
              exact xr_FX hC hxt hW hX hS (by omega) (by omega) e1 e2 e3 (k := 1) (v := 0) (by simp only [xp_subscribe, xp_sub1, xp_sub2, xp_sub3, c_1, c_2, c_3, c_4, c_5, c_6, if_true, if_false, reduceIte, Bool.false_eq_true, Bool.true_eq_false, and_true, true_and, and_false, false_and, or_true, true_or, or_false, false_or, not_true_eq_false, not_false_eq_true] <;> rfl) rfl
            · refine lv_iconst (v := 1) hx hb d_X_subscribe_67 (by decide) ?_
              refine lv_goto (tgt := 72) hx hb d_X_subscribe_68 (by decide) ?_
              refine xk_sV (rest := []) (c_X_checkState_1 l g B o lim σ) gd_X_X_checkState hd_X_checkState hC hW hX hS trivial (by omega) (by omega) (by omega) (by omega) hl.1 rfl (Nat.le_of_ble_eq_true rfl) d_X_subscribe_72 (fun H locs hX hS hF => ?_)
              have hvac := hwf.2.1 _ (xs_ixl (xm_in6t c_1)) (Or.inr (Or.inr c_6))
              refine lv_aload_n hx hb d_X_subscribe_75 rfl (lv_at hl 1 rfl) ?_
              obtain ⟨v9, hXo, hXl⟩ := hX.1
              refine gf_X_X_accounts hx hb hts hown hK hXo rfl d_X_subscribe_76 ?_
              refine lv_aload hx hb d_X_subscribe_79 (lv_at hl 0 rfl) ?_
              refine gf_X_C_account hx hb hts hown hK (hX.2.2.2.2.2.1 (xs_ix x) (xs_ixl (xm_in6t c_1))) rfl d_X_subscribe_81 ?_
              refine xb_aald (v := o + 3 + 4 * (xs_ix ((xs_cn σ (xs_ix x)).2.1))) hx hb hK 0 rfl hX.2.1 hvac rfl d_X_subscribe_84 ?_
              refine lv_astore (lv' := [(5, .ref (o + 3 + 4 * (xs_ix ((xs_cn σ (xs_ix x)).2.1)))), (4, .ref (o + 36 + 3 * (xs_ix x))), (0, .ref o), (1, .int x), (2, .int y), (3, .int z)]) hx hb d_X_subscribe_85 hl (by decide) rfl (fun ls hl => ?_)
              refine lv_iload_n hx hb d_X_subscribe_87 rfl (lv_at hl 5 rfl) ?_
              refine lv_iconst (v := 5) hx hb d_X_subscribe_88 (by decide) ?_
              refine lv_icmp_ne (tgt := 105) hx hb d_X_subscribe_89 (by decide) (fun c_7 => ?_) (fun c_7 => ?_)
              · refine lv_iload_n hx hb d_X_subscribe_105 rfl (lv_at hl 5 rfl) ?_
                refine lv_bipush (v := 7) hx hb d_X_subscribe_106 (by decide) ?_
                refine lv_icmp_ne (tgt := 132) hx hb d_X_subscribe_108 (by decide) (fun c_8 => ?_) (fun c_8 => ?_)
                · refine lv_aload hx hb d_X_subscribe_132 (lv_at hl 0 rfl) ?_
                  refine lv_iload_n hx hb d_X_subscribe_134 rfl (lv_at hl 4 rfl) ?_
                  refine lv_iload_n hx hb d_X_subscribe_135 rfl (lv_at hl 5 rfl) ?_
                  refine xk_sV (rest := []) (c_X_changeOwnMarks l g B o lim σ (xs_ix ((xs_cn σ (xs_ix x)).2.1)) (xs_ixl hvac) y (xs_ix y) (xm_in8t c_2) rfl z) gd_X_X_changeOwnMarks hd_X_changeOwnMarks hC hW hX hS trivial (by omega) (by omega) (by omega) (by omega) hl.1 rfl (Nat.le_of_ble_eq_true rfl) d_X_subscribe_136 (fun H locs hX hS hF => ?_)
                  refine lv_aload_n hx hb d_X_subscribe_139 rfl (lv_at hl 2 rfl) ?_
                  refine nw_X_Z hx hb hts hown hK hX hS (by omega) (by omega) d_X_subscribe_140 (fun a9 H9 hn9 hb9 hsz9 hX9 hS9 hF9 => ?_)
                  have hX0 := hX
                  have hX := hX9
                  refine lv_dup hx hb d_X_subscribe_143 rfl ?_
                  refine lv_iload_n hx hb d_X_subscribe_144 rfl (lv_at hl 5 rfl) ?_
                  refine lv_aload hx hb d_X_subscribe_145 (lv_at hl 1 rfl) ?_
                  refine gf_X_C_account hx hb hts hown hK (hX.2.2.2.2.2.1 (xs_ix x) (xs_ixl (xm_in6t c_1))) rfl d_X_subscribe_147 ?_
                  rw [show (xs_cn (xm_com σ (xs_ix ((xs_cn σ (xs_ix x)).2.1)) (xs_ix y) z) (xs_ix x)).2.1 = (xs_cn σ (xs_ix x)).2.1 from by simp only [xs_cn_send, xs_cn_sp, xs_cn_com]]
                  refine lv_iconst (v := (-1)) hx hb d_X_subscribe_150 (by decide) ?_
                  refine lv_iconst (v := 0) hx hb d_X_subscribe_151 (by decide) ?_
                  refine lv_iload_n hx hb d_X_subscribe_152 rfl (lv_at hl 4 rfl) ?_
                  refine lv_iconst (v := (-1)) hx hb d_X_subscribe_153 (by decide) ?_
                  refine in_X_Z (rest := [.ref a9, .ref o]) hC hW hX0 hX9 hS9 hF9 hn9 hb9 hsz9 (by omega) (by omega) (by omega) (by omega) hl.1 rfl (Nat.le_of_ble_eq_true rfl) d_X_subscribe_154 (fun H locs hzn hX hS hF => ?_)
                  have hz_9 := hzn
                  have hok : xm_ok (z, (xs_cn σ (xs_ix x)).2.1, (-1), 0, y, (-1)) := ⟨hvac, (xm_in8t c_2)⟩
                  obtain ⟨v9, hXo, hXl⟩ := hX.1
                  refine xk_iV (rest := []) (c_X_send l g B o lim (xm_com σ (xs_ix ((xs_cn σ (xs_ix x)).2.1)) (xs_ix y) z) a9 (z, (xs_cn σ (xs_ix x)).2.1, (-1), 0, y, (-1)) hok) gd_X_X_send hd_X_send hC hW hX hS (xb_recv hK (ci := xi_X) rfl hXo) hz_9 (by omega) (by omega) (by omega) (by omega) hl.1 rfl (Nat.le_of_ble_eq_true rfl) d_X_subscribe_157 (fun H locs hX hS hF => ?_)
                  have hz_9 := hz_9.F hX.2.2.2.2.2.2.2.1 hF
                  refine lv_iload_n hx hb d_X_subscribe_160 rfl (lv_at hl 5 rfl) ?_
                  refine lv_iconst (v := 5) hx hb d_X_subscribe_161 (by decide) ?_
                  refine lv_icmp_ne (tgt := 176) hx hb d_X_subscribe_162 (by decide) (fun c_11 => ?_) (fun c_11 => absurd c_11 c_7)
                  refine lv_iconst (v := 1) hx hb d_X_subscribe_176 (by decide) ?_
                  exact xr_F hC hW hX hS (by omega) (by omega) (by simp only [xp_subscribe, xp_sub1, xp_sub2, xp_sub3, c_1, c_2, c_3, c_4, c_5, c_6, c_7, c_8, xs_cn_scn, xs_nx_scn, xs_up_scn, xs_lt_scn, xs_q_scn, xs_ac_scn, xs_mk_scn, xs_ac_sac, xs_sac_sac, xs_nx_sg, xs_up_sg, xs_lt_sg, xs_cn_sg, xs_q_sg, if_true, if_false, reduceIte, Bool.false_eq_true, Bool.true_eq_false, and_true, true_and, and_false, false_and, or_true, true_or, or_false, false_or, not_true_eq_false, not_false_eq_true] <;> rfl) d_X_subscribe_177
                · refine lv_aload hx hb d_X_subscribe_111 (lv_at hl 0 rfl) ?_
                  refine lv_iload_n hx hb d_X_subscribe_113 rfl (lv_at hl 4 rfl) ?_
                  refine lv_iconst (v := 2) hx hb d_X_subscribe_114 (by decide) ?_
                  refine xk_iQ (rest := []) (c_A_hasAny l g B o lim σ (xs_ix ((xs_cn σ (xs_ix x)).2.1)) (xs_ixl hvac) y (xs_ix y) (xm_in8t c_2) rfl 2) gd_X_A_hasAny hd_A_hasAny hC hW hX hS (xb_recv hK (ci := xi_A) rfl (hX.2.2.2.1 (xs_ix ((xs_cn σ (xs_ix x)).2.1)) (xs_ixl hvac))) trivial (by omega) (by omega) (by omega) (by omega) hl.1 rfl (Nat.le_of_ble_eq_true rfl) d_X_subscribe_115 (fun v8 H locs hv hX hS hF => ?_)
                  obtain rfl := hv
                  refine lv_if_eq (tgt := 132) hx hb d_X_subscribe_118 (by decide) (fun c_12 => ?_) (fun c_12 => ?_)
                  · have c_12 := xs_b0 c_12
                    refine lv_aload hx hb d_X_subscribe_132 (lv_at hl 0 rfl) ?_
                    refine lv_iload_n hx hb d_X_subscribe_134 rfl (lv_at hl 4 rfl) ?_
                    refine lv_iload_n hx hb d_X_subscribe_135 rfl (lv_at hl 5 rfl) ?_
                    refine xk_sV (rest := []) (c_X_changeOwnMarks l g B o lim σ (xs_ix ((xs_cn σ (xs_ix x)).2.1)) (xs_ixl hvac) y (xs_ix y) (xm_in8t c_2) rfl z) gd_X_X_changeOwnMarks hd_X_changeOwnMarks hC hW hX hS trivial (by omega) (by omega) (by omega) (by omega) hl.1 rfl (Nat.le_of_ble_eq_true rfl) d_X_subscribe_136 (fun H locs hX hS hF => ?_)
                    refine lv_aload_n hx hb d_X_subscribe_139 rfl (lv_at hl 2 rfl) ?_
                    refine nw_X_Z hx hb hts hown hK hX hS (by omega) (by omega) d_X_subscribe_140 (fun a9 H9 hn9 hb9 hsz9 hX9 hS9 hF9 => ?_)
                    have hX0 := hX
                    have hX := hX9
                    refine lv_dup hx hb d_X_subscribe_143 rfl ?_
                    refine lv_iload_n hx hb d_X_subscribe_144 rfl (lv_at hl 5 rfl) ?_
                    refine lv_aload hx hb d_X_subscribe_145 (lv_at hl 1 rfl) ?_
                    refine gf_X_C_account hx hb hts hown hK (hX.2.2.2.2.2.1 (xs_ix x) (xs_ixl (xm_in6t c_1))) rfl d_X_subscribe_147 ?_
                    rw [show (xs_cn (xm_com σ (xs_ix ((xs_cn σ (xs_ix x)).2.1)) (xs_ix y) z) (xs_ix x)).2.1 = (xs_cn σ (xs_ix x)).2.1 from by simp only [xs_cn_send, xs_cn_sp, xs_cn_com]]
                    refine lv_iconst (v := (-1)) hx hb d_X_subscribe_150 (by decide) ?_
                    refine lv_iconst (v := 0) hx hb d_X_subscribe_151 (by decide) ?_
                    refine lv_iload_n hx hb d_X_subscribe_152 rfl (lv_at hl 4 rfl) ?_
                    refine lv_iconst (v := (-1)) hx hb d_X_subscribe_153 (by decide) ?_
                    refine in_X_Z (rest := [.ref a9, .ref o]) hC hW hX0 hX9 hS9 hF9 hn9 hb9 hsz9 (by omega) (by omega) (by omega) (by omega) hl.1 rfl (Nat.le_of_ble_eq_true rfl) d_X_subscribe_154 (fun H locs hzn hX hS hF => ?_)
                    have hz_13 := hzn
                    have hok : xm_ok (z, (xs_cn σ (xs_ix x)).2.1, (-1), 0, y, (-1)) := ⟨hvac, (xm_in8t c_2)⟩
                    obtain ⟨v9, hXo, hXl⟩ := hX.1
                    refine xk_iV (rest := []) (c_X_send l g B o lim (xm_com σ (xs_ix ((xs_cn σ (xs_ix x)).2.1)) (xs_ix y) z) a9 (z, (xs_cn σ (xs_ix x)).2.1, (-1), 0, y, (-1)) hok) gd_X_X_send hd_X_send hC hW hX hS (xb_recv hK (ci := xi_X) rfl hXo) hz_13 (by omega) (by omega) (by omega) (by omega) hl.1 rfl (Nat.le_of_ble_eq_true rfl) d_X_subscribe_157 (fun H locs hX hS hF => ?_)
                    have hz_13 := hz_13.F hX.2.2.2.2.2.2.2.1 hF
                    refine lv_iload_n hx hb d_X_subscribe_160 rfl (lv_at hl 5 rfl) ?_
                    refine lv_iconst (v := 5) hx hb d_X_subscribe_161 (by decide) ?_
                    refine lv_icmp_ne (tgt := 176) hx hb d_X_subscribe_162 (by decide) (fun c_15 => ?_) (fun c_15 => absurd c_15 c_7)
                    refine lv_iconst (v := 1) hx hb d_X_subscribe_176 (by decide) ?_
                    exact xr_F hC hW hX hS (by omega) (by omega) (by simp only [xp_subscribe, xp_sub1, xp_sub2, xp_sub3, c_1, c_2, c_3, c_4, c_5, c_6, c_7, c_8, c_12, xs_cn_scn, xs_nx_scn, xs_up_scn, xs_lt_scn, xs_q_scn, xs_ac_scn, xs_mk_scn, xs_ac_sac, xs_sac_sac, xs_nx_sg, xs_up_sg, xs_lt_sg, xs_cn_sg, xs_q_sg, if_true, if_false, reduceIte, Bool.false_eq_true, Bool.true_eq_false, and_true, true_and, and_false, false_and, or_true, true_or, or_false, false_or, not_true_eq_false, not_false_eq_true] <;> rfl) d_X_subscribe_177
                  · have c_12 := xs_b1 c_12
                    refine lv_aload_n hx hb d_X_subscribe_121 rfl (lv_at hl 2 rfl) ?_
                    refine lv_aload hx hb d_X_subscribe_122 (lv_at hl 1 rfl) ?_
                    refine gf_X_C_account hx hb hts hown hK (hX.2.2.2.2.2.1 (xs_ix x) (xs_ixl (xm_in6t c_1))) rfl d_X_subscribe_124 ?_
                    refine lv_iload_n hx hb d_X_subscribe_127 rfl (lv_at hl 4 rfl) ?_
                    refine lv_iconst (v := 3) hx hb d_X_subscribe_128 (by decide) ?_
                    obtain ⟨v9, hXo, hXl⟩ := hX.1
                    refine xk_iV (rest := []) (c_X_sendPresences l g B o lim σ ((xs_cn σ (xs_ix x)).2.1) y 3 hvac (xm_in8t c_2)) gd_X_X_sendPresences hd_X_sendPresences hC hW hX hS (xb_recv hK (ci := xi_X) rfl hXo) trivial (by omega) (by omega) (by omega) (by omega) hl.1 rfl (Nat.le_of_ble_eq_true rfl) d_X_subscribe_129 (fun H locs hX hS hF => ?_)
                    refine lv_aload hx hb d_X_subscribe_132 (lv_at hl 0 rfl) ?_
                    refine lv_iload_n hx hb d_X_subscribe_134 rfl (lv_at hl 4 rfl) ?_
                    refine lv_iload_n hx hb d_X_subscribe_135 rfl (lv_at hl 5 rfl) ?_
                    refine xk_sV (rest := []) (c_X_changeOwnMarks l g B o lim (xm_sp 6 0 σ ((xs_cn σ (xs_ix x)).2.1) y 3) (xs_ix ((xs_cn σ (xs_ix x)).2.1)) (xs_ixl hvac) y (xs_ix y) (xm_in8t c_2) rfl z) gd_X_X_changeOwnMarks hd_X_changeOwnMarks hC hW hX hS trivial (by omega) (by omega) (by omega) (by omega) hl.1 rfl (Nat.le_of_ble_eq_true rfl) d_X_subscribe_136 (fun H locs hX hS hF => ?_)
                    refine lv_aload_n hx hb d_X_subscribe_139 rfl (lv_at hl 2 rfl) ?_
                    refine nw_X_Z hx hb hts hown hK hX hS (by omega) (by omega) d_X_subscribe_140 (fun a9 H9 hn9 hb9 hsz9 hX9 hS9 hF9 => ?_)
                    have hX0 := hX
                    have hX := hX9
                    refine lv_dup hx hb d_X_subscribe_143 rfl ?_
                    refine lv_iload_n hx hb d_X_subscribe_144 rfl (lv_at hl 5 rfl) ?_
                    refine lv_aload hx hb d_X_subscribe_145 (lv_at hl 1 rfl) ?_
                    refine gf_X_C_account hx hb hts hown hK (hX.2.2.2.2.2.1 (xs_ix x) (xs_ixl (xm_in6t c_1))) rfl d_X_subscribe_147 ?_
                    rw [show (xs_cn (xm_com (xm_sp 6 0 σ ((xs_cn σ (xs_ix x)).2.1) y 3) (xs_ix ((xs_cn σ (xs_ix x)).2.1)) (xs_ix y) z) (xs_ix x)).2.1 = (xs_cn σ (xs_ix x)).2.1 from by simp only [xs_cn_send, xs_cn_sp, xs_cn_com]]
                    refine lv_iconst (v := (-1)) hx hb d_X_subscribe_150 (by decide) ?_
                    refine lv_iconst (v := 0) hx hb d_X_subscribe_151 (by decide) ?_
                    refine lv_iload_n hx hb d_X_subscribe_152 rfl (lv_at hl 4 rfl) ?_
                    refine lv_iconst (v := (-1)) hx hb d_X_subscribe_153 (by decide) ?_
                    refine in_X_Z (rest := [.ref a9, .ref o]) hC hW hX0 hX9 hS9 hF9 hn9 hb9 hsz9 (by omega) (by omega) (by omega) (by omega) hl.1 rfl (Nat.le_of_ble_eq_true rfl) d_X_subscribe_154 (fun H locs hzn hX hS hF => ?_)
                    have hz_16 := hzn
                    have hok : xm_ok (z, (xs_cn σ (xs_ix x)).2.1, (-1), 0, y, (-1)) := ⟨hvac, (xm_in8t c_2)⟩
                    obtain ⟨v9, hXo, hXl⟩ := hX.1
                    refine xk_iV (rest := []) (c_X_send l g B o lim (xm_com (xm_sp 6 0 σ ((xs_cn σ (xs_ix x)).2.1) y 3) (xs_ix ((xs_cn σ (xs_ix x)).2.1)) (xs_ix y) z) a9 (z, (xs_cn σ (xs_ix x)).2.1, (-1), 0, y, (-1)) hok) gd_X_X_send hd_X_send hC hW hX hS (xb_recv hK (ci := xi_X) rfl hXo) hz_16 (by omega) (by omega) (by omega) (by omega) hl.1 rfl (Nat.le_of_ble_eq_true rfl) d_X_subscribe_157 (fun H locs hX hS hF => ?_)
                    have hz_16 := hz_16.F hX.2.2.2.2.2.2.2.1 hF
                    refine lv_iload_n hx hb d_X_subscribe_160 rfl (lv_at hl 5 rfl) ?_
                    refine lv_iconst (v := 5) hx hb d_X_subscribe_161 (by decide) ?_
                    refine lv_icmp_ne (tgt := 176) hx hb d_X_subscribe_162 (by decide) (fun c_18 => ?_) (fun c_18 => absurd c_18 c_7)
                    refine lv_iconst (v := 1) hx hb d_X_subscribe_176 (by decide) ?_
                    exact xr_F hC hW hX hS (by omega) (by omega) (by simp only [xp_subscribe, xp_sub1, xp_sub2, xp_sub3, c_1, c_2, c_3, c_4, c_5, c_6, c_7, c_8, c_12, xs_cn_scn, xs_nx_scn, xs_up_scn, xs_lt_scn, xs_q_scn, xs_ac_scn, xs_mk_scn, xs_ac_sac, xs_sac_sac, xs_nx_sg, xs_up_sg, xs_lt_sg, xs_cn_sg, xs_q_sg, if_true, if_false, reduceIte, Bool.false_eq_true, Bool.true_eq_false, and_true, true_and, and_false, false_and, or_true, true_or, or_false, false_or, not_true_eq_false, not_false_eq_true] <;> rfl) d_X_subscribe_177
              · refine lv_aload hx hb d_X_subscribe_92 (lv_at hl 0 rfl) ?_
                refine lv_iload_n hx hb d_X_subscribe_94 rfl (lv_at hl 4 rfl) ?_
                refine lv_bipush (v := 8) hx hb d_X_subscribe_95 (by decide) ?_
                refine xk_iQ (rest := []) (c_A_hasAny l g B o lim σ (xs_ix ((xs_cn σ (xs_ix x)).2.1)) (xs_ixl hvac) y (xs_ix y) (xm_in8t c_2) rfl 8) gd_X_A_hasAny hd_A_hasAny hC hW hX hS (xb_recv hK (ci := xi_A) rfl (hX.2.2.2.1 (xs_ix ((xs_cn σ (xs_ix x)).2.1)) (xs_ixl hvac))) trivial (by omega) (by omega) (by omega) (by omega) hl.1 rfl (Nat.le_of_ble_eq_true rfl) d_X_subscribe_97 (fun v8 H locs hv hX hS hF => ?_)
                obtain rfl := hv
                refine lv_if_ne (tgt := 105) hx hb d_X_subscribe_100 (by decide) (fun c_19 => ?_) (fun c_19 => ?_)
                · have c_19 := xs_b1 c_19
                  refine lv_iload_n hx hb d_X_subscribe_105 rfl (lv_at hl 5 rfl) ?_
                  refine lv_bipush (v := 7) hx hb d_X_subscribe_106 (by decide) ?_
                  have c_20 : ¬ z = 7 := by rw [c_7]; decide
                  refine lv_icmp_ne (tgt := 132) hx hb d_X_subscribe_108 (by decide) (fun c_21 => ?_) (fun c_21 => absurd c_21 c_20)
                  refine lv_aload hx hb d_X_subscribe_132 (lv_at hl 0 rfl) ?_
                  refine lv_iload_n hx hb d_X_subscribe_134 rfl (lv_at hl 4 rfl) ?_
                  refine lv_iload_n hx hb d_X_subscribe_135 rfl (lv_at hl 5 rfl) ?_
                  refine xk_sV (rest := []) (c_X_changeOwnMarks l g B o lim σ (xs_ix ((xs_cn σ (xs_ix x)).2.1)) (xs_ixl hvac) y (xs_ix y) (xm_in8t c_2) rfl z) gd_X_X_changeOwnMarks hd_X_changeOwnMarks hC hW hX hS trivial (by omega) (by omega) (by omega) (by omega) hl.1 rfl (Nat.le_of_ble_eq_true rfl) d_X_subscribe_136 (fun H locs hX hS hF => ?_)
                  refine lv_aload_n hx hb d_X_subscribe_139 rfl (lv_at hl 2 rfl) ?_
                  refine nw_X_Z hx hb hts hown hK hX hS (by omega) (by omega) d_X_subscribe_140 (fun a9 H9 hn9 hb9 hsz9 hX9 hS9 hF9 => ?_)
                  have hX0 := hX
                  have hX := hX9
                  refine lv_dup hx hb d_X_subscribe_143 rfl ?_
                  refine lv_iload_n hx hb d_X_subscribe_144 rfl (lv_at hl 5 rfl) ?_
                  refine lv_aload hx hb d_X_subscribe_145 (lv_at hl 1 rfl) ?_
                  refine gf_X_C_account hx hb hts hown hK (hX.2.2.2.2.2.1 (xs_ix x) (xs_ixl (xm_in6t c_1))) rfl d_X_subscribe_147 ?_
                  rw [show (xs_cn (xm_com σ (xs_ix ((xs_cn σ (xs_ix x)).2.1)) (xs_ix y) z) (xs_ix x)).2.1 = (xs_cn σ (xs_ix x)).2.1 from by simp only [xs_cn_send, xs_cn_sp, xs_cn_com]]
                  refine lv_iconst (v := (-1)) hx hb d_X_subscribe_150 (by decide) ?_
                  refine lv_iconst (v := 0) hx hb d_X_subscribe_151 (by decide) ?_
                  refine lv_iload_n hx hb d_X_subscribe_152 rfl (lv_at hl 4 rfl) ?_
                  refine lv_iconst (v := (-1)) hx hb d_X_subscribe_153 (by decide) ?_
                  refine in_X_Z (rest := [.ref a9, .ref o]) hC hW hX0 hX9 hS9 hF9 hn9 hb9 hsz9 (by omega) (by omega) (by omega) (by omega) hl.1 rfl (Nat.le_of_ble_eq_true rfl) d_X_subscribe_154 (fun H locs hzn hX hS hF => ?_)
                  have hz_22 := hzn
                  have hok : xm_ok (z, (xs_cn σ (xs_ix x)).2.1, (-1), 0, y, (-1)) := ⟨hvac, (xm_in8t c_2)⟩
                  obtain ⟨v9, hXo, hXl⟩ := hX.1
                  refine xk_iV (rest := []) (c_X_send l g B o lim (xm_com σ (xs_ix ((xs_cn σ (xs_ix x)).2.1)) (xs_ix y) z) a9 (z, (xs_cn σ (xs_ix x)).2.1, (-1), 0, y, (-1)) hok) gd_X_X_send hd_X_send hC hW hX hS (xb_recv hK (ci := xi_X) rfl hXo) hz_22 (by omega) (by omega) (by omega) (by omega) hl.1 rfl (Nat.le_of_ble_eq_true rfl) d_X_subscribe_157 (fun H locs hX hS hF => ?_)
                  have hz_22 := hz_22.F hX.2.2.2.2.2.2.2.1 hF
                  refine lv_iload_n hx hb d_X_subscribe_160 rfl (lv_at hl 5 rfl) ?_
                  refine lv_iconst (v := 5) hx hb d_X_subscribe_161 (by decide) ?_
                  refine lv_icmp_ne (tgt := 176) hx hb d_X_subscribe_162 (by decide) (fun c_24 => absurd c_7 c_24) (fun c_24 => ?_)
                  refine lv_aload_n hx hb d_X_subscribe_165 rfl (lv_at hl 2 rfl) ?_
                  refine lv_aload hx hb d_X_subscribe_166 (lv_at hl 1 rfl) ?_
                  refine gf_X_C_account hx hb hts hown hK (hX.2.2.2.2.2.1 (xs_ix x) (xs_ixl (xm_in6t c_1))) rfl d_X_subscribe_168 ?_
                  rw [show (xs_cn (xm_send (xm_com σ (xs_ix ((xs_cn σ (xs_ix x)).2.1)) (xs_ix y) z) (z, (xs_cn σ (xs_ix x)).2.1, (-1), 0, y, (-1))) (xs_ix x)).2.1 = (xs_cn σ (xs_ix x)).2.1 from by simp only [xs_cn_send, xs_cn_sp, xs_cn_com]]
                  refine lv_iload_n hx hb d_X_subscribe_171 rfl (lv_at hl 4 rfl) ?_
                  refine lv_iconst (v := 2) hx hb d_X_subscribe_172 (by decide) ?_
                  obtain ⟨v9, hXo, hXl⟩ := hX.1
                  refine xk_iV (rest := []) (c_X_sendPresences l g B o lim (xm_send (xm_com σ (xs_ix ((xs_cn σ (xs_ix x)).2.1)) (xs_ix y) z) (z, (xs_cn σ (xs_ix x)).2.1, (-1), 0, y, (-1))) ((xs_cn σ (xs_ix x)).2.1) y 2 hvac (xm_in8t c_2)) gd_X_X_sendPresences hd_X_sendPresences hC hW hX hS (xb_recv hK (ci := xi_X) rfl hXo) trivial (by omega) (by omega) (by omega) (by omega) hl.1 rfl (Nat.le_of_ble_eq_true rfl) d_X_subscribe_173 (fun H locs hX hS hF => ?_)
                  have hz_22 := hz_22.F hX.2.2.2.2.2.2.2.1 hF
                  refine lv_iconst (v := 1) hx hb d_X_subscribe_176 (by decide) ?_
                  exact xr_F hC hW hX hS (by omega) (by omega) (by simp only [xp_subscribe, xp_sub1, xp_sub2, xp_sub3, c_1, c_2, c_3, c_4, c_5, c_6, c_7, c_19, xs_cn_scn, xs_nx_scn, xs_up_scn, xs_lt_scn, xs_q_scn, xs_ac_scn, xs_mk_scn, xs_ac_sac, xs_sac_sac, xs_nx_sg, xs_up_sg, xs_lt_sg, xs_cn_sg, xs_q_sg, if_true, if_false, reduceIte, Bool.false_eq_true, Bool.true_eq_false, and_true, true_and, and_false, false_and, or_true, true_or, or_false, false_or, not_true_eq_false, not_false_eq_true] <;> rfl) d_X_subscribe_177
                · have c_19 := xs_b0 c_19
                  refine lv_iconst (v := 0) hx hb d_X_subscribe_103 (by decide) ?_
                  exact xr_F hC hW hX hS (by omega) (by omega) (by simp only [xp_subscribe, xp_sub1, xp_sub2, xp_sub3, c_1, c_2, c_3, c_4, c_5, c_6, c_7, c_19, xs_cn_scn, xs_nx_scn, xs_up_scn, xs_lt_scn, xs_q_scn, xs_ac_scn, xs_mk_scn, xs_ac_sac, xs_sac_sac, xs_nx_sg, xs_up_sg, xs_lt_sg, xs_cn_sg, xs_q_sg, if_true, if_false, reduceIte, Bool.false_eq_true, Bool.true_eq_false, and_true, true_and, and_false, false_and, or_true, true_or, or_false, false_or, not_true_eq_false, not_false_eq_true] <;> rfl) d_X_subscribe_104
set_option maxHeartbeats 4000000 in
set_option maxRecDepth 100000 in
theorem c_X_link (l : Launch) (hsl : l.stackTraces = false) (g : xw_G) (B : Nat → Prop) (o lim : Nat) (σ : xs_S) (u : Bool) (hwf : xm_wf σ) : xc_F l y_X_link (Cond.code y_X_link b_X_link 4 (some .int)) g B o lim σ (xp_link σ u) [.ref o, .int (xs_b u)] 5 112 8 48 := by
  refine xh_F (own := R_X) (by decide) rfl (Nat.le_of_ble_eq_true rfl) ?_
  intro p e R s m below meth c ls hRf hRl hRc hRs hxt hC hW hl
  obtain ⟨hx, hb, hml, hr, hown, hts, hlk⟩ := id hC
  have hX := hW.1
  have hK := hW.2.1
  have hS : va_S (xw_A o s.heap.size) s.heap s.heap [] := va_S.rf
  have hl : lv_has ls 4 [(0, .ref o), (1, .int (xs_b u))] := hl
  refine lv_aload_n hx hb d_X_link_0 rfl (lv_at hl 0 rfl) ?_
  refine lv_iload_n hx hb d_X_link_1 rfl (lv_at hl 1 rfl) ?_
  refine pf_X_X_linkUp (b := u) hx hb hts hown hK hX hS d_X_link_2 (fun H locs hX hS hF => ?_)
  refine lv_iload_n hx hb d_X_link_5 rfl (lv_at hl 1 rfl) ?_
  refine lv_if_ne (tgt := 11) hx hb d_X_link_6 (by decide) (fun c_1 => ?_) (fun c_1 => ?_)
  · have c_1 := xs_b1 c_1
    have hN8 : (xs_q σ 14).length ≤ 8 := by obtain ⟨f9, hq9, hl9, hz9⟩ := hX.2.2.2.2.2.2.1 14 (by decide); exact hl9
    refine lv_aload_n hx hb d_X_link_11 rfl (lv_at hl 0 rfl) ?_
    obtain ⟨v9, hXo, hXl⟩ := hX.1
    refine gf_X_X_waiting hx hb hts hown hK hXo rfl d_X_link_12 ?_
    obtain ⟨f9, hq9, hl9, hz9⟩ := hX.2.2.2.2.2.2.1 14 (by decide)
    refine gf_X_Q_size hx hb hts hown hK hq9.1 rfl d_X_link_15 ?_
    refine lv_istore_n (lv' := [(2, .int (nI (xs_q (xs_sg σ u (xs_nx σ) (xs_lt σ)) 14).length)), (0, .ref o), (1, .int (xs_b u))]) hx hb d_X_link_18 rfl hl (by decide) rfl (fun ls hl => ?_)
    refine lv_iconst (v := 0) hx hb d_X_link_19 (by decide) ?_
    refine lv_istore_n (lv' := [(3, .int 0), (2, .int (nI (xs_q (xs_sg σ u (xs_nx σ) (xs_lt σ)) 14).length)), (0, .ref o), (1, .int (xs_b u))]) hx hb d_X_link_20 rfl hl (by decide) rfl (fun ls hl => ?_)
    have loop : ∀ (n i : Nat) (τ : xs_S) (H : Heap) (locs : List Loc) (cells slots : Nat) (ls : Array Slot), i + n = (xs_q σ 14).length → xw_R g B o τ H → va_S (xw_A o s.heap.size) s.heap H locs → cells + n * 1 ≤ 8 → slots + n * 6 ≤ 48 → lv_has ls 4 [(3, .int (nI i)), (2, .int (nI (xs_q (xs_sg σ u (xs_nx σ) (xs_lt σ)) 14).length)), (0, .ref o), (1, .int (xs_b u))] → xm_lk n τ = xm_lk (xs_q σ 14).length (xp_link1 σ u) → (xs_q τ 14).length = n → (∀ z, z ∈ xs_q τ 14 → xm_ok z) → W p l e R s m ([.ref o, .int (xs_b u)] : List Value).toArray below meth c H locs cells slots (xe_MQ below (xf_Q g B o lim (xp_link σ u) s.heap.size) (xf_X g B o lim (xp_link σ u) 8 48 s.heap.size) ([.ref o, .int (xs_b u)] : List Value).toArray s 8 48 (xw_A o s.heap.size)) (F0 m 21 ls []) := by
      intro n
      induction n with
      | zero =>
        intro i τ H locs cells slots ls hi hX hS  hc hs hl hres hln hok9
        obtain rfl : i = (xs_q σ 14).length := by omega
        refine lv_iload_n hx hb d_X_link_21 rfl (lv_at hl 0 rfl) ?_
        refine lv_iload_n hx hb d_X_link_22 rfl (lv_at hl 1 rfl) ?_
        refine lv_icmp_ge (tgt := 43) hx hb d_X_link_23 (by decide) (fun c_2 => ?_) (fun c_2 => absurd (nI_le (Nat.le_refl ((xs_q σ 14).length)) (Nat.lt_of_le_of_lt hN8 (by decide))) c_2)
        refine lv_iload_n hx hb d_X_link_43 rfl (lv_at hl 1 rfl) ?_
        exact xr_F hC hW hX hS (by omega) (by omega) (by unfold xp_link; rw [if_pos c_1, ← hres]; rfl) d_X_link_44
      | succ n ih =>
        intro i τ H locs cells slots ls hi hX hS  hc hs hl hres hln hok9
        refine lv_iload_n hx hb d_X_link_21 rfl (lv_at hl 0 rfl) ?_
        refine lv_iload_n hx hb d_X_link_22 rfl (lv_at hl 1 rfl) ?_
        refine lv_icmp_ge (tgt := 43) hx hb d_X_link_23 (by decide) (fun c_3 => absurd c_3 (nI_ge (show i < (xs_q σ 14).length by omega) (Nat.lt_of_le_of_lt hN8 (by decide)))) (fun c_3 => ?_)
        refine lv_aload_n hx hb d_X_link_26 rfl (lv_at hl 2 rfl) ?_
        refine lv_aload_n hx hb d_X_link_27 rfl (lv_at hl 2 rfl) ?_
        obtain ⟨v9, hXo, hXl⟩ := hX.1
        refine gf_X_X_waiting hx hb hts hown hK hXo rfl d_X_link_28 ?_
        have hne : ∃ z t, xs_q τ 14 = z :: t := xm_ne hln
        obtain ⟨f9, hq9, hl9, hz9⟩ := hX.2.2.2.2.2.2.1 14 (by decide)
        refine xk_iQ (rest := [.ref o]) (c_Q_removeFirst l g B o lim τ 14 (by decide) hne) gd_X_Q_removeFirst hd_Q_removeFirst hC hW hX hS (xb_recv hK (ci := xi_Q) rfl hq9.1) trivial (by omega) (by omega) (by omega) (by omega) hl.1 rfl (Nat.le_of_ble_eq_true rfl) d_X_link_31 (fun v8 H locs hv hX hS hF => ?_)
        obtain ⟨b9, rfl, hz_4⟩ := hv
        have hok : xm_ok ((xs_q τ 14).headD xs_z0) := hok9 _ (by obtain ⟨z, t, h⟩ := hne; rw [h]; exact List.mem_cons_self)
        obtain ⟨v9, hXo, hXl⟩ := hX.1
        refine xk_iV (rest := []) (c_X_arrive l g B o lim (xm_pop τ 14) b9 ((xs_q τ 14).headD xs_z0) hok) gd_X_X_arrive hd_X_arrive hC hW hX hS (xb_recv hK (ci := xi_X) rfl hXo) hz_4 (by omega) (by omega) (by omega) (by omega) hl.1 rfl (Nat.le_of_ble_eq_true rfl) d_X_link_34 (fun H locs hX hS hF => ?_)
        have hz_4 := hz_4.F hX.2.2.2.2.2.2.2.1 hF
        refine lv_iinc (v := nI (i + 1)) (lv' := [(3, .int (nI (i + 1))), (2, .int (nI (xs_q (xs_sg σ u (xs_nx σ) (xs_lt σ)) 14).length)), (0, .ref o), (1, .int (xs_b u))]) hx hb d_X_link_37 hl (k := 0) rfl (nI_1 _) (by decide) rfl (fun ls hl => ?_)
        refine lv_goto (tgt := 21) hx hb d_X_link_40 (by decide) ?_
        exact ih (i + 1) (xm_arr (xm_pop τ 14) ((xs_q τ 14).headD xs_z0)) _ _ _ _ ls (by omega) hX hS  (by omega) (by omega) (lv_sub hl [0, 1, 2, 3] rfl) (by rw [← hres]; simp only [xm_lk, if_true, if_false, reduceIte, Bool.false_eq_true, Bool.true_eq_false, and_true, true_and, and_false, false_and, or_true, true_or, or_false, false_or, not_true_eq_false, not_false_eq_true] <;> rfl) (by rw [xm_q14_arr hok, xm_q_pop, List.length_tail, hln]; rfl) (fun z hz => hok9 z (List.mem_of_mem_tail (by rw [xm_q14_arr hok, xm_q_pop] at hz; exact hz)))
    exact loop ((xs_q σ 14).length) 0 (xp_link1 σ u) _ _ _ _ ls (by omega) hX hS  (by omega) (by omega) (lv_sub hl [0, 1, 2, 3] rfl) rfl rfl hwf.2.2
  · have c_1 := xs_b0 c_1
    refine lv_iconst (v := 0) hx hb d_X_link_9 (by decide) ?_
    exact xr_F hC hW hX hS (by omega) (by omega) (by unfold xp_link; rw [if_neg (by rw [c_1]; decide)]; rfl) d_X_link_10
set_option maxHeartbeats 4000000 in
set_option maxRecDepth 100000 in
theorem c_X_take (l : Launch) (hsl : l.stackTraces = false) (g : xw_G) (B : Nat → Prop) (o lim : Nat) (σ : xs_S) (x : Int32) : xc_F l y_X_take (Cond.code y_X_take b_X_take 4 (some .int)) g B o lim σ (xp_take σ x) [.ref o, .int x] 7 109 2 12 := by
  refine xh_F (own := R_X) (by decide) rfl (Nat.le_of_ble_eq_true rfl) ?_
  intro p e R s m below meth c ls hRf hRl hRc hRs hxt hC hW hl
  obtain ⟨hx, hb, hml, hr, hown, hts, hlk⟩ := id hC
  have hX := hW.1
  have hK := hW.2.1
  have hS : va_S (xw_A o s.heap.size) s.heap s.heap [] := va_S.rf
  have hl : lv_has ls 4 [(0, .ref o), (1, .int x)] := hl
  refine lv_iload_n hx hb d_X_take_0 rfl (lv_at hl 1 rfl) ?_
  refine xk_sQ (rest := []) (c_X_isConnection l g B o lim σ x) gd_X_X_isConnection hd_X_isConnection hC hW hX hS trivial (by omega) (by omega) (by omega) (by omega) hl.1 rfl (Nat.le_of_ble_eq_true rfl) d_X_take_1 (fun v8 H locs hv hX hS hF => ?_)
  obtain rfl := hv
  cases c_1 : (xm_in6 x) with
  | false =>
    refine xk_sX (rest := []) (c_X_checkArgument_0 l hsl g B o lim σ) gd_X_X_checkArgument hd_X_checkArgument hC hW hX hS trivial (by omega) (by omega) (by omega) (by omega) hl.1 rfl (Nat.le_of_ble_eq_true rfl) d_X_take_4 (fun ce9 q9 H locs hX hS e1 e2 e3 => ?_)
    exact xr_FX hC hxt hW hX hS (by omega) (by omega) e1 e2 e3 (k := 0) (v := 0) (by simp only [xp_take, c_1, if_true, if_false, reduceIte, Bool.false_eq_true, Bool.true_eq_false, and_true, true_and, and_false, false_and, or_true, true_or, or_false, false_or, not_true_eq_false, not_false_eq_true] <;> rfl) rfl
  | true =>
    refine xk_sV (rest := []) (c_X_checkArgument_1 l g B o lim σ) gd_X_X_checkArgument hd_X_checkArgument hC hW hX hS trivial (by omega) (by omega) (by omega) (by omega) hl.1 rfl (Nat.le_of_ble_eq_true rfl) d_X_take_4 (fun H locs hX hS hF => ?_)
    refine lv_aload_n hx hb d_X_take_7 rfl (lv_at hl 0 rfl) ?_
    obtain ⟨v9, hXo, hXl⟩ := hX.1
    refine gf_X_X_connections hx hb hts hown hK hXo rfl d_X_take_8 ?_
    refine lv_iload_n hx hb d_X_take_11 rfl (lv_at hl 1 rfl) ?_
    refine xb_aald (v := o + 36 + 3 * (xs_ix x)) hx hb hK 1 rfl hX.2.2.1 (xm_in6t c_1) rfl d_X_take_12 ?_
    refine gf_X_C_inbox hx hb hts hown hK (hX.2.2.2.2.2.1 (xs_ix x) (xs_ixl (xm_in6t c_1))) rfl d_X_take_13 ?_
    refine lv_astore_n (lv' := [(2, .ref (o + xs_qo (8 + (xs_ix x)))), (0, .ref o), (1, .int x)]) hx hb d_X_take_16 rfl hl (by decide) rfl (fun ls hl => ?_)
    refine lv_aload_n hx hb d_X_take_17 rfl (lv_at hl 0 rfl) ?_
    obtain ⟨f9, hq9, hl9, hz9⟩ := hX.2.2.2.2.2.2.1 (8 + (xs_ix x)) (xs_8 (xs_ixl (xm_in6t c_1)))
    refine gf_X_Q_size hx hb hts hown hK hq9.1 rfl d_X_take_18 ?_
    refine lv_if_ne (tgt := 32) hx hb d_X_take_21 (by decide) (fun c_2 => ?_) (fun c_2 => ?_)
    · refine lv_aload_n hx hb d_X_take_32 rfl (lv_at hl 0 rfl) ?_
      have hne := xm_len1 c_2
      obtain ⟨f9, hq9, hl9, hz9⟩ := hX.2.2.2.2.2.2.1 (8 + (xs_ix x)) (xs_8 (xs_ixl (xm_in6t c_1)))
      refine xk_iQ (rest := []) (c_Q_removeFirst l g B o lim σ (8 + (xs_ix x)) (xs_8 (xs_ixl (xm_in6t c_1))) hne) gd_X_Q_removeFirst hd_Q_removeFirst hC hW hX hS (xb_recv hK (ci := xi_Q) rfl hq9.1) trivial (by omega) (by omega) (by omega) (by omega) hl.1 rfl (Nat.le_of_ble_eq_true rfl) d_X_take_33 (fun v8 H locs hv hX hS hF => ?_)
      obtain ⟨b9, rfl, hz_3⟩ := hv
      refine lv_astore_n (lv' := [(3, .ref b9), (2, .ref (o + xs_qo (8 + (xs_ix x)))), (0, .ref o), (1, .int x)]) hx hb d_X_take_36 rfl hl (by decide) rfl (fun ls hl => ?_)
      refine lv_aload_n hx hb d_X_take_37 rfl (lv_at hl 2 rfl) ?_
      refine lv_aload_n hx hb d_X_take_38 rfl (lv_at hl 0 rfl) ?_
      refine pf_X_X_lastTaken hx hb hts hown hK hX hS hz_3 d_X_take_39 (fun H locs hX hS hF => ?_)
      have hz_3 := hz_3.F hX.2.2.2.2.2.2.2.1 hF
      refine lv_aload_n hx hb d_X_take_42 rfl (lv_at hl 0 rfl) ?_
      refine gf_X_Z_kind hx hb hts hown hK hz_3.1 rfl d_X_take_43 ?_
      exact xr_F hC hW hX hS (by omega) (by omega) (by obtain ⟨z9, t9, e9⟩ := hne; simp only [xp_take, c_1, c_2, e9, List.headD_cons, if_true, if_false, reduceIte, Bool.false_eq_true, Bool.true_eq_false, and_true, true_and, and_false, false_and, or_true, true_or, or_false, false_or, not_true_eq_false, not_false_eq_true] <;> rfl) d_X_take_46
    · exact xr_T hC hsl hxt hW hX hS hl.1 (k := 3) (v := 0) (by obtain ⟨f9, hq9, hl9, hz9⟩ := hX.2.2.2.2.2.2.1 (8 + xs_ix x) (xs_8 (xs_ixl (xm_in6t c_1))); have e9 := xm_len0 c_2 (Nat.lt_of_le_of_lt (Nat.le_trans hl9 (xs_rml _)) (by decide)); simp only [xp_take, c_1, c_2, e9, if_true, if_false, reduceIte, Bool.false_eq_true, Bool.true_eq_false, and_true, true_and, and_false, false_and, or_true, true_or, or_false, false_or, not_true_eq_false, not_false_eq_true]) rfl hkl_4 hii_4 hia_4 hat_4 d_X_take_24 d_X_take_27 d_X_take_28 d_X_take_31 (by omega) (by omega) (by omega) (by omega) (by omega) (by omega)
set_option maxHeartbeats 4000000 in
set_option maxRecDepth 100000 in
theorem c_X_taken (l : Launch) (hsl : l.stackTraces = false) (g : xw_G) (B : Nat → Prop) (o lim : Nat) (σ : xs_S) (x : Int32) : xc_F l y_X_taken (Cond.code y_X_taken b_X_taken 3 (some .int)) g B o lim σ (xp_taken σ x) [.ref o, .int x] 6 89 1 6 := by
  refine xh_F (own := R_X) (by decide) rfl (Nat.le_of_ble_eq_true rfl) ?_
  intro p e R s m below meth c ls hRf hRl hRc hRs hxt hC hW hl
  obtain ⟨hx, hb, hml, hr, hown, hts, hlk⟩ := id hC
  have hX := hW.1
  have hK := hW.2.1
  have hS : va_S (xw_A o s.heap.size) s.heap s.heap [] := va_S.rf
  have hl : lv_has ls 3 [(0, .ref o), (1, .int x)] := hl
  refine lv_aload_n hx hb d_X_taken_0 rfl (lv_at hl 0 rfl) ?_
  obtain ⟨v9, hXo, hXl⟩ := hX.1
  refine gf_X_X_lastTaken hx hb hts hown hK hXo rfl d_X_taken_1 ?_
  cases hlt : xs_lt σ with
  | none =>
    rw [hlt] at hXl
    obtain rfl : v9 = .null := hXl
    refine lv_astore_nN (lv' := [(2, .null), (0, .ref o), (1, .int x)]) hx hb d_X_taken_4 rfl hl (by decide) rfl (fun ls hl => ?_)
    refine lv_aload_nN hx hb d_X_taken_5 rfl (lv_at hl 0 rfl) ?_
    refine lv_ifnonnullN hx hb d_X_taken_6 ?_
    exact xr_T hC hsl hxt hW hX hS hl.1 (k := 3) (v := 0) (by simp only [xp_taken, hlt, xs_cn_scn, xs_nx_scn, xs_up_scn, xs_lt_scn, xs_q_scn, xs_ac_scn, xs_mk_scn, xs_ac_sac, xs_sac_sac, xs_nx_sg, xs_up_sg, xs_lt_sg, xs_cn_sg, xs_q_sg, if_true, if_false, reduceIte, Bool.false_eq_true, Bool.true_eq_false, and_true, true_and, and_false, false_and, or_true, true_or, or_false, false_or, not_true_eq_false, not_false_eq_true] <;> rfl) rfl hkl_4 hii_4 hia_4 hat_4 d_X_taken_9 d_X_taken_12 d_X_taken_13 d_X_taken_16 (by omega) (by omega) (by omega) (by omega) (by omega) (by omega)
  | some zt =>
    rw [hlt] at hXl
    obtain ⟨at9, rfl, hzt⟩ := hXl
    refine lv_astore_n (lv' := [(2, .ref at9), (0, .ref o), (1, .int x)]) hx hb d_X_taken_4 rfl hl (by decide) rfl (fun ls hl => ?_)
    refine lv_aload_n hx hb d_X_taken_5 rfl (lv_at hl 0 rfl) ?_
    refine lv_ifnonnull (tgt := 17) hx hb d_X_taken_6 (by decide) ?_
    refine lv_iload_n hx hb d_X_taken_17 rfl (lv_at hl 2 rfl) ?_
    by_cases c_1 : x = 0
    · refine lv_tableIn (tgt := 44) (off := 26) hx hb d_X_taken_18 (by rw [c_1]; decide) (by rw [c_1]; decide) (by rw [c_1]; rfl) (by decide) ?_
      refine lv_aload_n hx hb d_X_taken_44 rfl (lv_at hl 0 rfl) ?_
      refine gf_X_Z_from hx hb hts hown hK hzt.1 rfl d_X_taken_45 ?_
      exact xr_F hC hW hX hS (by omega) (by omega) (by simp only [xp_taken, hlt, c_1, xs_cn_scn, xs_nx_scn, xs_up_scn, xs_lt_scn, xs_q_scn, xs_ac_scn, xs_mk_scn, xs_ac_sac, xs_sac_sac, xs_nx_sg, xs_up_sg, xs_lt_sg, xs_cn_sg, xs_q_sg, if_true, if_false, reduceIte, Bool.false_eq_true, Bool.true_eq_false, and_true, true_and, and_false, false_and, or_true, true_or, or_false, false_or, not_true_eq_false, not_false_eq_true] <;> rfl) d_X_taken_48
    by_cases c_2 : x = 1
    · refine lv_tableIn (tgt := 49) (off := 31) hx hb d_X_taken_18 (by rw [c_2]; decide) (by rw [c_2]; decide) (by rw [c_2]; rfl) (by decide) ?_
      refine lv_aload_n hx hb d_X_taken_49 rfl (lv_at hl 0 rfl) ?_
      refine gf_X_Z_resource hx hb hts hown hK hzt.1 rfl d_X_taken_50 ?_
      exact xr_F hC hW hX hS (by omega) (by omega) (by simp only [xp_taken, hlt, c_1, c_2, xs_cn_scn, xs_nx_scn, xs_up_scn, xs_lt_scn, xs_q_scn, xs_ac_scn, xs_mk_scn, xs_ac_sac, xs_sac_sac, xs_nx_sg, xs_up_sg, xs_lt_sg, xs_cn_sg, xs_q_sg, if_true, if_false, reduceIte, Bool.false_eq_true, Bool.true_eq_false, and_true, true_and, and_false, false_and, or_true, true_or, or_false, false_or, not_true_eq_false, not_false_eq_true] <;> rfl) d_X_taken_53
    by_cases c_3 : x = 2
    · refine lv_tableIn (tgt := 54) (off := 36) hx hb d_X_taken_18 (by rw [c_3]; decide) (by rw [c_3]; decide) (by rw [c_3]; rfl) (by decide) ?_
      refine lv_aload_n hx hb d_X_taken_54 rfl (lv_at hl 0 rfl) ?_
      refine gf_X_Z_value hx hb hts hown hK hzt.1 rfl d_X_taken_55 ?_
      exact xr_F hC hW hX hS (by omega) (by omega) (by simp only [xp_taken, hlt, c_1, c_2, c_3, xs_cn_scn, xs_nx_scn, xs_up_scn, xs_lt_scn, xs_q_scn, xs_ac_scn, xs_mk_scn, xs_ac_sac, xs_sac_sac, xs_nx_sg, xs_up_sg, xs_lt_sg, xs_cn_sg, xs_q_sg, if_true, if_false, reduceIte, Bool.false_eq_true, Bool.true_eq_false, and_true, true_and, and_false, false_and, or_true, true_or, or_false, false_or, not_true_eq_false, not_false_eq_true] <;> rfl) d_X_taken_58
    refine lv_tableOut (tgt := 59) hx hb d_X_taken_18 (by have q0 := lv_neT c_1 (a := 0) rfl; have q1 := lv_neT c_2 (a := 1) rfl; have q2 := lv_neT c_3 (a := 2) rfl; omega) (by decide) ?_
    exact xr_T hC hsl hxt hW hX hS hl.1 (k := 0) (v := 0) (by simp only [xp_taken, hlt, c_1, c_2, c_3, xs_cn_scn, xs_nx_scn, xs_up_scn, xs_lt_scn, xs_q_scn, xs_ac_scn, xs_mk_scn, xs_ac_sac, xs_sac_sac, xs_nx_sg, xs_up_sg, xs_lt_sg, xs_cn_sg, xs_q_sg, if_true, if_false, reduceIte, Bool.false_eq_true, Bool.true_eq_false, and_true, true_and, and_false, false_and, or_true, true_or, or_false, false_or, not_true_eq_false, not_false_eq_true] <;> rfl) rfl hkl_1 hii_1 hia_1 hat_1 d_X_taken_59 d_X_taken_62 d_X_taken_63 d_X_taken_66 (by omega) (by omega) (by omega) (by omega) (by omega) (by omega)
set_option maxHeartbeats 4000000 in
set_option maxRecDepth 100000 in
theorem c_X_roster (l : Launch) (hsl : l.stackTraces = false) (g : xw_G) (B : Nat → Prop) (o lim : Nat) (σ : xs_S) (x : Int32) (y : Int32) : xc_F l y_X_roster (Cond.code y_X_roster b_X_roster 3 (some .int)) g B o lim σ (xp_roster σ x y) [.ref o, .int x, .int y] 7 109 1 6 := by
  refine xh_F (own := R_X) (by decide) rfl (Nat.le_of_ble_eq_true rfl) ?_
  intro p e R s m below meth c ls hRf hRl hRc hRs hxt hC hW hl
  obtain ⟨hx, hb, hml, hr, hown, hts, hlk⟩ := id hC
  have hX := hW.1
  have hK := hW.2.1
  have hS : va_S (xw_A o s.heap.size) s.heap s.heap [] := va_S.rf
  have hl : lv_has ls 3 [(0, .ref o), (1, .int x), (2, .int y)] := hl
  refine lv_iload_n hx hb d_X_roster_0 rfl (lv_at hl 1 rfl) ?_
  refine xk_sQ (rest := []) (c_X_isAccount l g B o lim σ x) gd_X_X_isAccount hd_X_isAccount hC hW hX hS trivial (by omega) (by omega) (by omega) (by omega) hl.1 rfl (Nat.le_of_ble_eq_true rfl) d_X_roster_1 (fun v8 H locs hv hX hS hF => ?_)
  obtain rfl := hv
  refine lv_if_eq (tgt := 18) hx hb d_X_roster_4 (by decide) (fun c_1 => ?_) (fun c_1 => ?_)
  · have c_1 := xs_b0 c_1
    refine lv_iconst (v := 0) hx hb d_X_roster_18 (by decide) ?_
    refine xk_sX (rest := []) (c_X_checkArgument_0 l hsl g B o lim σ) gd_X_X_checkArgument hd_X_checkArgument hC hW hX hS trivial (by omega) (by omega) (by omega) (by omega) hl.1 rfl (Nat.le_of_ble_eq_true rfl) d_X_roster_19 (fun ce9 q9 H locs hX hS e1 e2 e3 => ?_)
    exact xr_FX hC hxt hW hX hS (by omega) (by omega) e1 e2 e3 (k := 0) (v := 0) (by simp only [xp_roster, c_1, if_true, if_false, reduceIte, Bool.false_eq_true, Bool.true_eq_false, and_true, true_and, and_false, false_and, or_true, true_or, or_false, false_or, not_true_eq_false, not_false_eq_true] <;> rfl) rfl
  · have c_1 := xs_b1 c_1
    refine lv_iload_n hx hb d_X_roster_7 rfl (lv_at hl 2 rfl) ?_
    refine xk_sQ (rest := []) (c_X_isAccount l g B o lim σ y) gd_X_X_isAccount hd_X_isAccount hC hW hX hS trivial (by omega) (by omega) (by omega) (by omega) hl.1 rfl (Nat.le_of_ble_eq_true rfl) d_X_roster_8 (fun v8 H locs hv hX hS hF => ?_)
    obtain rfl := hv
    refine lv_if_eq (tgt := 18) hx hb d_X_roster_11 (by decide) (fun c_2 => ?_) (fun c_2 => ?_)
    · have c_2 := xs_b0 c_2
      refine lv_iconst (v := 0) hx hb d_X_roster_18 (by decide) ?_
      refine xk_sX (rest := []) (c_X_checkArgument_0 l hsl g B o lim σ) gd_X_X_checkArgument hd_X_checkArgument hC hW hX hS trivial (by omega) (by omega) (by omega) (by omega) hl.1 rfl (Nat.le_of_ble_eq_true rfl) d_X_roster_19 (fun ce9 q9 H locs hX hS e1 e2 e3 => ?_)
      exact xr_FX hC hxt hW hX hS (by omega) (by omega) e1 e2 e3 (k := 0) (v := 0) (by simp only [xp_roster, c_1, c_2, if_true, if_false, reduceIte, Bool.false_eq_true, Bool.true_eq_false, and_true, true_and, and_false, false_and, or_true, true_or, or_false, false_or, not_true_eq_false, not_false_eq_true] <;> rfl) rfl
    · have c_2 := xs_b1 c_2
      refine lv_iconst (v := 1) hx hb d_X_roster_14 (by decide) ?_
      refine lv_goto (tgt := 19) hx hb d_X_roster_15 (by decide) ?_
      refine xk_sV (rest := []) (c_X_checkArgument_1 l g B o lim σ) gd_X_X_checkArgument hd_X_checkArgument hC hW hX hS trivial (by omega) (by omega) (by omega) (by omega) hl.1 rfl (Nat.le_of_ble_eq_true rfl) d_X_roster_19 (fun H locs hX hS hF => ?_)
      refine lv_aload_n hx hb d_X_roster_22 rfl (lv_at hl 0 rfl) ?_
      obtain ⟨v9, hXo, hXl⟩ := hX.1
      refine gf_X_X_accounts hx hb hts hown hK hXo rfl d_X_roster_23 ?_
      refine lv_iload_n hx hb d_X_roster_26 rfl (lv_at hl 1 rfl) ?_
      refine xb_aald (v := o + 3 + 4 * (xs_ix x)) hx hb hK 0 rfl hX.2.1 (xm_in8t c_1) rfl d_X_roster_27 ?_
      refine gf_X_A_marks hx hb hts hown hK (hX.2.2.2.1 (xs_ix x) (xs_ixl (xm_in8t c_1))) rfl d_X_roster_28 ?_
      refine lv_iload_n hx hb d_X_roster_31 rfl (lv_at hl 2 rfl) ?_
      refine xb_iald hx hb hK 3 rfl (hX.2.2.2.2.1 (xs_ix x) (xs_ixl (xm_in8t c_1))) (xm_in8t c_2) d_X_roster_32 ?_
      exact xr_F hC hW hX hS (by omega) (by omega) (by simp only [xp_roster, c_1, c_2, xs_cn_scn, xs_nx_scn, xs_up_scn, xs_lt_scn, xs_q_scn, xs_ac_scn, xs_mk_scn, xs_ac_sac, xs_sac_sac, xs_nx_sg, xs_up_sg, xs_lt_sg, xs_cn_sg, xs_q_sg, if_true, if_false, reduceIte, Bool.false_eq_true, Bool.true_eq_false, and_true, true_and, and_false, false_and, or_true, true_or, or_false, false_or, not_true_eq_false, not_false_eq_true] <;> rfl) d_X_roster_33
set_option maxHeartbeats 4000000 in
set_option maxRecDepth 100000 in
theorem c_X_connection (l : Launch) (hsl : l.stackTraces = false) (g : xw_G) (B : Nat → Prop) (o lim : Nat) (σ : xs_S) (x : Int32) (y : Int32) : xc_F l y_X_connection (Cond.code y_X_connection b_X_connection 4 (some .int)) g B o lim σ (xp_connection σ x y) [.ref o, .int x, .int y] 7 109 2 12 := by
  refine xh_F (own := R_X) (by decide) rfl (Nat.le_of_ble_eq_true rfl) ?_
  intro p e R s m below meth c ls hRf hRl hRc hRs hxt hC hW hl
  obtain ⟨hx, hb, hml, hr, hown, hts, hlk⟩ := id hC
  have hX := hW.1
  have hK := hW.2.1
  have hS : va_S (xw_A o s.heap.size) s.heap s.heap [] := va_S.rf
  have hl : lv_has ls 4 [(0, .ref o), (1, .int x), (2, .int y)] := hl
  refine lv_iload_n hx hb d_X_connection_0 rfl (lv_at hl 1 rfl) ?_
  refine xk_sQ (rest := []) (c_X_isConnection l g B o lim σ x) gd_X_X_isConnection hd_X_isConnection hC hW hX hS trivial (by omega) (by omega) (by omega) (by omega) hl.1 rfl (Nat.le_of_ble_eq_true rfl) d_X_connection_1 (fun v8 H locs hv hX hS hF => ?_)
  obtain rfl := hv
  cases c_1 : (xm_in6 x) with
  | false =>
    refine xk_sX (rest := []) (c_X_checkArgument_0 l hsl g B o lim σ) gd_X_X_checkArgument hd_X_checkArgument hC hW hX hS trivial (by omega) (by omega) (by omega) (by omega) hl.1 rfl (Nat.le_of_ble_eq_true rfl) d_X_connection_4 (fun ce9 q9 H locs hX hS e1 e2 e3 => ?_)
    exact xr_FX hC hxt hW hX hS (by omega) (by omega) e1 e2 e3 (k := 0) (v := 0) (by simp only [xp_connection, xs_b, c_1, if_true, if_false, reduceIte, Bool.false_eq_true, Bool.true_eq_false, and_true, true_and, and_false, false_and, or_true, true_or, or_false, false_or, not_true_eq_false, not_false_eq_true] <;> rfl) rfl
  | true =>
    refine xk_sV (rest := []) (c_X_checkArgument_1 l g B o lim σ) gd_X_X_checkArgument hd_X_checkArgument hC hW hX hS trivial (by omega) (by omega) (by omega) (by omega) hl.1 rfl (Nat.le_of_ble_eq_true rfl) d_X_connection_4 (fun H locs hX hS hF => ?_)
    refine lv_aload_n hx hb d_X_connection_7 rfl (lv_at hl 0 rfl) ?_
    obtain ⟨v9, hXo, hXl⟩ := hX.1
    refine gf_X_X_connections hx hb hts hown hK hXo rfl d_X_connection_8 ?_
    refine lv_iload_n hx hb d_X_connection_11 rfl (lv_at hl 1 rfl) ?_
    refine xb_aald (v := o + 36 + 3 * (xs_ix x)) hx hb hK 1 rfl hX.2.2.1 (xm_in6t c_1) rfl d_X_connection_12 ?_
    refine lv_astore_n (lv' := [(3, .ref (o + 36 + 3 * (xs_ix x))), (0, .ref o), (1, .int x), (2, .int y)]) hx hb d_X_connection_13 rfl hl (by decide) rfl (fun ls hl => ?_)
    refine lv_iload_n hx hb d_X_connection_14 rfl (lv_at hl 3 rfl) ?_
    by_cases c_2 : y = 0
    · refine lv_tableIn (tgt := 48) (off := 33) hx hb d_X_connection_15 (by rw [c_2]; decide) (by rw [c_2]; decide) (by rw [c_2]; rfl) (by decide) ?_
      refine lv_aload_n hx hb d_X_connection_48 rfl (lv_at hl 0 rfl) ?_
      refine gf_X_C_stage hx hb hts hown hK (hX.2.2.2.2.2.1 (xs_ix x) (xs_ixl (xm_in6t c_1))) rfl d_X_connection_49 ?_
      exact xr_F hC hW hX hS (by omega) (by omega) (by simp only [xp_connection, xs_b, c_1, c_2, xs_cn_scn, xs_nx_scn, xs_up_scn, xs_lt_scn, xs_q_scn, xs_ac_scn, xs_mk_scn, xs_ac_sac, xs_sac_sac, xs_nx_sg, xs_up_sg, xs_lt_sg, xs_cn_sg, xs_q_sg, if_true, if_false, reduceIte, Bool.false_eq_true, Bool.true_eq_false, and_true, true_and, and_false, false_and, or_true, true_or, or_false, false_or, not_true_eq_false, not_false_eq_true] <;> rfl) d_X_connection_52
    by_cases c_3 : y = 1
    · refine lv_tableIn (tgt := 53) (off := 38) hx hb d_X_connection_15 (by rw [c_3]; decide) (by rw [c_3]; decide) (by rw [c_3]; rfl) (by decide) ?_
      refine lv_aload_n hx hb d_X_connection_53 rfl (lv_at hl 0 rfl) ?_
      refine gf_X_C_account hx hb hts hown hK (hX.2.2.2.2.2.1 (xs_ix x) (xs_ixl (xm_in6t c_1))) rfl d_X_connection_54 ?_
      exact xr_F hC hW hX hS (by omega) (by omega) (by simp only [xp_connection, xs_b, c_1, c_2, c_3, xs_cn_scn, xs_nx_scn, xs_up_scn, xs_lt_scn, xs_q_scn, xs_ac_scn, xs_mk_scn, xs_ac_sac, xs_sac_sac, xs_nx_sg, xs_up_sg, xs_lt_sg, xs_cn_sg, xs_q_sg, if_true, if_false, reduceIte, Bool.false_eq_true, Bool.true_eq_false, and_true, true_and, and_false, false_and, or_true, true_or, or_false, false_or, not_true_eq_false, not_false_eq_true] <;> rfl) d_X_connection_57
    by_cases c_4 : y = 2
    · refine lv_tableIn (tgt := 58) (off := 43) hx hb d_X_connection_15 (by rw [c_4]; decide) (by rw [c_4]; decide) (by rw [c_4]; rfl) (by decide) ?_
      refine lv_aload_n hx hb d_X_connection_58 rfl (lv_at hl 0 rfl) ?_
      refine gf_X_C_resource hx hb hts hown hK (hX.2.2.2.2.2.1 (xs_ix x) (xs_ixl (xm_in6t c_1))) rfl d_X_connection_59 ?_
      exact xr_F hC hW hX hS (by omega) (by omega) (by simp only [xp_connection, xs_b, c_1, c_2, c_3, c_4, xs_cn_scn, xs_nx_scn, xs_up_scn, xs_lt_scn, xs_q_scn, xs_ac_scn, xs_mk_scn, xs_ac_sac, xs_sac_sac, xs_nx_sg, xs_up_sg, xs_lt_sg, xs_cn_sg, xs_q_sg, if_true, if_false, reduceIte, Bool.false_eq_true, Bool.true_eq_false, and_true, true_and, and_false, false_and, or_true, true_or, or_false, false_or, not_true_eq_false, not_false_eq_true] <;> rfl) d_X_connection_62
    by_cases c_5 : y = 3
    · refine lv_tableIn (tgt := 63) (off := 48) hx hb d_X_connection_15 (by rw [c_5]; decide) (by rw [c_5]; decide) (by rw [c_5]; rfl) (by decide) ?_
      refine lv_aload_n hx hb d_X_connection_63 rfl (lv_at hl 0 rfl) ?_
      refine gf_X_C_available hx hb hts hown hK (hX.2.2.2.2.2.1 (xs_ix x) (xs_ixl (xm_in6t c_1))) rfl d_X_connection_64 ?_
      refine lv_if_eq (tgt := 74) hx hb d_X_connection_67 (by decide) (fun c_6 => ?_) (fun c_6 => ?_)
      · have c_6 := xs_b0 c_6
        refine lv_iconst (v := 0) hx hb d_X_connection_74 (by decide) ?_
        exact xr_F hC hW hX hS (by omega) (by omega) (by simp only [xp_connection, xs_b, c_1, c_2, c_3, c_4, c_5, c_6, xs_cn_scn, xs_nx_scn, xs_up_scn, xs_lt_scn, xs_q_scn, xs_ac_scn, xs_mk_scn, xs_ac_sac, xs_sac_sac, xs_nx_sg, xs_up_sg, xs_lt_sg, xs_cn_sg, xs_q_sg, if_true, if_false, reduceIte, Bool.false_eq_true, Bool.true_eq_false, and_true, true_and, and_false, false_and, or_true, true_or, or_false, false_or, not_true_eq_false, not_false_eq_true] <;> rfl) d_X_connection_75
      · have c_6 := xs_b1 c_6
        refine lv_iconst (v := 1) hx hb d_X_connection_70 (by decide) ?_
        refine lv_goto (tgt := 75) hx hb d_X_connection_71 (by decide) ?_
        exact xr_F hC hW hX hS (by omega) (by omega) (by simp only [xp_connection, xs_b, c_1, c_2, c_3, c_4, c_5, c_6, xs_cn_scn, xs_nx_scn, xs_up_scn, xs_lt_scn, xs_q_scn, xs_ac_scn, xs_mk_scn, xs_ac_sac, xs_sac_sac, xs_nx_sg, xs_up_sg, xs_lt_sg, xs_cn_sg, xs_q_sg, if_true, if_false, reduceIte, Bool.false_eq_true, Bool.true_eq_false, and_true, true_and, and_false, false_and, or_true, true_or, or_false, false_or, not_true_eq_false, not_false_eq_true] <;> rfl) d_X_connection_75
    by_cases c_7 : y = 4
    · refine lv_tableIn (tgt := 76) (off := 61) hx hb d_X_connection_15 (by rw [c_7]; decide) (by rw [c_7]; decide) (by rw [c_7]; rfl) (by decide) ?_
      refine lv_aload_n hx hb d_X_connection_76 rfl (lv_at hl 0 rfl) ?_
      refine gf_X_C_inbox hx hb hts hown hK (hX.2.2.2.2.2.1 (xs_ix x) (xs_ixl (xm_in6t c_1))) rfl d_X_connection_77 ?_
      obtain ⟨f9, hq9, hl9, hz9⟩ := hX.2.2.2.2.2.2.1 (8 + (xs_ix x)) (xs_8 (xs_ixl (xm_in6t c_1)))
      refine gf_X_Q_size hx hb hts hown hK hq9.1 rfl d_X_connection_80 ?_
      exact xr_F hC hW hX hS (by omega) (by omega) (by simp only [xp_connection, xs_b, c_1, c_2, c_3, c_4, c_5, c_7, xs_cn_scn, xs_nx_scn, xs_up_scn, xs_lt_scn, xs_q_scn, xs_ac_scn, xs_mk_scn, xs_ac_sac, xs_sac_sac, xs_nx_sg, xs_up_sg, xs_lt_sg, xs_cn_sg, xs_q_sg, if_true, if_false, reduceIte, Bool.false_eq_true, Bool.true_eq_false, and_true, true_and, and_false, false_and, or_true, true_or, or_false, false_or, not_true_eq_false, not_false_eq_true] <;> rfl) d_X_connection_83
    refine lv_tableOut (tgt := 84) hx hb d_X_connection_15 (by have q0 := lv_neT c_2 (a := 0) rfl; have q1 := lv_neT c_3 (a := 1) rfl; have q2 := lv_neT c_4 (a := 2) rfl; have q3 := lv_neT c_5 (a := 3) rfl; have q4 := lv_neT c_7 (a := 4) rfl; omega) (by decide) ?_
    exact xr_T hC hsl hxt hW hX hS hl.1 (k := 0) (v := 0) (by simp only [xp_connection, xs_b, c_1, c_2, c_3, c_4, c_5, c_7, xs_cn_scn, xs_nx_scn, xs_up_scn, xs_lt_scn, xs_q_scn, xs_ac_scn, xs_mk_scn, xs_ac_sac, xs_sac_sac, xs_nx_sg, xs_up_sg, xs_lt_sg, xs_cn_sg, xs_q_sg, if_true, if_false, reduceIte, Bool.false_eq_true, Bool.true_eq_false, and_true, true_and, and_false, false_and, or_true, true_or, or_false, false_or, not_true_eq_false, not_false_eq_true] <;> rfl) rfl hkl_1 hii_1 hia_1 hat_1 d_X_connection_84 d_X_connection_87 d_X_connection_88 d_X_connection_91 (by omega) (by omega) (by omega) (by omega) (by omega) (by omega)
set_option maxHeartbeats 4000000 in
set_option maxRecDepth 100000 in
theorem c_X_count (l : Launch) (hsl : l.stackTraces = false) (g : xw_G) (B : Nat → Prop) (o lim : Nat) (σ : xs_S) (x : Int32) : xc_F l y_X_count (Cond.code y_X_count b_X_count 2 (some .int)) g B o lim σ (xp_count σ x) [.ref o, .int x] 7 109 1 6 := by
  refine xh_F (own := R_X) (by decide) rfl (Nat.le_of_ble_eq_true rfl) ?_
  intro p e R s m below meth c ls hRf hRl hRc hRs hxt hC hW hl
  obtain ⟨hx, hb, hml, hr, hown, hts, hlk⟩ := id hC
  have hX := hW.1
  have hK := hW.2.1
  have hS : va_S (xw_A o s.heap.size) s.heap s.heap [] := va_S.rf
  have hl : lv_has ls 2 [(0, .ref o), (1, .int x)] := hl
  refine lv_iload_n hx hb d_X_count_0 rfl (lv_at hl 1 rfl) ?_
  by_cases c_1 : x = 0
  · refine lv_tableIn (tgt := 32) (off := 31) hx hb d_X_count_1 (by rw [c_1]; decide) (by rw [c_1]; decide) (by rw [c_1]; rfl) (by decide) ?_
    refine lv_aload_n hx hb d_X_count_32 rfl (lv_at hl 0 rfl) ?_
    obtain ⟨v9, hXo, hXl⟩ := hX.1
    refine xk_iQ (rest := []) (c_X_keptForAll l g B o lim σ) gd_X_X_keptForAll hd_X_keptForAll hC hW hX hS (xb_recv hK (ci := xi_X) rfl hXo) trivial (by omega) (by omega) (by omega) (by omega) hl.1 rfl (Nat.le_of_ble_eq_true rfl) d_X_count_33 (fun v8 H locs hv hX hS hF => ?_)
    obtain rfl := hv
    exact xr_F hC hW hX hS (by omega) (by omega) (by simp only [xp_count, xs_b, c_1, xs_cn_scn, xs_nx_scn, xs_up_scn, xs_lt_scn, xs_q_scn, xs_ac_scn, xs_mk_scn, xs_ac_sac, xs_sac_sac, xs_nx_sg, xs_up_sg, xs_lt_sg, xs_cn_sg, xs_q_sg, if_true, if_false, reduceIte, Bool.false_eq_true, Bool.true_eq_false, and_true, true_and, and_false, false_and, or_true, true_or, or_false, false_or, not_true_eq_false, not_false_eq_true] <;> rfl) d_X_count_36
  by_cases c_2 : x = 1
  · refine lv_tableIn (tgt := 37) (off := 36) hx hb d_X_count_1 (by rw [c_2]; decide) (by rw [c_2]; decide) (by rw [c_2]; rfl) (by decide) ?_
    refine lv_aload_n hx hb d_X_count_37 rfl (lv_at hl 0 rfl) ?_
    obtain ⟨v9, hXo, hXl⟩ := hX.1
    refine gf_X_X_waiting hx hb hts hown hK hXo rfl d_X_count_38 ?_
    obtain ⟨f9, hq9, hl9, hz9⟩ := hX.2.2.2.2.2.2.1 14 (by decide)
    refine gf_X_Q_size hx hb hts hown hK hq9.1 rfl d_X_count_41 ?_
    exact xr_F hC hW hX hS (by omega) (by omega) (by simp only [xp_count, xs_b, c_1, c_2, xs_cn_scn, xs_nx_scn, xs_up_scn, xs_lt_scn, xs_q_scn, xs_ac_scn, xs_mk_scn, xs_ac_sac, xs_sac_sac, xs_nx_sg, xs_up_sg, xs_lt_sg, xs_cn_sg, xs_q_sg, if_true, if_false, reduceIte, Bool.false_eq_true, Bool.true_eq_false, and_true, true_and, and_false, false_and, or_true, true_or, or_false, false_or, not_true_eq_false, not_false_eq_true] <;> rfl) d_X_count_44
  by_cases c_3 : x = 2
  · refine lv_tableIn (tgt := 45) (off := 44) hx hb d_X_count_1 (by rw [c_3]; decide) (by rw [c_3]; decide) (by rw [c_3]; rfl) (by decide) ?_
    refine lv_aload_n hx hb d_X_count_45 rfl (lv_at hl 0 rfl) ?_
    obtain ⟨v9, hXo, hXl⟩ := hX.1
    refine xk_iQ (rest := []) (c_X_lostByAll l g B o lim σ) gd_X_X_lostByAll hd_X_lostByAll hC hW hX hS (xb_recv hK (ci := xi_X) rfl hXo) trivial (by omega) (by omega) (by omega) (by omega) hl.1 rfl (Nat.le_of_ble_eq_true rfl) d_X_count_46 (fun v8 H locs hv hX hS hF => ?_)
    obtain rfl := hv
    exact xr_F hC hW hX hS (by omega) (by omega) (by simp only [xp_count, xs_b, c_1, c_2, c_3, xs_cn_scn, xs_nx_scn, xs_up_scn, xs_lt_scn, xs_q_scn, xs_ac_scn, xs_mk_scn, xs_ac_sac, xs_sac_sac, xs_nx_sg, xs_up_sg, xs_lt_sg, xs_cn_sg, xs_q_sg, if_true, if_false, reduceIte, Bool.false_eq_true, Bool.true_eq_false, and_true, true_and, and_false, false_and, or_true, true_or, or_false, false_or, not_true_eq_false, not_false_eq_true] <;> rfl) d_X_count_49
  by_cases c_4 : x = 3
  · refine lv_tableIn (tgt := 50) (off := 49) hx hb d_X_count_1 (by rw [c_4]; decide) (by rw [c_4]; decide) (by rw [c_4]; rfl) (by decide) ?_
    refine lv_aload_n hx hb d_X_count_50 rfl (lv_at hl 0 rfl) ?_
    obtain ⟨v9, hXo, hXl⟩ := hX.1
    refine gf_X_X_linkUp hx hb hts hown hK hXo rfl d_X_count_51 ?_
    refine lv_if_eq (tgt := 61) hx hb d_X_count_54 (by decide) (fun c_5 => ?_) (fun c_5 => ?_)
    · have c_5 := xs_b0 c_5
      refine lv_iconst (v := 0) hx hb d_X_count_61 (by decide) ?_
      exact xr_F hC hW hX hS (by omega) (by omega) (by simp only [xp_count, xs_b, c_1, c_2, c_3, c_4, c_5, xs_cn_scn, xs_nx_scn, xs_up_scn, xs_lt_scn, xs_q_scn, xs_ac_scn, xs_mk_scn, xs_ac_sac, xs_sac_sac, xs_nx_sg, xs_up_sg, xs_lt_sg, xs_cn_sg, xs_q_sg, if_true, if_false, reduceIte, Bool.false_eq_true, Bool.true_eq_false, and_true, true_and, and_false, false_and, or_true, true_or, or_false, false_or, not_true_eq_false, not_false_eq_true] <;> rfl) d_X_count_62
    · have c_5 := xs_b1 c_5
      refine lv_iconst (v := 1) hx hb d_X_count_57 (by decide) ?_
      refine lv_goto (tgt := 62) hx hb d_X_count_58 (by decide) ?_
      exact xr_F hC hW hX hS (by omega) (by omega) (by simp only [xp_count, xs_b, c_1, c_2, c_3, c_4, c_5, xs_cn_scn, xs_nx_scn, xs_up_scn, xs_lt_scn, xs_q_scn, xs_ac_scn, xs_mk_scn, xs_ac_sac, xs_sac_sac, xs_nx_sg, xs_up_sg, xs_lt_sg, xs_cn_sg, xs_q_sg, if_true, if_false, reduceIte, Bool.false_eq_true, Bool.true_eq_false, and_true, true_and, and_false, false_and, or_true, true_or, or_false, false_or, not_true_eq_false, not_false_eq_true] <;> rfl) d_X_count_62
  refine lv_tableOut (tgt := 63) hx hb d_X_count_1 (by have q0 := lv_neT c_1 (a := 0) rfl; have q1 := lv_neT c_2 (a := 1) rfl; have q2 := lv_neT c_3 (a := 2) rfl; have q3 := lv_neT c_4 (a := 3) rfl; omega) (by decide) ?_
  refine lv_iload_n hx hb d_X_count_63 rfl (lv_at hl 1 rfl) ?_
  refine lv_iconst (v := 4) hx hb d_X_count_64 (by decide) ?_
  refine lv_icmp_lt (tgt := 78) hx hb d_X_count_65 (by decide) (fun c_6 => ?_) (fun c_6 => ?_)
  · refine lv_iconst (v := 0) hx hb d_X_count_78 (by decide) ?_
    refine xk_sX (rest := []) (c_X_checkArgument_0 l hsl g B o lim σ) gd_X_X_checkArgument hd_X_checkArgument hC hW hX hS trivial (by omega) (by omega) (by omega) (by omega) hl.1 rfl (Nat.le_of_ble_eq_true rfl) d_X_count_79 (fun ce9 q9 H locs hX hS e1 e2 e3 => ?_)
    exact xr_FX hC hxt hW hX hS (by omega) (by omega) e1 e2 e3 (k := 0) (v := 0) (by simp only [xp_count, xs_b, c_1, c_2, c_3, c_4, c_6, if_true, if_false, reduceIte, Bool.false_eq_true, Bool.true_eq_false, and_true, true_and, and_false, false_and, or_true, true_or, or_false, false_or, not_true_eq_false, not_false_eq_true] <;> rfl) rfl
  · refine lv_iload_n hx hb d_X_count_68 rfl (lv_at hl 1 rfl) ?_
    refine lv_bipush (v := 12) hx hb d_X_count_69 (by decide) ?_
    refine lv_icmp_ge (tgt := 78) hx hb d_X_count_71 (by decide) (fun c_7 => ?_) (fun c_7 => ?_)
    · refine lv_iconst (v := 0) hx hb d_X_count_78 (by decide) ?_
      refine xk_sX (rest := []) (c_X_checkArgument_0 l hsl g B o lim σ) gd_X_X_checkArgument hd_X_checkArgument hC hW hX hS trivial (by omega) (by omega) (by omega) (by omega) hl.1 rfl (Nat.le_of_ble_eq_true rfl) d_X_count_79 (fun ce9 q9 H locs hX hS e1 e2 e3 => ?_)
      exact xr_FX hC hxt hW hX hS (by omega) (by omega) e1 e2 e3 (k := 0) (v := 0) (by simp only [xp_count, xs_b, c_1, c_2, c_3, c_4, c_6, c_7, if_true, if_false, reduceIte, Bool.false_eq_true, Bool.true_eq_false, and_true, true_and, and_false, false_and, or_true, true_or, or_false, false_or, not_true_eq_false, not_false_eq_true] <;> rfl) rfl
    · refine lv_iconst (v := 1) hx hb d_X_count_74 (by decide) ?_
      refine lv_goto (tgt := 79) hx hb d_X_count_75 (by decide) ?_
      refine xk_sV (rest := []) (c_X_checkArgument_1 l g B o lim σ) gd_X_X_checkArgument hd_X_checkArgument hC hW hX hS trivial (by omega) (by omega) (by omega) (by omega) hl.1 rfl (Nat.le_of_ble_eq_true rfl) d_X_count_79 (fun H locs hX hS hF => ?_)
      refine lv_aload_n hx hb d_X_count_82 rfl (lv_at hl 0 rfl) ?_
      obtain ⟨v9, hXo, hXl⟩ := hX.1
      refine gf_X_X_accounts hx hb hts hown hK hXo rfl d_X_count_83 ?_
      have hx4 := xm_x4 c_6 c_7
      refine lv_iload_n hx hb d_X_count_86 rfl (lv_at hl 1 rfl) ?_
      refine lv_iconst (v := 4) hx hb d_X_count_87 (by decide) ?_
      refine lv_isub hx hb d_X_count_88 ?_
      refine xb_aald (v := o + 3 + 4 * (xs_ix (x - 4))) hx hb hK 0 rfl hX.2.1 hx4 rfl d_X_count_89 ?_
      refine gf_X_A_kept hx hb hts hown hK (hX.2.2.2.1 (xs_ix (x - 4)) (xs_ixl hx4)) rfl d_X_count_90 ?_
      obtain ⟨f9, hq9, hl9, hz9⟩ := hX.2.2.2.2.2.2.1 (xs_ix (x - 4)) (Nat.lt_of_lt_of_le (xs_ixl hx4) (by decide))
      refine gf_X_Q_size hx hb hts hown hK hq9.1 rfl d_X_count_93 ?_
      exact xr_F hC hW hX hS (by omega) (by omega) (by simp only [xp_count, xs_b, c_1, c_2, c_3, c_4, c_6, c_7, xs_cn_scn, xs_nx_scn, xs_up_scn, xs_lt_scn, xs_q_scn, xs_ac_scn, xs_mk_scn, xs_ac_sac, xs_sac_sac, xs_nx_sg, xs_up_sg, xs_lt_sg, xs_cn_sg, xs_q_sg, if_true, if_false, reduceIte, Bool.false_eq_true, Bool.true_eq_false, and_true, true_and, and_false, false_and, or_true, true_or, or_false, false_or, not_true_eq_false, not_false_eq_true] <;> rfl) d_X_count_96
