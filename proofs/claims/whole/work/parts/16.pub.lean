/-! The face, by program. -/
set_option maxHeartbeats 4000000 in
set_option maxRecDepth 100000 in
theorem c_X_checkArgument_1 (l : Launch) (g : xw_G) (B : Nat → Prop) (o lim : Nat) (σ : xs_S) : xc_V l y_X_checkArgument (Cond.code y_X_checkArgument b_X_checkArgument 1 none) g B o lim σ σ [.int 1] (fun _ => True) 6 89 0 0 := by
  refine xh_V (own := R_X) (by decide) rfl (Nat.le_of_ble_eq_true rfl) ?_
  intro p e R s m below meth c ls hRf hRl hRc hRs hC hW hE hl
  obtain ⟨hx, hb, hml, hr, hown, hts, hlk⟩ := id hC
  have hX := hW.1
  have hK := hW.2.1
  have hS : va_S (xw_A o s.heap.size) s.heap s.heap [] := va_S.rf
  have hl : lv_has ls 1 [(0, .int 1)] := hl
  refine lv_iload_n hx hb d_X_checkArgument_0 rfl (lv_at hl 0 rfl) ?_
  refine lv_if_ne (tgt := 12) hx hb d_X_checkArgument_1 (by decide) (fun c_1 => ?_) (fun c_1 => absurd c_1 (by decide))
  exact xr_V (τ := σ) hC hW hX hS (by omega) (by omega) rfl d_X_checkArgument_12
set_option maxHeartbeats 4000000 in
set_option maxRecDepth 100000 in
theorem c_X_checkArgument_0 (l : Launch) (hsl : l.stackTraces = false) (g : xw_G) (B : Nat → Prop) (o lim : Nat) (σ : xs_S) : xc_X l y_X_checkArgument (Cond.code y_X_checkArgument b_X_checkArgument 1 none) g B o lim σ σ [.int 0] (fun _ => True) "java/lang/IllegalArgumentException" 6 89 1 6 := by
  refine xh_X (own := R_X) (by decide) rfl (Nat.le_of_ble_eq_true rfl) ?_
  intro p e R s m below meth c ls hRf hRl hRc hRs hxt hC hW hE hl
  obtain ⟨hx, hb, hml, hr, hown, hts, hlk⟩ := id hC
  have hX := hW.1
  have hK := hW.2.1
  have hS : va_S (xw_A o s.heap.size) s.heap s.heap [] := va_S.rf
  have hl : lv_has ls 1 [(0, .int 0)] := hl
  refine lv_iload_n hx hb d_X_checkArgument_0 rfl (lv_at hl 0 rfl) ?_
  refine lv_if_ne (tgt := 12) hx hb d_X_checkArgument_1 (by decide) (fun c_1 => (c_1 (by decide)).elim) (fun c_1 => ?_)
  exact xr_TX hC hsl hxt hW hX hS hl.1 rfl hkl_1 hii_1 hia_1 hat_1 d_X_checkArgument_4 d_X_checkArgument_7 d_X_checkArgument_8 d_X_checkArgument_11 (by omega) (by omega) (by omega) (by omega) (by omega) (by omega)
set_option maxHeartbeats 4000000 in
set_option maxRecDepth 100000 in
theorem c_X_checkState_1 (l : Launch) (g : xw_G) (B : Nat → Prop) (o lim : Nat) (σ : xs_S) : xc_V l y_X_checkState (Cond.code y_X_checkState b_X_checkState 1 none) g B o lim σ σ [.int 1] (fun _ => True) 6 89 0 0 := by
  refine xh_V (own := R_X) (by decide) rfl (Nat.le_of_ble_eq_true rfl) ?_
  intro p e R s m below meth c ls hRf hRl hRc hRs hC hW hE hl
  obtain ⟨hx, hb, hml, hr, hown, hts, hlk⟩ := id hC
  have hX := hW.1
  have hK := hW.2.1
  have hS : va_S (xw_A o s.heap.size) s.heap s.heap [] := va_S.rf
  have hl : lv_has ls 1 [(0, .int 1)] := hl
  refine lv_iload_n hx hb d_X_checkState_0 rfl (lv_at hl 0 rfl) ?_
  refine lv_if_ne (tgt := 12) hx hb d_X_checkState_1 (by decide) (fun c_1 => ?_) (fun c_1 => absurd c_1 (by decide))
  exact xr_V (τ := σ) hC hW hX hS (by omega) (by omega) rfl d_X_checkState_12
set_option maxHeartbeats 4000000 in
set_option maxRecDepth 100000 in
theorem c_X_checkState_0 (l : Launch) (hsl : l.stackTraces = false) (g : xw_G) (B : Nat → Prop) (o lim : Nat) (σ : xs_S) : xc_X l y_X_checkState (Cond.code y_X_checkState b_X_checkState 1 none) g B o lim σ σ [.int 0] (fun _ => True) "java/lang/IllegalStateException" 6 89 1 6 := by
  refine xh_X (own := R_X) (by decide) rfl (Nat.le_of_ble_eq_true rfl) ?_
  intro p e R s m below meth c ls hRf hRl hRc hRs hxt hC hW hE hl
  obtain ⟨hx, hb, hml, hr, hown, hts, hlk⟩ := id hC
  have hX := hW.1
  have hK := hW.2.1
  have hS : va_S (xw_A o s.heap.size) s.heap s.heap [] := va_S.rf
  have hl : lv_has ls 1 [(0, .int 0)] := hl
  refine lv_iload_n hx hb d_X_checkState_0 rfl (lv_at hl 0 rfl) ?_
  refine lv_if_ne (tgt := 12) hx hb d_X_checkState_1 (by decide) (fun c_1 => (c_1 (by decide)).elim) (fun c_1 => ?_)
  exact xr_TX hC hsl hxt hW hX hS hl.1 rfl hkl_2 hii_2 hia_2 hat_2 d_X_checkState_4 d_X_checkState_7 d_X_checkState_8 d_X_checkState_11 (by omega) (by omega) (by omega) (by omega) (by omega) (by omega)
set_option maxHeartbeats 4000000 in
set_option maxRecDepth 100000 in
theorem c_X_register (l : Launch) (hsl : l.stackTraces = false) (g : xw_G) (B : Nat → Prop) (o lim : Nat) (σ : xs_S) (x : Int32) (y : Int32) : xc_F l y_X_register (Cond.code y_X_register b_X_register 4 (some .int)) g B o lim σ (xp_register σ x y) [.ref o, .int x, .int y] 7 109 2 12 := by
  refine xh_F (own := R_X) (by decide) rfl (Nat.le_of_ble_eq_true rfl) ?_
  intro p e R s m below meth c ls hRf hRl hRc hRs hxt hC hW hl
  obtain ⟨hx, hb, hml, hr, hown, hts, hlk⟩ := id hC
  have hX := hW.1
  have hK := hW.2.1
  have hS : va_S (xw_A o s.heap.size) s.heap s.heap [] := va_S.rf
  have hl : lv_has ls 4 [(0, .ref o), (1, .int x), (2, .int y)] := hl
  refine lv_iload_n hx hb d_X_register_0 rfl (lv_at hl 1 rfl) ?_
  refine xk_sQ (rest := []) (c_X_isAccount l g B o lim σ x) gd_X_X_isAccount hd_X_isAccount hC hW hX hS trivial (by omega) (by omega) (by omega) (by omega) hl.1 rfl (Nat.le_of_ble_eq_true rfl) d_X_register_1 (fun v8 H locs hv hX hS hF => ?_)
  obtain rfl := hv
  refine lv_if_eq (tgt := 22) hx hb d_X_register_4 (by decide) (fun c_1 => ?_) (fun c_1 => ?_)
  · have c_1 := xs_b0 c_1
    refine lv_iconst (v := 0) hx hb d_X_register_22 (by decide) ?_
    refine xk_sX (rest := []) (c_X_checkArgument_0 l hsl g B o lim σ) gd_X_X_checkArgument hd_X_checkArgument hC hW hX hS trivial (by omega) (by omega) (by omega) (by omega) hl.1 rfl (Nat.le_of_ble_eq_true rfl) d_X_register_23 (fun ce9 q9 H locs hX hS e1 e2 e3 => ?_)
    exact xr_FX hC hxt hW hX hS (by omega) (by omega) e1 e2 e3 (k := 0) (v := 0) (by simp only [xp_register, c_1, if_true, if_false, reduceIte, Bool.false_eq_true, Bool.true_eq_false, and_true, true_and, and_false, false_and, or_true, true_or, or_false, false_or, not_true_eq_false, not_false_eq_true] <;> rfl) rfl
  · have c_1 := xs_b1 c_1
    refine lv_iload_n hx hb d_X_register_7 rfl (lv_at hl 2 rfl) ?_
    refine lv_if_lt (tgt := 22) hx hb d_X_register_8 (by decide) (fun c_2 => ?_) (fun c_2 => ?_)
    · refine lv_iconst (v := 0) hx hb d_X_register_22 (by decide) ?_
      refine xk_sX (rest := []) (c_X_checkArgument_0 l hsl g B o lim σ) gd_X_X_checkArgument hd_X_checkArgument hC hW hX hS trivial (by omega) (by omega) (by omega) (by omega) hl.1 rfl (Nat.le_of_ble_eq_true rfl) d_X_register_23 (fun ce9 q9 H locs hX hS e1 e2 e3 => ?_)
      exact xr_FX hC hxt hW hX hS (by omega) (by omega) e1 e2 e3 (k := 0) (v := 0) (by simp only [xp_register, c_1, c_2, if_true, if_false, reduceIte, Bool.false_eq_true, Bool.true_eq_false, and_true, true_and, and_false, false_and, or_true, true_or, or_false, false_or, not_true_eq_false, not_false_eq_true] <;> rfl) rfl
    · refine lv_iload_n hx hb d_X_register_11 rfl (lv_at hl 2 rfl) ?_
      refine lv_sipush (v := 9999) hx hb d_X_register_12 (by decide) ?_
      refine lv_icmp_gt (tgt := 22) hx hb d_X_register_15 (by decide) (fun c_3 => ?_) (fun c_3 => ?_)
      · refine lv_iconst (v := 0) hx hb d_X_register_22 (by decide) ?_
        refine xk_sX (rest := []) (c_X_checkArgument_0 l hsl g B o lim σ) gd_X_X_checkArgument hd_X_checkArgument hC hW hX hS trivial (by omega) (by omega) (by omega) (by omega) hl.1 rfl (Nat.le_of_ble_eq_true rfl) d_X_register_23 (fun ce9 q9 H locs hX hS e1 e2 e3 => ?_)
        exact xr_FX hC hxt hW hX hS (by omega) (by omega) e1 e2 e3 (k := 0) (v := 0) (by simp only [xp_register, c_1, c_2, c_3, if_true, if_false, reduceIte, Bool.false_eq_true, Bool.true_eq_false, and_true, true_and, and_false, false_and, or_true, true_or, or_false, false_or, not_true_eq_false, not_false_eq_true] <;> rfl) rfl
      · refine lv_iconst (v := 1) hx hb d_X_register_18 (by decide) ?_
        refine lv_goto (tgt := 23) hx hb d_X_register_19 (by decide) ?_
        refine xk_sV (rest := []) (c_X_checkArgument_1 l g B o lim σ) gd_X_X_checkArgument hd_X_checkArgument hC hW hX hS trivial (by omega) (by omega) (by omega) (by omega) hl.1 rfl (Nat.le_of_ble_eq_true rfl) d_X_register_23 (fun H locs hX hS hF => ?_)
        refine lv_aload_n hx hb d_X_register_26 rfl (lv_at hl 0 rfl) ?_
        obtain ⟨v9, hXo, hXl⟩ := hX.1
        refine gf_X_X_accounts hx hb hts hown hK hXo rfl d_X_register_27 ?_
        refine lv_iload_n hx hb d_X_register_30 rfl (lv_at hl 1 rfl) ?_
        refine xb_aald (v := o + 3 + 4 * (xs_ix x)) hx hb hK 0 rfl hX.2.1 (xm_in8t c_1) rfl d_X_register_31 ?_
        refine lv_astore_n (lv' := [(3, .ref (o + 3 + 4 * (xs_ix x))), (0, .ref o), (1, .int x), (2, .int y)]) hx hb d_X_register_32 rfl hl (by decide) rfl (fun ls hl => ?_)
        refine lv_aload_n hx hb d_X_register_33 rfl (lv_at hl 0 rfl) ?_
        refine gf_X_A_registered hx hb hts hown hK (hX.2.2.2.1 ((xs_ix x)) (xs_ixl (xm_in8t c_1))) rfl d_X_register_34 ?_
        refine lv_if_ne (tgt := 44) hx hb d_X_register_37 (by decide) (fun c_4 => ?_) (fun c_4 => ?_)
        · have c_4 := xs_b1 c_4
          refine lv_iconst (v := 0) hx hb d_X_register_44 (by decide) ?_
          refine xk_sX (rest := []) (c_X_checkState_0 l hsl g B o lim σ) gd_X_X_checkState hd_X_checkState hC hW hX hS trivial (by omega) (by omega) (by omega) (by omega) hl.1 rfl (Nat.le_of_ble_eq_true rfl) d_X_register_45 (fun ce9 q9 H locs hX hS e1 e2 e3 => ?_)
          exact xr_FX hC hxt hW hX hS (by omega) (by omega) e1 e2 e3 (k := 1) (v := 0) (by simp only [xp_register, c_1, c_2, c_3, c_4, if_true, if_false, reduceIte, Bool.false_eq_true, Bool.true_eq_false, and_true, true_and, and_false, false_and, or_true, true_or, or_false, false_or, not_true_eq_false, not_false_eq_true] <;> rfl) rfl
        · have c_4 := xs_b0 c_4
          refine lv_iconst (v := 1) hx hb d_X_register_40 (by decide) ?_
          refine lv_goto (tgt := 45) hx hb d_X_register_41 (by decide) ?_
          refine xk_sV (rest := []) (c_X_checkState_1 l g B o lim σ) gd_X_X_checkState hd_X_checkState hC hW hX hS trivial (by omega) (by omega) (by omega) (by omega) hl.1 rfl (Nat.le_of_ble_eq_true rfl) d_X_register_45 (fun H locs hX hS hF => ?_)
          refine lv_aload_n hx hb d_X_register_48 rfl (lv_at hl 0 rfl) ?_
          refine lv_iconst (v := 1) hx hb d_X_register_49 (by decide) ?_
          refine pf_X_A_registered (b := true) hx hb hts hown hK hX hS (xs_ixl (xm_in8t c_1)) d_X_register_50 (fun H locs hX hS hF => ?_)
          refine lv_aload_n hx hb d_X_register_53 rfl (lv_at hl 0 rfl) ?_
          refine lv_iload_n hx hb d_X_register_54 rfl (lv_at hl 3 rfl) ?_
          refine pf_X_A_password hx hb hts hown hK hX hS (xs_ixl (xm_in8t c_1)) d_X_register_55 (fun H locs hX hS hF => ?_)
          refine lv_iconst (v := 1) hx hb d_X_register_58 (by decide) ?_
          exact xr_F hC hW hX hS (by omega) (by omega) (by simp only [xp_register, c_1, c_2, c_3, c_4, xs_cn_scn, xs_nx_scn, xs_up_scn, xs_lt_scn, xs_q_scn, xs_ac_scn, xs_mk_scn, xs_ac_sac, xs_sac_sac, xs_nx_sg, xs_up_sg, xs_lt_sg, xs_cn_sg, xs_q_sg, if_true, if_false, reduceIte, Bool.false_eq_true, Bool.true_eq_false, and_true, true_and, and_false, false_and, or_true, true_or, or_false, false_or, not_true_eq_false, not_false_eq_true] <;> rfl) d_X_register_59
set_option maxHeartbeats 4000000 in
set_option maxRecDepth 100000 in
theorem c_X_connect (l : Launch) (hsl : l.stackTraces = false) (g : xw_G) (B : Nat → Prop) (o lim : Nat) (σ : xs_S) (x : Int32) : xc_F l y_X_connect (Cond.code y_X_connect b_X_connect 3 (some .int)) g B o lim σ (xp_connect σ x) [.ref o, .int x] 7 109 2 12 := by
  refine xh_F (own := R_X) (by decide) rfl (Nat.le_of_ble_eq_true rfl) ?_
  intro p e R s m below meth c ls hRf hRl hRc hRs hxt hC hW hl
  obtain ⟨hx, hb, hml, hr, hown, hts, hlk⟩ := id hC
  have hX := hW.1
  have hK := hW.2.1
  have hS : va_S (xw_A o s.heap.size) s.heap s.heap [] := va_S.rf
  have hl : lv_has ls 3 [(0, .ref o), (1, .int x)] := hl
  refine lv_iload_n hx hb d_X_connect_0 rfl (lv_at hl 1 rfl) ?_
  refine xk_sQ (rest := []) (c_X_isConnection l g B o lim σ x) gd_X_X_isConnection hd_X_isConnection hC hW hX hS trivial (by omega) (by omega) (by omega) (by omega) hl.1 rfl (Nat.le_of_ble_eq_true rfl) d_X_connect_1 (fun v8 H locs hv hX hS hF => ?_)
  obtain rfl := hv
  cases c_1 : (xm_in6 x) with
  | false =>
    refine xk_sX (rest := []) (c_X_checkArgument_0 l hsl g B o lim σ) gd_X_X_checkArgument hd_X_checkArgument hC hW hX hS trivial (by omega) (by omega) (by omega) (by omega) hl.1 rfl (Nat.le_of_ble_eq_true rfl) d_X_connect_4 (fun ce9 q9 H locs hX hS e1 e2 e3 => ?_)
    exact xr_FX hC hxt hW hX hS (by omega) (by omega) e1 e2 e3 (k := 0) (v := 0) (by simp only [xp_connect, c_1, if_true, if_false, reduceIte, Bool.false_eq_true, Bool.true_eq_false, and_true, true_and, and_false, false_and, or_true, true_or, or_false, false_or, not_true_eq_false, not_false_eq_true] <;> rfl) rfl
  | true =>
    refine xk_sV (rest := []) (c_X_checkArgument_1 l g B o lim σ) gd_X_X_checkArgument hd_X_checkArgument hC hW hX hS trivial (by omega) (by omega) (by omega) (by omega) hl.1 rfl (Nat.le_of_ble_eq_true rfl) d_X_connect_4 (fun H locs hX hS hF => ?_)
    refine lv_aload_n hx hb d_X_connect_7 rfl (lv_at hl 0 rfl) ?_
    obtain ⟨v9, hXo, hXl⟩ := hX.1
    refine gf_X_X_connections hx hb hts hown hK hXo rfl d_X_connect_8 ?_
    refine lv_iload_n hx hb d_X_connect_11 rfl (lv_at hl 1 rfl) ?_
    refine xb_aald (v := o + 36 + 3 * (xs_ix x)) hx hb hK 1 rfl hX.2.2.1 (xm_in6t c_1) rfl d_X_connect_12 ?_
    refine lv_astore_n (lv' := [(2, .ref (o + 36 + 3 * (xs_ix x))), (0, .ref o), (1, .int x)]) hx hb d_X_connect_13 rfl hl (by decide) rfl (fun ls hl => ?_)
    refine lv_aload_n hx hb d_X_connect_14 rfl (lv_at hl 0 rfl) ?_
    refine gf_X_C_stage hx hb hts hown hK (hX.2.2.2.2.2.1 ((xs_ix x)) (xs_ixl (xm_in6t c_1))) rfl d_X_connect_15 ?_
    refine lv_if_ne (tgt := 25) hx hb d_X_connect_18 (by decide) (fun c_2 => ?_) (fun c_2 => ?_)
    · refine lv_iconst (v := 0) hx hb d_X_connect_25 (by decide) ?_
      refine xk_sX (rest := []) (c_X_checkState_0 l hsl g B o lim σ) gd_X_X_checkState hd_X_checkState hC hW hX hS trivial (by omega) (by omega) (by omega) (by omega) hl.1 rfl (Nat.le_of_ble_eq_true rfl) d_X_connect_26 (fun ce9 q9 H locs hX hS e1 e2 e3 => ?_)
      exact xr_FX hC hxt hW hX hS (by omega) (by omega) e1 e2 e3 (k := 1) (v := 0) (by simp only [xp_connect, c_1, c_2, if_true, if_false, reduceIte, Bool.false_eq_true, Bool.true_eq_false, and_true, true_and, and_false, false_and, or_true, true_or, or_false, false_or, not_true_eq_false, not_false_eq_true] <;> rfl) rfl
    · refine lv_iconst (v := 1) hx hb d_X_connect_21 (by decide) ?_
      refine lv_goto (tgt := 26) hx hb d_X_connect_22 (by decide) ?_
      refine xk_sV (rest := []) (c_X_checkState_1 l g B o lim σ) gd_X_X_checkState hd_X_checkState hC hW hX hS trivial (by omega) (by omega) (by omega) (by omega) hl.1 rfl (Nat.le_of_ble_eq_true rfl) d_X_connect_26 (fun H locs hX hS hF => ?_)
      refine lv_aload_n hx hb d_X_connect_29 rfl (lv_at hl 0 rfl) ?_
      refine lv_iconst (v := 1) hx hb d_X_connect_30 (by decide) ?_
      refine pf_X_C_stage hx hb hts hown hK hX hS (xs_ixl (xm_in6t c_1)) d_X_connect_31 (fun H locs hX hS hF => ?_)
      refine lv_aload_n hx hb d_X_connect_34 rfl (lv_at hl 0 rfl) ?_
      refine gf_X_C_inbox hx hb hts hown hK (hX.2.2.2.2.2.1 ((xs_ix x)) (xs_ixl (xm_in6t c_1))) rfl d_X_connect_35 ?_
      obtain ⟨f9, hq9, hl9, hz9⟩ := hX.2.2.2.2.2.2.1 ((8 + ((xs_ix x)))) (xs_8 (xs_ixl (xm_in6t c_1)))
      refine xk_iV (rest := []) (c_Q_clear l g B o lim (xm_sst σ ((xs_ix x)) 1) ((8 + ((xs_ix x)))) (xs_8 (xs_ixl (xm_in6t c_1)))) gd_X_Q_clear hd_Q_clear hC hW hX hS (xb_recv hK (ci := xi_Q) rfl hq9.1) trivial (by omega) (by omega) (by omega) (by omega) hl.1 rfl (Nat.le_of_ble_eq_true rfl) d_X_connect_38 (fun H locs hX hS hF => ?_)
      refine lv_iconst (v := 1) hx hb d_X_connect_41 (by decide) ?_
      exact xr_F hC hW hX hS (by omega) (by omega) (by simp only [xp_connect, c_1, c_2, xs_cn_scn, xs_nx_scn, xs_up_scn, xs_lt_scn, xs_q_scn, xs_ac_scn, xs_mk_scn, xs_ac_sac, xs_sac_sac, xs_nx_sg, xs_up_sg, xs_lt_sg, xs_cn_sg, xs_q_sg, if_true, if_false, reduceIte, Bool.false_eq_true, Bool.true_eq_false, and_true, true_and, and_false, false_and, or_true, true_or, or_false, false_or, not_true_eq_false, not_false_eq_true] <;> rfl) d_X_connect_42
set_option maxHeartbeats 4000000 in
set_option maxRecDepth 100000 in
theorem c_X_login (l : Launch) (hsl : l.stackTraces = false) (g : xw_G) (B : Nat → Prop) (o lim : Nat) (σ : xs_S) (x : Int32) (y : Int32) : xc_F l y_X_login (Cond.code y_X_login b_X_login 4 (some .int)) g B o lim σ (xp_login σ x y) [.ref o, .int x, .int y] 7 109 2 12 := by
  refine xh_F (own := R_X) (by decide) rfl (Nat.le_of_ble_eq_true rfl) ?_
  intro p e R s m below meth c ls hRf hRl hRc hRs hxt hC hW hl
  obtain ⟨hx, hb, hml, hr, hown, hts, hlk⟩ := id hC
  have hX := hW.1
  have hK := hW.2.1
  have hS : va_S (xw_A o s.heap.size) s.heap s.heap [] := va_S.rf
  have hl : lv_has ls 4 [(0, .ref o), (1, .int x), (2, .int y)] := hl
  refine lv_iload_n hx hb d_X_login_0 rfl (lv_at hl 1 rfl) ?_
  refine xk_sQ (rest := []) (c_X_isConnection l g B o lim σ x) gd_X_X_isConnection hd_X_isConnection hC hW hX hS trivial (by omega) (by omega) (by omega) (by omega) hl.1 rfl (Nat.le_of_ble_eq_true rfl) d_X_login_1 (fun v8 H locs hv hX hS hF => ?_)
  obtain rfl := hv
  refine lv_if_eq (tgt := 18) hx hb d_X_login_4 (by decide) (fun c_1 => ?_) (fun c_1 => ?_)
  · have c_1 := xs_b0 c_1
    refine lv_iconst (v := 0) hx hb d_X_login_18 (by decide) ?_
    refine xk_sX (rest := []) (c_X_checkArgument_0 l hsl g B o lim σ) gd_X_X_checkArgument hd_X_checkArgument hC hW hX hS trivial (by omega) (by omega) (by omega) (by omega) hl.1 rfl (Nat.le_of_ble_eq_true rfl) d_X_login_19 (fun ce9 q9 H locs hX hS e1 e2 e3 => ?_)
    exact xr_FX hC hxt hW hX hS (by omega) (by omega) e1 e2 e3 (k := 0) (v := 0) (by simp only [xp_login, xp_login1, xm_sst, xm_sacc, xm_sch, c_1, if_true, if_false, reduceIte, Bool.false_eq_true, Bool.true_eq_false, and_true, true_and, and_false, false_and, or_true, true_or, or_false, false_or, not_true_eq_false, not_false_eq_true] <;> rfl) rfl
  · have c_1 := xs_b1 c_1
    refine lv_iload_n hx hb d_X_login_7 rfl (lv_at hl 2 rfl) ?_
    refine xk_sQ (rest := []) (c_X_isAccount l g B o lim σ y) gd_X_X_isAccount hd_X_isAccount hC hW hX hS trivial (by omega) (by omega) (by omega) (by omega) hl.1 rfl (Nat.le_of_ble_eq_true rfl) d_X_login_8 (fun v8 H locs hv hX hS hF => ?_)
    obtain rfl := hv
    refine lv_if_eq (tgt := 18) hx hb d_X_login_11 (by decide) (fun c_2 => ?_) (fun c_2 => ?_)
    · have c_2 := xs_b0 c_2
      refine lv_iconst (v := 0) hx hb d_X_login_18 (by decide) ?_
      refine xk_sX (rest := []) (c_X_checkArgument_0 l hsl g B o lim σ) gd_X_X_checkArgument hd_X_checkArgument hC hW hX hS trivial (by omega) (by omega) (by omega) (by omega) hl.1 rfl (Nat.le_of_ble_eq_true rfl) d_X_login_19 (fun ce9 q9 H locs hX hS e1 e2 e3 => ?_)
      exact xr_FX hC hxt hW hX hS (by omega) (by omega) e1 e2 e3 (k := 0) (v := 0) (by simp only [xp_login, xp_login1, xm_sst, xm_sacc, xm_sch, c_1, c_2, if_true, if_false, reduceIte, Bool.false_eq_true, Bool.true_eq_false, and_true, true_and, and_false, false_and, or_true, true_or, or_false, false_or, not_true_eq_false, not_false_eq_true] <;> rfl) rfl
    · have c_2 := xs_b1 c_2
      refine lv_iconst (v := 1) hx hb d_X_login_14 (by decide) ?_
      refine lv_goto (tgt := 19) hx hb d_X_login_15 (by decide) ?_
      refine xk_sV (rest := []) (c_X_checkArgument_1 l g B o lim σ) gd_X_X_checkArgument hd_X_checkArgument hC hW hX hS trivial (by omega) (by omega) (by omega) (by omega) hl.1 rfl (Nat.le_of_ble_eq_true rfl) d_X_login_19 (fun H locs hX hS hF => ?_)
      refine lv_aload_n hx hb d_X_login_22 rfl (lv_at hl 0 rfl) ?_
      obtain ⟨v9, hXo, hXl⟩ := hX.1
      refine gf_X_X_connections hx hb hts hown hK hXo rfl d_X_login_23 ?_
      refine lv_iload_n hx hb d_X_login_26 rfl (lv_at hl 1 rfl) ?_
      refine xb_aald (v := o + 36 + 3 * (xs_ix x)) hx hb hK 1 rfl hX.2.2.1 (xm_in6t c_1) rfl d_X_login_27 ?_
      refine lv_astore_n (lv' := [(3, .ref (o + 36 + 3 * (xs_ix x))), (0, .ref o), (1, .int x), (2, .int y)]) hx hb d_X_login_28 rfl hl (by decide) rfl (fun ls hl => ?_)
      refine lv_aload_n hx hb d_X_login_29 rfl (lv_at hl 0 rfl) ?_
      refine gf_X_C_stage hx hb hts hown hK (hX.2.2.2.2.2.1 ((xs_ix x)) (xs_ixl (xm_in6t c_1))) rfl d_X_login_30 ?_
      refine lv_iconst (v := 1) hx hb d_X_login_33 (by decide) ?_
      refine lv_icmp_ne (tgt := 41) hx hb d_X_login_34 (by decide) (fun c_3 => ?_) (fun c_3 => ?_)
      · refine lv_iconst (v := 0) hx hb d_X_login_41 (by decide) ?_
        refine xk_sX (rest := []) (c_X_checkState_0 l hsl g B o lim σ) gd_X_X_checkState hd_X_checkState hC hW hX hS trivial (by omega) (by omega) (by omega) (by omega) hl.1 rfl (Nat.le_of_ble_eq_true rfl) d_X_login_42 (fun ce9 q9 H locs hX hS e1 e2 e3 => ?_)
        exact xr_FX hC hxt hW hX hS (by omega) (by omega) e1 e2 e3 (k := 1) (v := 0) (by simp only [xp_login, xp_login1, xm_sst, xm_sacc, xm_sch, c_1, c_2, c_3, if_true, if_false, reduceIte, Bool.false_eq_true, Bool.true_eq_false, and_true, true_and, and_false, false_and, or_true, true_or, or_false, false_or, not_true_eq_false, not_false_eq_true] <;> rfl) rfl
      · refine lv_iconst (v := 1) hx hb d_X_login_37 (by decide) ?_
        refine lv_goto (tgt := 42) hx hb d_X_login_38 (by decide) ?_
        refine xk_sV (rest := []) (c_X_checkState_1 l g B o lim σ) gd_X_X_checkState hd_X_checkState hC hW hX hS trivial (by omega) (by omega) (by omega) (by omega) hl.1 rfl (Nat.le_of_ble_eq_true rfl) d_X_login_42 (fun H locs hX hS hF => ?_)
        refine lv_aload_n hx hb d_X_login_45 rfl (lv_at hl 0 rfl) ?_
        refine lv_iconst (v := 2) hx hb d_X_login_46 (by decide) ?_
        refine pf_X_C_stage hx hb hts hown hK hX hS (xs_ixl (xm_in6t c_1)) d_X_login_47 (fun H locs hX hS hF => ?_)
        refine lv_aload_n hx hb d_X_login_50 rfl (lv_at hl 0 rfl) ?_
        refine lv_iload_n hx hb d_X_login_51 rfl (lv_at hl 3 rfl) ?_
        refine pf_X_C_account hx hb hts hown hK hX hS (xs_ixl (xm_in6t c_1)) d_X_login_52 (fun H locs hX hS hF => ?_)
        refine lv_aload_n hx hb d_X_login_55 rfl (lv_at hl 0 rfl) ?_
        refine lv_aload_n hx hb d_X_login_56 rfl (lv_at hl 1 rfl) ?_
        obtain ⟨v9, hXo, hXl⟩ := hX.1
        refine gf_X_X_nextChallenge hx hb hts hown hK hXo rfl d_X_login_57 ?_
        refine pf_X_C_challenge hx hb hts hown hK hX hS (xs_ixl (xm_in6t c_1)) d_X_login_60 (fun H locs hX hS hF => ?_)
        refine lv_aload_n hx hb d_X_login_63 rfl (lv_at hl 1 rfl) ?_
        refine lv_aload_n hx hb d_X_login_64 rfl (lv_at hl 1 rfl) ?_
        obtain ⟨v9, hXo, hXl⟩ := hX.1
        refine gf_X_X_nextChallenge hx hb hts hown hK hXo rfl d_X_login_65 ?_
        refine lv_sipush (v := 7919) hx hb d_X_login_68 (by decide) ?_
        refine lv_iadd hx hb d_X_login_71 ?_
        refine lv_sipush (v := 10000) hx hb d_X_login_72 (by decide) ?_
        refine lv_irem hx hb d_X_login_75 (by decide) ?_
        refine pf_X_X_nextChallenge hx hb hts hown hK hX hS d_X_login_76 (fun H locs hX hS hF => ?_)
        refine lv_aload_n hx hb d_X_login_79 rfl (lv_at hl 0 rfl) ?_
        refine gf_X_C_challenge hx hb hts hown hK (hX.2.2.2.2.2.1 ((xs_ix x)) (xs_ixl (xm_in6t c_1))) rfl d_X_login_80 ?_
        exact xr_F hC hW hX hS (by omega) (by omega) (by simp only [xp_login, xp_login1, xm_sst, xm_sacc, xm_sch, c_1, c_2, c_3, xs_cn_scn, xs_nx_scn, xs_up_scn, xs_lt_scn, xs_q_scn, xs_ac_scn, xs_mk_scn, xs_ac_sac, xs_sac_sac, xs_nx_sg, xs_up_sg, xs_lt_sg, xs_cn_sg, xs_q_sg, if_true, if_false, reduceIte, Bool.false_eq_true, Bool.true_eq_false, and_true, true_and, and_false, false_and, or_true, true_or, or_false, false_or, not_true_eq_false, not_false_eq_true] <;> rfl) d_X_login_83
