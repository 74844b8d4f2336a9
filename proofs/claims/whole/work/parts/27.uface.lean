/-! The reference, by program. -/
theorem xu_e45 : ((4 : Int32) = 5) = False := eq_false (by decide)
theorem xu_e46 : ((4 : Int32) = 6) = False := eq_false (by decide)
theorem xu_e47 : ((4 : Int32) = 7) = False := eq_false (by decide)
theorem xu_e54 : ((5 : Int32) = 4) = False := eq_false (by decide)
theorem xu_e56 : ((5 : Int32) = 6) = False := eq_false (by decide)
theorem xu_e57 : ((5 : Int32) = 7) = False := eq_false (by decide)
theorem xu_e64 : ((6 : Int32) = 4) = False := eq_false (by decide)
theorem xu_e65 : ((6 : Int32) = 5) = False := eq_false (by decide)
theorem xu_e67 : ((6 : Int32) = 7) = False := eq_false (by decide)
theorem xu_e74 : ((7 : Int32) = 4) = False := eq_false (by decide)
theorem xu_e75 : ((7 : Int32) = 5) = False := eq_false (by decide)
theorem xu_e76 : ((7 : Int32) = 6) = False := eq_false (by decide)
set_option maxHeartbeats 4000000 in
set_option maxRecDepth 100000 in
theorem c_U_register (l : Launch) (g : xw_G) (o : Nat) (σ : xs_S) (th rp : Int32) (n : Nat) (t : xu_X) (a : xu_M) (x y : Int32) : uc_Q l y_U_register (Cond.code y_U_register b_U_register 3 (some .int)) g o σ th rp n t a ((xp_register σ x y).2.1) ((xp_register σ x y).2.2) (nI (xp_register σ x y).1) n (fun _ _ => True) [.ref o, .int x, .int y] 2 42 := by
  refine uh_Q (own := R_U) (by decide) rfl (Nat.le_of_ble_eq_true rfl) ?_
  intro p e R s m below meth c ls hRf hRl hC hK hX hl
  obtain ⟨hx, hb, hml, hr, hown, hts, hlk⟩ := id hC
  have hS : va_S (xu_W o) s.heap s.heap [] := va_S.rf
  have hl : lv_has ls 3 [(0, .ref o), (1, .int x), (2, .int y)] := hl
  refine lv_aload_n hx hb d_U_register_0 rfl (lv_at hl 0 rfl) ?_
  refine lv_iconst (v := 0) hx hb d_U_register_1 (by decide) ?_
  refine uo_put (sc' := xu_num σ 0 rp n t) hx hb hts hown hK hX.1 hX.2.1 hS 0 (by decide) lk_U_87 rfl rfl rfl rfl rfl d_U_register_2 (fun H locs hO hA hS => ?_)
  have hX : xu_R g o σ 0 rp n t a H := ⟨hO, hA, hX.2.2.1, hX.2.2.2.1, hX.2.2.2.2⟩
  refine lv_iload_n hx hb d_U_register_5 rfl (lv_at hl 1 rfl) ?_
  refine uk_sQ (rest := []) (c_U_isAccount l g o σ 0 rp n t a x) gd_U_U_isAccount hd_U_isAccount hC hK hX hS (fun _ h => h) (by omega) (by omega) (by omega) (by omega) hl.1 rfl (Nat.le_of_ble_eq_true rfl) d_U_register_6 (fun rp9 t b9 H locs hG9 hX hS _ _ => ?_)
  rw [hG9.1] at hX
  refine lv_if_eq (tgt := 23) hx hb d_U_register_9 (by decide) (fun c_1 => ?_) (fun c_1 => ?_)
  · have c_1 := xs_b0 c_1
    refine lv_aload_n hx hb d_U_register_23 rfl (lv_at hl 0 rfl) ?_
    refine lv_iconst (v := 1) hx hb d_U_register_24 (by decide) ?_
    refine uk_iQ (rest := []) (c_U_raise l g o σ 0 rp n t b9 1) gd_U_U_raise hd_U_raise hC hK hX hS (fun _ h => h) (by omega) (by omega) (by omega) (by omega) hl.1 rfl (Nat.le_of_ble_eq_true rfl) d_U_register_25 (fun rp9 t b9 H locs hG9 hX hS _ _ => ?_)
    rw [hG9.1] at hX
    have e9 : xp_register σ x y = (1, 0, σ) := by simp only [xp_register, c_1, xs_cn_scn, xs_nx_scn, xs_up_scn, xs_lt_scn, xs_q_scn, xs_ac_scn, xs_mk_scn, xs_ac_sac, xs_sac_sac, xs_nx_sg, xs_up_sg, xs_lt_sg, xs_cn_sg, xs_q_sg, if_true, if_false, reduceIte, Bool.false_eq_true, Bool.true_eq_false, and_true, true_and, and_false, false_and, or_true, true_or, or_false, false_or, not_true_eq_false, not_false_eq_true] <;> rfl
    exact ur_I (G := (fun _ _ => True)) (τ := (xp_register σ x y).2.2) (r := (xp_register σ x y).2.1) hC hK hX hS trivial (by rw [e9]) (by rw [e9]; rfl) rfl (by rw [e9]) d_U_register_28
  · have c_1 := xs_b1 c_1
    refine lv_iload_n hx hb d_U_register_12 rfl (lv_at hl 2 rfl) ?_
    refine lv_iconst (v := 0) hx hb d_U_register_13 (by decide) ?_
    refine lv_sipush (v := 9999) hx hb d_U_register_14 (by decide) ?_
    refine uk_sQ (rest := []) (c_U_in l g o σ 0 rp n t b9 y 0 9999) gd_U_U_in hd_U_in hC hK hX hS (fun _ h => h) (by omega) (by omega) (by omega) (by omega) hl.1 rfl (Nat.le_of_ble_eq_true rfl) d_U_register_17 (fun rp9 t b9 H locs hG9 hX hS _ _ => ?_)
    rw [hG9.1] at hX
    refine lv_if_ne (tgt := 29) hx hb d_U_register_20 (by decide) (fun c_2 => ?_) (fun c_2 => ?_)
    · have c_2 := xs_b1 c_2
      refine lv_aload_n hx hb d_U_register_29 rfl (lv_at hl 0 rfl) ?_
      refine xb_get (v := .ref (o + 1)) hx hb hts xw_in_U hown hK (ci := xi_U) rfl 1 (by decide) (hts _ lk_U_7) rfl hX.1 rfl d_U_register_30 ?_
      refine lv_iload_n hx hb d_U_register_33 rfl (lv_at hl 1 rfl) ?_
      refine ug_z (v := xs_b (xs_ac σ (xs_ix x)).1) hx hb hK hX.2.1 1 (by decide) (by decide) rfl rfl (xm_in8t c_1) ((hX.2.2.1.1 (xs_ix x) (xs_ixl (xm_in8t c_1))).1) d_U_register_34 ?_
      refine lv_if_eq (tgt := 44) hx hb d_U_register_35 (by decide) (fun c_3 => ?_) (fun c_3 => ?_)
      · have c_3 := xs_b0 c_3
        refine lv_aload_n hx hb d_U_register_44 rfl (lv_at hl 0 rfl) ?_
        refine xb_get (v := .ref (o + 1)) hx hb hts xw_in_U hown hK (ci := xi_U) rfl 1 (by decide) (hts _ lk_U_7) rfl hX.1 rfl d_U_register_45 ?_
        refine lv_iload_n hx hb d_U_register_48 rfl (lv_at hl 1 rfl) ?_
        refine lv_iconst (v := 1) hx hb d_U_register_49 (by decide) ?_
        refine up_z (v := true) (σ' := xs_sac σ (xs_ix x) (true, (xs_ac σ (xs_ix x)).2)) hx hb hK hX hS 1 (by decide) (by decide) rfl rfl (xm_in8t c_1) d_U_register_50 (hX.2.2.1.reg (xs_ixl (xm_in8t c_1))) rfl rfl rfl (fun b9 H locs hF9 hX hS => ?_)
        refine lv_aload_n hx hb d_U_register_51 rfl (lv_at hl 0 rfl) ?_
        refine xb_get (v := .ref (o + 2)) hx hb hts xw_in_U hown hK (ci := xi_U) rfl 2 (by decide) (hts _ lk_U_13) rfl hX.1 rfl d_U_register_52 ?_
        refine lv_iload_n hx hb d_U_register_55 rfl (lv_at hl 1 rfl) ?_
        refine lv_iload_n hx hb d_U_register_56 rfl (lv_at hl 2 rfl) ?_
        refine up_i (σ' := xs_sac (xs_sac σ (xs_ix x) (true, (xs_ac σ (xs_ix x)).2)) (xs_ix x) ((xs_ac (xs_sac σ (xs_ix x) (true, (xs_ac σ (xs_ix x)).2)) (xs_ix x)).1, y)) hx hb hK hX hS 2 (by decide) (by decide) rfl rfl (xm_in8t c_1) d_U_register_57 (hX.2.2.1.pw (xs_ixl (xm_in8t c_1))) rfl rfl rfl (fun b9 H locs hF9 hX hS => ?_)
        refine lv_iconst (v := 1) hx hb d_U_register_58 (by decide) ?_
        have e9 : xp_register σ x y = (0, 1, xs_sac (xs_sac σ (xs_ix x) (true, (xs_ac σ (xs_ix x)).2)) (xs_ix x) ((xs_ac (xs_sac σ (xs_ix x) (true, (xs_ac σ (xs_ix x)).2)) (xs_ix x)).1, y)) := by simp only [xp_register, c_1, c_3, (xu_it c_2).1, (xu_it c_2).2, (xu_itl (b' := 10000) (by decide) c_2), xs_cn_scn, xs_nx_scn, xs_up_scn, xs_lt_scn, xs_q_scn, xs_ac_scn, xs_mk_scn, xs_ac_sac, xs_sac_sac, xs_nx_sg, xs_up_sg, xs_lt_sg, xs_cn_sg, xs_q_sg, if_true, if_false, reduceIte, Bool.false_eq_true, Bool.true_eq_false, and_true, true_and, and_false, false_and, or_true, true_or, or_false, false_or, not_true_eq_false, not_false_eq_true] <;> rfl
        exact ur_I (G := (fun _ _ => True)) (τ := (xp_register σ x y).2.2) (r := (xp_register σ x y).2.1) hC hK hX hS trivial (by rw [e9]) (by rw [e9]; rfl) rfl (by rw [e9]) d_U_register_59
      · have c_3 := xs_b1 c_3
        refine lv_aload_n hx hb d_U_register_38 rfl (lv_at hl 0 rfl) ?_
        refine lv_iconst (v := 2) hx hb d_U_register_39 (by decide) ?_
        refine uk_iQ (rest := []) (c_U_raise l g o σ 0 rp n t b9 2) gd_U_U_raise hd_U_raise hC hK hX hS (fun _ h => h) (by omega) (by omega) (by omega) (by omega) hl.1 rfl (Nat.le_of_ble_eq_true rfl) d_U_register_40 (fun rp9 t b9 H locs hG9 hX hS _ _ => ?_)
        rw [hG9.1] at hX
        have e9 : xp_register σ x y = (2, 0, σ) := by simp only [xp_register, c_1, c_3, (xu_it c_2).1, (xu_it c_2).2, (xu_itl (b' := 10000) (by decide) c_2), xs_cn_scn, xs_nx_scn, xs_up_scn, xs_lt_scn, xs_q_scn, xs_ac_scn, xs_mk_scn, xs_ac_sac, xs_sac_sac, xs_nx_sg, xs_up_sg, xs_lt_sg, xs_cn_sg, xs_q_sg, if_true, if_false, reduceIte, Bool.false_eq_true, Bool.true_eq_false, and_true, true_and, and_false, false_and, or_true, true_or, or_false, false_or, not_true_eq_false, not_false_eq_true] <;> rfl
        exact ur_I (G := (fun _ _ => True)) (τ := (xp_register σ x y).2.2) (r := (xp_register σ x y).2.1) hC hK hX hS trivial (by rw [e9]) (by rw [e9]; rfl) rfl (by rw [e9]) d_U_register_43
    · have c_2 := xs_b0 c_2
      refine lv_aload_n hx hb d_U_register_23 rfl (lv_at hl 0 rfl) ?_
      refine lv_iconst (v := 1) hx hb d_U_register_24 (by decide) ?_
      refine uk_iQ (rest := []) (c_U_raise l g o σ 0 rp n t b9 1) gd_U_U_raise hd_U_raise hC hK hX hS (fun _ h => h) (by omega) (by omega) (by omega) (by omega) hl.1 rfl (Nat.le_of_ble_eq_true rfl) d_U_register_25 (fun rp9 t b9 H locs hG9 hX hS _ _ => ?_)
      rw [hG9.1] at hX
      have e9 : xp_register σ x y = (1, 0, σ) := by simp only [xp_register, c_1, eq_false (xu_if c_2), eq_false (xu_ifl (b' := 10000) (by decide) c_2), xs_cn_scn, xs_nx_scn, xs_up_scn, xs_lt_scn, xs_q_scn, xs_ac_scn, xs_mk_scn, xs_ac_sac, xs_sac_sac, xs_nx_sg, xs_up_sg, xs_lt_sg, xs_cn_sg, xs_q_sg, if_true, if_false, reduceIte, Bool.false_eq_true, Bool.true_eq_false, and_true, true_and, and_false, false_and, or_true, true_or, or_false, false_or, not_true_eq_false, not_false_eq_true] <;> rfl
      exact ur_I (G := (fun _ _ => True)) (τ := (xp_register σ x y).2.2) (r := (xp_register σ x y).2.1) hC hK hX hS trivial (by rw [e9]) (by rw [e9]; rfl) rfl (by rw [e9]) d_U_register_28
set_option maxHeartbeats 4000000 in
set_option maxRecDepth 100000 in
theorem c_U_connect (l : Launch) (g : xw_G) (o : Nat) (σ : xs_S) (th rp : Int32) (n : Nat) (t : xu_X) (a : xu_M) (x : Int32) : uc_Q l y_U_connect (Cond.code y_U_connect b_U_connect 2 (some .int)) g o σ th rp n t a ((xp_connect σ x).2.1) ((xp_connect σ x).2.2) (nI (xp_connect σ x).1) n (fun _ _ => True) [.ref o, .int x] 2 42 := by
  refine uh_Q (own := R_U) (by decide) rfl (Nat.le_of_ble_eq_true rfl) ?_
  intro p e R s m below meth c ls hRf hRl hC hK hX hl
  obtain ⟨hx, hb, hml, hr, hown, hts, hlk⟩ := id hC
  have hS : va_S (xu_W o) s.heap s.heap [] := va_S.rf
  have hl : lv_has ls 2 [(0, .ref o), (1, .int x)] := hl
  refine lv_aload_n hx hb d_U_connect_0 rfl (lv_at hl 0 rfl) ?_
  refine lv_iconst (v := 0) hx hb d_U_connect_1 (by decide) ?_
  refine uo_put (sc' := xu_num σ 0 rp n t) hx hb hts hown hK hX.1 hX.2.1 hS 0 (by decide) lk_U_87 rfl rfl rfl rfl rfl d_U_connect_2 (fun H locs hO hA hS => ?_)
  have hX : xu_R g o σ 0 rp n t a H := ⟨hO, hA, hX.2.2.1, hX.2.2.2.1, hX.2.2.2.2⟩
  refine lv_iload_n hx hb d_U_connect_5 rfl (lv_at hl 1 rfl) ?_
  refine uk_sQ (rest := []) (c_U_isConnection l g o σ 0 rp n t a x) gd_U_U_isConnection hd_U_isConnection hC hK hX hS (fun _ h => h) (by omega) (by omega) (by omega) (by omega) hl.1 rfl (Nat.le_of_ble_eq_true rfl) d_U_connect_6 (fun rp9 t b9 H locs hG9 hX hS _ _ => ?_)
  rw [hG9.1] at hX
  refine lv_if_ne (tgt := 18) hx hb d_U_connect_9 (by decide) (fun c_1 => ?_) (fun c_1 => ?_)
  · have c_1 := xs_b1 c_1
    refine lv_aload_n hx hb d_U_connect_18 rfl (lv_at hl 0 rfl) ?_
    refine xb_get (v := .ref (o + 4)) hx hb hts xw_in_U hown hK (ci := xi_U) rfl 4 (by decide) (hts _ lk_U_20) rfl hX.1 rfl d_U_connect_19 ?_
    refine lv_iload_n hx hb d_U_connect_22 rfl (lv_at hl 1 rfl) ?_
    refine ug_i (v := (xs_cn σ (xs_ix x)).1) hx hb hK hX.2.1 4 (by decide) (by decide) rfl rfl (xm_in6t c_1) ((hX.2.2.1.2.2.1 (xs_ix x) (xs_ixl (xm_in6t c_1))).1) d_U_connect_23 ?_
    refine lv_if_eq (tgt := 33) hx hb d_U_connect_24 (by decide) (fun c_2 => ?_) (fun c_2 => ?_)
    · refine lv_aload_n hx hb d_U_connect_33 rfl (lv_at hl 0 rfl) ?_
      refine xb_get (v := .ref (o + 4)) hx hb hts xw_in_U hown hK (ci := xi_U) rfl 4 (by decide) (hts _ lk_U_20) rfl hX.1 rfl d_U_connect_34 ?_
      refine lv_iload_n hx hb d_U_connect_37 rfl (lv_at hl 1 rfl) ?_
      refine lv_iconst (v := 1) hx hb d_U_connect_38 (by decide) ?_
      refine up_i (σ' := xm_sst σ (xs_ix x) 1) hx hb hK hX hS 4 (by decide) (by decide) rfl rfl (xm_in6t c_1) d_U_connect_39 (hX.2.2.1.st (xs_ixl (xm_in6t c_1))) rfl rfl rfl (fun b9 H locs hF9 hX hS => ?_)
      refine lv_aload_n hx hb d_U_connect_40 rfl (lv_at hl 0 rfl) ?_
      refine xb_get (v := .ref (o + 14)) hx hb hts xw_in_U hown hK (ci := xi_U) rfl 15 (by decide) (hts _ lk_U_50) rfl hX.1 rfl d_U_connect_41 ?_
      refine lv_iload_n hx hb d_U_connect_44 rfl (lv_at hl 1 rfl) ?_
      refine lv_iconst (v := 0) hx hb d_U_connect_45 (by decide) ?_
      refine up_i (σ' := xm_clear (xm_sst σ (xs_ix x) 1) (8 + (xs_ix x))) hx hb hK hX hS 14 (by decide) (by decide) rfl rfl (xm_in6t c_1) d_U_connect_46 (xu_clear hX.2.2.1 (xs_ixl (xm_in6t c_1))) (xu_clrn (by have := (xs_ixl (xm_in6t c_1)); omega)) rfl rfl (fun b9 H locs hF9 hX hS => ?_)
      refine lv_iconst (v := 1) hx hb d_U_connect_47 (by decide) ?_
      have e9 : xp_connect σ x = (0, 1, xm_clear (xm_sst σ (xs_ix x) 1) (8 + (xs_ix x))) := by simp only [xp_connect, c_1, c_2, xs_cn_scn, xs_nx_scn, xs_up_scn, xs_lt_scn, xs_q_scn, xs_ac_scn, xs_mk_scn, xs_ac_sac, xs_sac_sac, xs_nx_sg, xs_up_sg, xs_lt_sg, xs_cn_sg, xs_q_sg, if_true, if_false, reduceIte, Bool.false_eq_true, Bool.true_eq_false, and_true, true_and, and_false, false_and, or_true, true_or, or_false, false_or, not_true_eq_false, not_false_eq_true] <;> rfl
      exact ur_I (G := (fun _ _ => True)) (τ := (xp_connect σ x).2.2) (r := (xp_connect σ x).2.1) hC hK hX hS trivial (by rw [e9]) (by rw [e9]; rfl) rfl (by rw [e9]) d_U_connect_48
    · refine lv_aload_n hx hb d_U_connect_27 rfl (lv_at hl 0 rfl) ?_
      refine lv_iconst (v := 2) hx hb d_U_connect_28 (by decide) ?_
      refine uk_iQ (rest := []) (c_U_raise l g o σ 0 rp n t b9 2) gd_U_U_raise hd_U_raise hC hK hX hS (fun _ h => h) (by omega) (by omega) (by omega) (by omega) hl.1 rfl (Nat.le_of_ble_eq_true rfl) d_U_connect_29 (fun rp9 t b9 H locs hG9 hX hS _ _ => ?_)
      rw [hG9.1] at hX
      have e9 : xp_connect σ x = (2, 0, σ) := by simp only [xp_connect, c_1, c_2, xs_cn_scn, xs_nx_scn, xs_up_scn, xs_lt_scn, xs_q_scn, xs_ac_scn, xs_mk_scn, xs_ac_sac, xs_sac_sac, xs_nx_sg, xs_up_sg, xs_lt_sg, xs_cn_sg, xs_q_sg, if_true, if_false, reduceIte, Bool.false_eq_true, Bool.true_eq_false, and_true, true_and, and_false, false_and, or_true, true_or, or_false, false_or, not_true_eq_false, not_false_eq_true] <;> rfl
      exact ur_I (G := (fun _ _ => True)) (τ := (xp_connect σ x).2.2) (r := (xp_connect σ x).2.1) hC hK hX hS trivial (by rw [e9]) (by rw [e9]; rfl) rfl (by rw [e9]) d_U_connect_32
  · have c_1 := xs_b0 c_1
    refine lv_aload_n hx hb d_U_connect_12 rfl (lv_at hl 0 rfl) ?_
    refine lv_iconst (v := 1) hx hb d_U_connect_13 (by decide) ?_
    refine uk_iQ (rest := []) (c_U_raise l g o σ 0 rp n t b9 1) gd_U_U_raise hd_U_raise hC hK hX hS (fun _ h => h) (by omega) (by omega) (by omega) (by omega) hl.1 rfl (Nat.le_of_ble_eq_true rfl) d_U_connect_14 (fun rp9 t b9 H locs hG9 hX hS _ _ => ?_)
    rw [hG9.1] at hX
    have e9 : xp_connect σ x = (1, 0, σ) := by simp only [xp_connect, c_1, xs_cn_scn, xs_nx_scn, xs_up_scn, xs_lt_scn, xs_q_scn, xs_ac_scn, xs_mk_scn, xs_ac_sac, xs_sac_sac, xs_nx_sg, xs_up_sg, xs_lt_sg, xs_cn_sg, xs_q_sg, if_true, if_false, reduceIte, Bool.false_eq_true, Bool.true_eq_false, and_true, true_and, and_false, false_and, or_true, true_or, or_false, false_or, not_true_eq_false, not_false_eq_true] <;> rfl
    exact ur_I (G := (fun _ _ => True)) (τ := (xp_connect σ x).2.2) (r := (xp_connect σ x).2.1) hC hK hX hS trivial (by rw [e9]) (by rw [e9]; rfl) rfl (by rw [e9]) d_U_connect_17
set_option maxHeartbeats 4000000 in
set_option maxRecDepth 100000 in
theorem c_U_login (l : Launch) (g : xw_G) (o : Nat) (σ : xs_S) (th rp : Int32) (n : Nat) (t : xu_X) (a : xu_M) (x y : Int32) (hn9 : n < 100000) : uc_Q l y_U_login (Cond.code y_U_login b_U_login 3 (some .int)) g o σ th rp n t a ((xp_login σ x y).2.1) ((xp_login σ x y).2.2) (nI (xp_login σ x y).1) (if (xp_login σ x y).1 = 0 then n + 1 else n) (fun _ _ => True) [.ref o, .int x, .int y] 2 42 := by
  refine uh_Q (own := R_U) (by decide) rfl (Nat.le_of_ble_eq_true rfl) ?_
  intro p e R s m below meth c ls hRf hRl hC hK hX hl
  obtain ⟨hx, hb, hml, hr, hown, hts, hlk⟩ := id hC
  have hS : va_S (xu_W o) s.heap s.heap [] := va_S.rf
  have hl : lv_has ls 3 [(0, .ref o), (1, .int x), (2, .int y)] := hl
  have hX0 := hX
  refine lv_aload_n hx hb d_U_login_0 rfl (lv_at hl 0 rfl) ?_
  refine lv_iconst (v := 0) hx hb d_U_login_1 (by decide) ?_
  refine uo_put (sc' := xu_num σ 0 rp n t) hx hb hts hown hK hX.1 hX.2.1 hS 0 (by decide) lk_U_87 rfl rfl rfl rfl rfl d_U_login_2 (fun H locs hO hA hS => ?_)
  have hX : xu_R g o σ 0 rp n t a H := ⟨hO, hA, hX.2.2.1, hX.2.2.2.1, hX.2.2.2.2⟩
  refine lv_iload_n hx hb d_U_login_5 rfl (lv_at hl 1 rfl) ?_
  refine uk_sQ (rest := []) (c_U_isConnection l g o σ 0 rp n t a x) gd_U_U_isConnection hd_U_isConnection hC hK hX hS (fun _ h => h) (by omega) (by omega) (by omega) (by omega) hl.1 rfl (Nat.le_of_ble_eq_true rfl) d_U_login_6 (fun rp9 t b9 H locs hG9 hX hS _ _ => ?_)
  rw [hG9.1] at hX
  refine lv_if_eq (tgt := 19) hx hb d_U_login_9 (by decide) (fun c_1 => ?_) (fun c_1 => ?_)
  · have c_1 := xs_b0 c_1
    refine lv_aload_n hx hb d_U_login_19 rfl (lv_at hl 0 rfl) ?_
    refine lv_iconst (v := 1) hx hb d_U_login_20 (by decide) ?_
    refine uk_iQ (rest := []) (c_U_raise l g o σ 0 rp n t b9 1) gd_U_U_raise hd_U_raise hC hK hX hS (fun _ h => h) (by omega) (by omega) (by omega) (by omega) hl.1 rfl (Nat.le_of_ble_eq_true rfl) d_U_login_21 (fun rp9 t b9 H locs hG9 hX hS _ _ => ?_)
    rw [hG9.1] at hX
    have e9 : xp_login σ x y = (1, 0, σ) := by have h9 := hX0.2.2.2.2; have h8 := xu_nx_step n; simp only [xp_login, xp_login1, xm_sst, xm_sacc, xm_sch, h9, h8, c_1, xs_cn_scn, xs_nx_scn, xs_up_scn, xs_lt_scn, xs_q_scn, xs_ac_scn, xs_mk_scn, xs_ac_sac, xs_sac_sac, xs_nx_sg, xs_up_sg, xs_lt_sg, xs_cn_sg, xs_q_sg, if_true, if_false, reduceIte, Bool.false_eq_true, Bool.true_eq_false, and_true, true_and, and_false, false_and, or_true, true_or, or_false, false_or, not_true_eq_false, not_false_eq_true] <;> rfl
    exact ur_I (G := (fun _ _ => True)) (τ := (xp_login σ x y).2.2) (r := (xp_login σ x y).2.1) hC hK hX hS trivial (by rw [e9]) (by rw [e9]; rfl) (by rw [e9]; rfl) (by rw [e9]) d_U_login_24
  · have c_1 := xs_b1 c_1
    refine lv_iload_n hx hb d_U_login_12 rfl (lv_at hl 2 rfl) ?_
    refine uk_sQ (rest := []) (c_U_isAccount l g o σ 0 rp n t b9 y) gd_U_U_isAccount hd_U_isAccount hC hK hX hS (fun _ h => h) (by omega) (by omega) (by omega) (by omega) hl.1 rfl (Nat.le_of_ble_eq_true rfl) d_U_login_13 (fun rp9 t b9 H locs hG9 hX hS _ _ => ?_)
    rw [hG9.1] at hX
    refine lv_if_ne (tgt := 25) hx hb d_U_login_16 (by decide) (fun c_2 => ?_) (fun c_2 => ?_)
    · have c_2 := xs_b1 c_2
      refine lv_aload_n hx hb d_U_login_25 rfl (lv_at hl 0 rfl) ?_
      refine xb_get (v := .ref (o + 4)) hx hb hts xw_in_U hown hK (ci := xi_U) rfl 4 (by decide) (hts _ lk_U_20) rfl hX.1 rfl d_U_login_26 ?_
      refine lv_iload_n hx hb d_U_login_29 rfl (lv_at hl 1 rfl) ?_
      refine ug_i (v := (xs_cn σ (xs_ix x)).1) hx hb hK hX.2.1 4 (by decide) (by decide) rfl rfl (xm_in6t c_1) ((hX.2.2.1.2.2.1 (xs_ix x) (xs_ixl (xm_in6t c_1))).1) d_U_login_30 ?_
      refine lv_iconst (v := 1) hx hb d_U_login_31 (by decide) ?_
      refine lv_icmp_eq (tgt := 41) hx hb d_U_login_32 (by decide) (fun c_3 => ?_) (fun c_3 => ?_)
      · refine lv_aload_n hx hb d_U_login_41 rfl (lv_at hl 0 rfl) ?_
        refine xb_get (v := .ref (o + 4)) hx hb hts xw_in_U hown hK (ci := xi_U) rfl 4 (by decide) (hts _ lk_U_20) rfl hX.1 rfl d_U_login_42 ?_
        refine lv_iload_n hx hb d_U_login_45 rfl (lv_at hl 1 rfl) ?_
        refine lv_iconst (v := 2) hx hb d_U_login_46 (by decide) ?_
        refine up_i (σ' := xm_sst σ (xs_ix x) 2) hx hb hK hX hS 4 (by decide) (by decide) rfl rfl (xm_in6t c_1) d_U_login_47 (hX.2.2.1.st (xs_ixl (xm_in6t c_1))) rfl rfl rfl (fun b9 H locs hF9 hX hS => ?_)
        refine lv_aload_n hx hb d_U_login_48 rfl (lv_at hl 0 rfl) ?_
        refine xb_get (v := .ref (o + 5)) hx hb hts xw_in_U hown hK (ci := xi_U) rfl 5 (by decide) (hts _ lk_U_23) rfl hX.1 rfl d_U_login_49 ?_
        refine lv_iload_n hx hb d_U_login_52 rfl (lv_at hl 1 rfl) ?_
        refine lv_iload_n hx hb d_U_login_53 rfl (lv_at hl 2 rfl) ?_
        refine up_i (σ' := xm_sacc (xm_sst σ (xs_ix x) 2) (xs_ix x) y) hx hb hK hX hS 5 (by decide) (by decide) rfl rfl (xm_in6t c_1) d_U_login_54 (hX.2.2.1.acc (xs_ixl (xm_in6t c_1))) rfl rfl rfl (fun b9 H locs hF9 hX hS => ?_)
        refine lv_aload_n hx hb d_U_login_55 rfl (lv_at hl 0 rfl) ?_
        refine xb_get (v := .ref (o + 9)) hx hb hts xw_in_U hown hK (ci := xi_U) rfl 9 (by decide) (hts _ lk_U_35) rfl hX.1 rfl d_U_login_56 ?_
        refine lv_iload_n hx hb d_U_login_59 rfl (lv_at hl 1 rfl) ?_
        refine lv_ldc2 (v := 7919) hx hb hown (hts _ kl_147) d_U_login_60 ?_
        refine lv_aload_n hx hb d_U_login_63 rfl (lv_at hl 0 rfl) ?_
        refine xb_get (v := .int (nI n)) hx hb hts xw_in_U hown hK (ci := xi_U) rfl 10 (by decide) (hts _ lk_U_149) rfl hX.1 rfl d_U_login_64 ?_
        refine lv_i2l hx hb d_U_login_67 rfl ?_
        refine lv_lmul hx hb d_U_login_68 ?_
        refine lv_ldc2 (v := 4242) hx hb hown (hts _ kl_152) d_U_login_69 ?_
        refine lv_ladd hx hb d_U_login_72 ?_
        refine lv_ldc2 (v := 10000) hx hb hown (hts _ kl_154) d_U_login_73 ?_
        refine lv_lrem hx hb d_U_login_76 (by decide) ?_
        refine lv_l2i (v := xu_nx n) hx hb d_U_login_77 (xu_chal hn9) ?_
        refine up_i (σ' := xm_sch (xm_sacc (xm_sst σ (xs_ix x) 2) (xs_ix x) y) (xs_ix x) (xu_nx n)) hx hb hK hX hS 9 (by decide) (by decide) rfl rfl (xm_in6t c_1) d_U_login_78 (hX.2.2.1.ch (xs_ixl (xm_in6t c_1))) rfl rfl rfl (fun b9 H locs hF9 hX hS => ?_)
        refine lv_aload_n hx hb d_U_login_79 rfl (lv_at hl 0 rfl) ?_
        refine lv_dup hx hb d_U_login_80 rfl ?_
        refine xb_get (v := .int (nI n)) hx hb hts xw_in_U hown hK (ci := xi_U) rfl 10 (by decide) (hts _ lk_U_149) rfl hX.1 rfl d_U_login_81 ?_
        refine lv_iconst (v := 1) hx hb d_U_login_84 (by decide) ?_
        refine lv_iadd hx hb d_U_login_85 ?_
        refine uo_put (sc' := xu_num (xs_sg (xm_sch (xm_sacc (xm_sst σ (xs_ix x) 2) (xs_ix x) y) (xs_ix x) (xu_nx n)) (xs_up (xm_sch (xm_sacc (xm_sst σ (xs_ix x) 2) (xs_ix x) y) (xs_ix x) (xu_nx n))) (xu_nx (n + 1)) (xs_lt (xm_sch (xm_sacc (xm_sst σ (xs_ix x) 2) (xs_ix x) y) (xs_ix x) (xu_nx n)))) 0 rp (n + 1) t) hx hb hts hown hK hX.1 hX.2.1 hS 10 (by decide) lk_U_149 rfl rfl rfl rfl (by rw [nI_1]; rfl) d_U_login_86 (fun H locs hO hA hS => ?_)
        have hX : xu_R g o (xs_sg (xm_sch (xm_sacc (xm_sst σ (xs_ix x) 2) (xs_ix x) y) (xs_ix x) (xu_nx n)) (xs_up (xm_sch (xm_sacc (xm_sst σ (xs_ix x) 2) (xs_ix x) y) (xs_ix x) (xu_nx n))) (xu_nx (n + 1)) (xs_lt (xm_sch (xm_sacc (xm_sst σ (xs_ix x) 2) (xs_ix x) y) (xs_ix x) (xu_nx n)))) 0 rp (n + 1) t b9 H := ⟨hO, hA, hX.2.2.1, hX.2.2.2.1, rfl⟩
        refine lv_aload_n hx hb d_U_login_89 rfl (lv_at hl 0 rfl) ?_
        refine xb_get (v := .ref (o + 9)) hx hb hts xw_in_U hown hK (ci := xi_U) rfl 9 (by decide) (hts _ lk_U_35) rfl hX.1 rfl d_U_login_90 ?_
        refine lv_iload_n hx hb d_U_login_93 rfl (lv_at hl 1 rfl) ?_
        refine ug_i (v := (xs_cn (xs_sg (xm_sch (xm_sacc (xm_sst σ (xs_ix x) 2) (xs_ix x) y) (xs_ix x) (xu_nx n)) (xs_up (xm_sch (xm_sacc (xm_sst σ (xs_ix x) 2) (xs_ix x) y) (xs_ix x) (xu_nx n))) (xu_nx (n + 1)) (xs_lt (xm_sch (xm_sacc (xm_sst σ (xs_ix x) 2) (xs_ix x) y) (xs_ix x) (xu_nx n)))) (xs_ix x)).2.2.2.2.1) hx hb hK hX.2.1 9 (by decide) (by decide) rfl rfl (xm_in6t c_1) ((hX.2.2.1.2.2.1 (xs_ix x) (xs_ixl (xm_in6t c_1))).2.2.2.2.2) d_U_login_94 ?_
        have e9 : xp_login σ x y = (0, (xs_cn (xs_sg (xm_sch (xm_sacc (xm_sst σ (xs_ix x) 2) (xs_ix x) y) (xs_ix x) (xu_nx n)) (xs_up (xm_sch (xm_sacc (xm_sst σ (xs_ix x) 2) (xs_ix x) y) (xs_ix x) (xu_nx n))) (xu_nx (n + 1)) (xs_lt (xm_sch (xm_sacc (xm_sst σ (xs_ix x) 2) (xs_ix x) y) (xs_ix x) (xu_nx n)))) (xs_ix x)).2.2.2.2.1, xs_sg (xm_sch (xm_sacc (xm_sst σ (xs_ix x) 2) (xs_ix x) y) (xs_ix x) (xu_nx n)) (xs_up (xm_sch (xm_sacc (xm_sst σ (xs_ix x) 2) (xs_ix x) y) (xs_ix x) (xu_nx n))) (xu_nx (n + 1)) (xs_lt (xm_sch (xm_sacc (xm_sst σ (xs_ix x) 2) (xs_ix x) y) (xs_ix x) (xu_nx n)))) := by have h9 := hX0.2.2.2.2; have h8 := xu_nx_step n; simp only [xp_login, xp_login1, xm_sst, xm_sacc, xm_sch, h9, h8, c_1, c_2, c_3, xs_cn_scn, xs_nx_scn, xs_up_scn, xs_lt_scn, xs_q_scn, xs_ac_scn, xs_mk_scn, xs_ac_sac, xs_sac_sac, xs_nx_sg, xs_up_sg, xs_lt_sg, xs_cn_sg, xs_q_sg, if_true, if_false, reduceIte, Bool.false_eq_true, Bool.true_eq_false, and_true, true_and, and_false, false_and, or_true, true_or, or_false, false_or, not_true_eq_false, not_false_eq_true] <;> rfl
        exact ur_I (G := (fun _ _ => True)) (τ := (xp_login σ x y).2.2) (r := (xp_login σ x y).2.1) hC hK hX hS trivial (by rw [e9]) (by rw [e9]; rfl) (by rw [e9]; rfl) (by rw [e9]) d_U_login_95
      · refine lv_aload_n hx hb d_U_login_35 rfl (lv_at hl 0 rfl) ?_
        refine lv_iconst (v := 2) hx hb d_U_login_36 (by decide) ?_
        refine uk_iQ (rest := []) (c_U_raise l g o σ 0 rp n t b9 2) gd_U_U_raise hd_U_raise hC hK hX hS (fun _ h => h) (by omega) (by omega) (by omega) (by omega) hl.1 rfl (Nat.le_of_ble_eq_true rfl) d_U_login_37 (fun rp9 t b9 H locs hG9 hX hS _ _ => ?_)
        rw [hG9.1] at hX
        have e9 : xp_login σ x y = (2, 0, σ) := by have h9 := hX0.2.2.2.2; have h8 := xu_nx_step n; simp only [xp_login, xp_login1, xm_sst, xm_sacc, xm_sch, h9, h8, c_1, c_2, c_3, xs_cn_scn, xs_nx_scn, xs_up_scn, xs_lt_scn, xs_q_scn, xs_ac_scn, xs_mk_scn, xs_ac_sac, xs_sac_sac, xs_nx_sg, xs_up_sg, xs_lt_sg, xs_cn_sg, xs_q_sg, if_true, if_false, reduceIte, Bool.false_eq_true, Bool.true_eq_false, and_true, true_and, and_false, false_and, or_true, true_or, or_false, false_or, not_true_eq_false, not_false_eq_true] <;> rfl
        exact ur_I (G := (fun _ _ => True)) (τ := (xp_login σ x y).2.2) (r := (xp_login σ x y).2.1) hC hK hX hS trivial (by rw [e9]) (by rw [e9]; rfl) (by rw [e9]; rfl) (by rw [e9]) d_U_login_40
    · have c_2 := xs_b0 c_2
      refine lv_aload_n hx hb d_U_login_19 rfl (lv_at hl 0 rfl) ?_
      refine lv_iconst (v := 1) hx hb d_U_login_20 (by decide) ?_
      refine uk_iQ (rest := []) (c_U_raise l g o σ 0 rp n t b9 1) gd_U_U_raise hd_U_raise hC hK hX hS (fun _ h => h) (by omega) (by omega) (by omega) (by omega) hl.1 rfl (Nat.le_of_ble_eq_true rfl) d_U_login_21 (fun rp9 t b9 H locs hG9 hX hS _ _ => ?_)
      rw [hG9.1] at hX
      have e9 : xp_login σ x y = (1, 0, σ) := by have h9 := hX0.2.2.2.2; have h8 := xu_nx_step n; simp only [xp_login, xp_login1, xm_sst, xm_sacc, xm_sch, h9, h8, c_1, c_2, xs_cn_scn, xs_nx_scn, xs_up_scn, xs_lt_scn, xs_q_scn, xs_ac_scn, xs_mk_scn, xs_ac_sac, xs_sac_sac, xs_nx_sg, xs_up_sg, xs_lt_sg, xs_cn_sg, xs_q_sg, if_true, if_false, reduceIte, Bool.false_eq_true, Bool.true_eq_false, and_true, true_and, and_false, false_and, or_true, true_or, or_false, false_or, not_true_eq_false, not_false_eq_true] <;> rfl
      exact ur_I (G := (fun _ _ => True)) (τ := (xp_login σ x y).2.2) (r := (xp_login σ x y).2.1) hC hK hX hS trivial (by rw [e9]) (by rw [e9]; rfl) (by rw [e9]; rfl) (by rw [e9]) d_U_login_24
set_option maxHeartbeats 4000000 in
set_option maxRecDepth 100000 in
theorem c_U_prove (l : Launch) (g : xw_G) (o : Nat) (σ : xs_S) (th rp : Int32) (n : Nat) (t : xu_X) (a : xu_M) (x y : Int32) (hwf : xm_wf σ) : uc_Q l y_U_prove (Cond.code y_U_prove b_U_prove 4 (some .int)) g o σ th rp n t a ((xp_prove σ x y).2.1) ((xp_prove σ x y).2.2) (nI (xp_prove σ x y).1) n (fun _ _ => True) [.ref o, .int x, .int y] 2 42 := by
  refine uh_Q (own := R_U) (by decide) rfl (Nat.le_of_ble_eq_true rfl) ?_
  intro p e R s m below meth c ls hRf hRl hC hK hX hl
  obtain ⟨hx, hb, hml, hr, hown, hts, hlk⟩ := id hC
  have hS : va_S (xu_W o) s.heap s.heap [] := va_S.rf
  have hl : lv_has ls 4 [(0, .ref o), (1, .int x), (2, .int y)] := hl
  refine lv_aload_n hx hb d_U_prove_0 rfl (lv_at hl 0 rfl) ?_
  refine lv_iconst (v := 0) hx hb d_U_prove_1 (by decide) ?_
  refine uo_put (sc' := xu_num σ 0 rp n t) hx hb hts hown hK hX.1 hX.2.1 hS 0 (by decide) lk_U_87 rfl rfl rfl rfl rfl d_U_prove_2 (fun H locs hO hA hS => ?_)
  have hX : xu_R g o σ 0 rp n t a H := ⟨hO, hA, hX.2.2.1, hX.2.2.2.1, hX.2.2.2.2⟩
  refine lv_iload_n hx hb d_U_prove_5 rfl (lv_at hl 1 rfl) ?_
  refine uk_sQ (rest := []) (c_U_isConnection l g o σ 0 rp n t a x) gd_U_U_isConnection hd_U_isConnection hC hK hX hS (fun _ h => h) (by omega) (by omega) (by omega) (by omega) hl.1 rfl (Nat.le_of_ble_eq_true rfl) d_U_prove_6 (fun rp9 t b9 H locs hG9 hX hS _ _ => ?_)
  rw [hG9.1] at hX
  refine lv_if_ne (tgt := 18) hx hb d_U_prove_9 (by decide) (fun c_1 => ?_) (fun c_1 => ?_)
  · have c_1 := xs_b1 c_1
    refine lv_aload_n hx hb d_U_prove_18 rfl (lv_at hl 0 rfl) ?_
    refine xb_get (v := .ref (o + 4)) hx hb hts xw_in_U hown hK (ci := xi_U) rfl 4 (by decide) (hts _ lk_U_20) rfl hX.1 rfl d_U_prove_19 ?_
    refine lv_iload_n hx hb d_U_prove_22 rfl (lv_at hl 1 rfl) ?_
    refine ug_i (v := (xs_cn σ (xs_ix x)).1) hx hb hK hX.2.1 4 (by decide) (by decide) rfl rfl (xm_in6t c_1) ((hX.2.2.1.2.2.1 (xs_ix x) (xs_ixl (xm_in6t c_1))).1) d_U_prove_23 ?_
    refine lv_iconst (v := 2) hx hb d_U_prove_24 (by decide) ?_
    refine lv_icmp_eq (tgt := 34) hx hb d_U_prove_25 (by decide) (fun c_2 => ?_) (fun c_2 => ?_)
    · have hvac := hwf.2.1 _ (xs_ixl (xm_in6t c_1)) (Or.inl c_2)
      refine lv_aload_n hx hb d_U_prove_34 rfl (lv_at hl 0 rfl) ?_
      refine xb_get (v := .ref (o + 5)) hx hb hts xw_in_U hown hK (ci := xi_U) rfl 5 (by decide) (hts _ lk_U_23) rfl hX.1 rfl d_U_prove_35 ?_
      refine lv_iload_n hx hb d_U_prove_38 rfl (lv_at hl 1 rfl) ?_
      refine ug_i (v := (xs_cn σ (xs_ix x)).2.1) hx hb hK hX.2.1 5 (by decide) (by decide) rfl rfl (xm_in6t c_1) ((hX.2.2.1.2.2.1 (xs_ix x) (xs_ixl (xm_in6t c_1))).2.1) d_U_prove_39 ?_
      refine lv_istore_n (lv' := [(3, .int ((xs_cn σ (xs_ix x)).2.1)), (0, .ref o), (1, .int x), (2, .int y)]) hx hb d_U_prove_40 rfl hl (by decide) rfl (fun ls hl => ?_)
      refine lv_aload_n hx hb d_U_prove_41 rfl (lv_at hl 1 rfl) ?_
      refine xb_get (v := .ref (o + 1)) hx hb hts xw_in_U hown hK (ci := xi_U) rfl 1 (by decide) (hts _ lk_U_7) rfl hX.1 rfl d_U_prove_42 ?_
      refine lv_iload_n hx hb d_U_prove_45 rfl (lv_at hl 0 rfl) ?_
      refine ug_z (v := xs_b (xs_ac σ (xs_ix ((xs_cn σ (xs_ix x)).2.1))).1) hx hb hK hX.2.1 1 (by decide) (by decide) rfl rfl hvac ((hX.2.2.1.1 (xs_ix ((xs_cn σ (xs_ix x)).2.1)) (xs_ixl hvac)).1) d_U_prove_46 ?_
      refine lv_if_eq (tgt := 83) hx hb d_U_prove_47 (by decide) (fun c_3 => ?_) (fun c_3 => ?_)
      · have c_3 := xs_b0 c_3
        refine lv_aload_n hx hb d_U_prove_83 rfl (lv_at hl 1 rfl) ?_
        refine xb_get (v := .ref (o + 4)) hx hb hts xw_in_U hown hK (ci := xi_U) rfl 4 (by decide) (hts _ lk_U_20) rfl hX.1 rfl d_U_prove_84 ?_
        refine lv_iload_n hx hb d_U_prove_87 rfl (lv_at hl 2 rfl) ?_
        refine lv_iconst (v := 1) hx hb d_U_prove_88 (by decide) ?_
        refine up_i (σ' := xm_sst σ (xs_ix x) 1) hx hb hK hX hS 4 (by decide) (by decide) rfl rfl (xm_in6t c_1) d_U_prove_89 (hX.2.2.1.st (xs_ixl (xm_in6t c_1))) rfl rfl rfl (fun b9 H locs hF9 hX hS => ?_)
        refine lv_aload_n hx hb d_U_prove_90 rfl (lv_at hl 1 rfl) ?_
        refine xb_get (v := .ref (o + 5)) hx hb hts xw_in_U hown hK (ci := xi_U) rfl 5 (by decide) (hts _ lk_U_23) rfl hX.1 rfl d_U_prove_91 ?_
        refine lv_iload_n hx hb d_U_prove_94 rfl (lv_at hl 2 rfl) ?_
        refine lv_iconst (v := (-1)) hx hb d_U_prove_95 (by decide) ?_
        refine up_i (σ' := xm_sacc (xm_sst σ (xs_ix x) 1) (xs_ix x) (-1)) hx hb hK hX hS 5 (by decide) (by decide) rfl rfl (xm_in6t c_1) d_U_prove_96 (hX.2.2.1.acc (xs_ixl (xm_in6t c_1))) rfl rfl rfl (fun b9 H locs hF9 hX hS => ?_)
        refine lv_aload_n hx hb d_U_prove_97 rfl (lv_at hl 1 rfl) ?_
        refine lv_iconst (v := 3) hx hb d_U_prove_98 (by decide) ?_
        refine uk_iQ (rest := []) (c_U_raise l g o (xm_sacc (xm_sst σ (xs_ix x) 1) (xs_ix x) (-1)) 0 rp n t b9 3) gd_U_U_raise hd_U_raise hC hK hX hS (fun _ h => h) (by omega) (by omega) (by omega) (by omega) hl.1 rfl (Nat.le_of_ble_eq_true rfl) d_U_prove_99 (fun rp9 t b9 H locs hG9 hX hS _ _ => ?_)
        rw [hG9.1] at hX
        have e9 : xp_prove σ x y = (3, 0, xm_sacc (xm_sst σ (xs_ix x) 1) (xs_ix x) (-1)) := by simp only [xp_prove, xm_proof, Bool.true_and, Bool.false_and, decide_true, decide_false, c_1, c_2, c_3, xs_cn_scn, xs_nx_scn, xs_up_scn, xs_lt_scn, xs_q_scn, xs_ac_scn, xs_mk_scn, xs_ac_sac, xs_sac_sac, xs_nx_sg, xs_up_sg, xs_lt_sg, xs_cn_sg, xs_q_sg, if_true, if_false, reduceIte, Bool.false_eq_true, Bool.true_eq_false, and_true, true_and, and_false, false_and, or_true, true_or, or_false, false_or, not_true_eq_false, not_false_eq_true] <;> rfl
        exact ur_I (G := (fun _ _ => True)) (τ := (xp_prove σ x y).2.2) (r := (xp_prove σ x y).2.1) hC hK hX hS trivial (by rw [e9]) (by rw [e9]; rfl) rfl (by rw [e9]) d_U_prove_102
      · have c_3 := xs_b1 c_3
        refine lv_iload_n hx hb d_U_prove_50 rfl (lv_at hl 3 rfl) ?_
        refine lv_aload_n hx hb d_U_prove_51 rfl (lv_at hl 1 rfl) ?_
        refine xb_get (v := .ref (o + 2)) hx hb hts xw_in_U hown hK (ci := xi_U) rfl 2 (by decide) (hts _ lk_U_13) rfl hX.1 rfl d_U_prove_52 ?_
        refine lv_iload_n hx hb d_U_prove_55 rfl (lv_at hl 0 rfl) ?_
        refine ug_i (v := (xs_ac σ (xs_ix ((xs_cn σ (xs_ix x)).2.1))).2) hx hb hK hX.2.1 2 (by decide) (by decide) rfl rfl hvac ((hX.2.2.1.1 (xs_ix ((xs_cn σ (xs_ix x)).2.1)) (xs_ixl hvac)).2) d_U_prove_56 ?_
        refine lv_bipush (v := 31) hx hb d_U_prove_57 (by decide) ?_
        refine lv_imul hx hb d_U_prove_59 ?_
        refine lv_aload_n hx hb d_U_prove_60 rfl (lv_at hl 1 rfl) ?_
        refine xb_get (v := .ref (o + 9)) hx hb hts xw_in_U hown hK (ci := xi_U) rfl 9 (by decide) (hts _ lk_U_35) rfl hX.1 rfl d_U_prove_61 ?_
        refine lv_iload_n hx hb d_U_prove_64 rfl (lv_at hl 2 rfl) ?_
        refine ug_i (v := (xs_cn σ (xs_ix x)).2.2.2.2.1) hx hb hK hX.2.1 9 (by decide) (by decide) rfl rfl (xm_in6t c_1) ((hX.2.2.1.2.2.1 (xs_ix x) (xs_ixl (xm_in6t c_1))).2.2.2.2.2) d_U_prove_65 ?_
        refine lv_iadd hx hb d_U_prove_66 ?_
        refine lv_sipush (v := 10007) hx hb d_U_prove_67 (by decide) ?_
        refine lv_irem hx hb d_U_prove_70 (by decide) ?_
        refine lv_icmp_ne (tgt := 83) hx hb d_U_prove_71 (by decide) (fun c_4 => ?_) (fun c_4 => ?_)
        · refine lv_aload_n hx hb d_U_prove_83 rfl (lv_at hl 1 rfl) ?_
          refine xb_get (v := .ref (o + 4)) hx hb hts xw_in_U hown hK (ci := xi_U) rfl 4 (by decide) (hts _ lk_U_20) rfl hX.1 rfl d_U_prove_84 ?_
          refine lv_iload_n hx hb d_U_prove_87 rfl (lv_at hl 2 rfl) ?_
          refine lv_iconst (v := 1) hx hb d_U_prove_88 (by decide) ?_
          refine up_i (σ' := xm_sst σ (xs_ix x) 1) hx hb hK hX hS 4 (by decide) (by decide) rfl rfl (xm_in6t c_1) d_U_prove_89 (hX.2.2.1.st (xs_ixl (xm_in6t c_1))) rfl rfl rfl (fun b9 H locs hF9 hX hS => ?_)
          refine lv_aload_n hx hb d_U_prove_90 rfl (lv_at hl 1 rfl) ?_
          refine xb_get (v := .ref (o + 5)) hx hb hts xw_in_U hown hK (ci := xi_U) rfl 5 (by decide) (hts _ lk_U_23) rfl hX.1 rfl d_U_prove_91 ?_
          refine lv_iload_n hx hb d_U_prove_94 rfl (lv_at hl 2 rfl) ?_
          refine lv_iconst (v := (-1)) hx hb d_U_prove_95 (by decide) ?_
          refine up_i (σ' := xm_sacc (xm_sst σ (xs_ix x) 1) (xs_ix x) (-1)) hx hb hK hX hS 5 (by decide) (by decide) rfl rfl (xm_in6t c_1) d_U_prove_96 (hX.2.2.1.acc (xs_ixl (xm_in6t c_1))) rfl rfl rfl (fun b9 H locs hF9 hX hS => ?_)
          refine lv_aload_n hx hb d_U_prove_97 rfl (lv_at hl 1 rfl) ?_
          refine lv_iconst (v := 3) hx hb d_U_prove_98 (by decide) ?_
          refine uk_iQ (rest := []) (c_U_raise l g o (xm_sacc (xm_sst σ (xs_ix x) 1) (xs_ix x) (-1)) 0 rp n t b9 3) gd_U_U_raise hd_U_raise hC hK hX hS (fun _ h => h) (by omega) (by omega) (by omega) (by omega) hl.1 rfl (Nat.le_of_ble_eq_true rfl) d_U_prove_99 (fun rp9 t b9 H locs hG9 hX hS _ _ => ?_)
          rw [hG9.1] at hX
          have e9 : xp_prove σ x y = (3, 0, xm_sacc (xm_sst σ (xs_ix x) 1) (xs_ix x) (-1)) := by simp only [xp_prove, xm_proof, Bool.true_and, Bool.false_and, decide_true, decide_false, c_1, c_2, c_3, c_4, xs_cn_scn, xs_nx_scn, xs_up_scn, xs_lt_scn, xs_q_scn, xs_ac_scn, xs_mk_scn, xs_ac_sac, xs_sac_sac, xs_nx_sg, xs_up_sg, xs_lt_sg, xs_cn_sg, xs_q_sg, if_true, if_false, reduceIte, Bool.false_eq_true, Bool.true_eq_false, and_true, true_and, and_false, false_and, or_true, true_or, or_false, false_or, not_true_eq_false, not_false_eq_true] <;> rfl
          exact ur_I (G := (fun _ _ => True)) (τ := (xp_prove σ x y).2.2) (r := (xp_prove σ x y).2.1) hC hK hX hS trivial (by rw [e9]) (by rw [e9]; rfl) rfl (by rw [e9]) d_U_prove_102
        · refine lv_aload_n hx hb d_U_prove_74 rfl (lv_at hl 1 rfl) ?_
          refine xb_get (v := .ref (o + 4)) hx hb hts xw_in_U hown hK (ci := xi_U) rfl 4 (by decide) (hts _ lk_U_20) rfl hX.1 rfl d_U_prove_75 ?_
          refine lv_iload_n hx hb d_U_prove_78 rfl (lv_at hl 2 rfl) ?_
          refine lv_iconst (v := 3) hx hb d_U_prove_79 (by decide) ?_
          refine up_i (σ' := xm_sst σ (xs_ix x) 3) hx hb hK hX hS 4 (by decide) (by decide) rfl rfl (xm_in6t c_1) d_U_prove_80 (hX.2.2.1.st (xs_ixl (xm_in6t c_1))) rfl rfl rfl (fun b9 H locs hF9 hX hS => ?_)
          refine lv_iconst (v := 1) hx hb d_U_prove_81 (by decide) ?_
          have e9 : xp_prove σ x y = (0, 1, xm_sst σ (xs_ix x) 3) := by simp only [xp_prove, xm_proof, Bool.true_and, Bool.false_and, decide_true, decide_false, c_1, c_2, c_3, c_4, xs_cn_scn, xs_nx_scn, xs_up_scn, xs_lt_scn, xs_q_scn, xs_ac_scn, xs_mk_scn, xs_ac_sac, xs_sac_sac, xs_nx_sg, xs_up_sg, xs_lt_sg, xs_cn_sg, xs_q_sg, if_true, if_false, reduceIte, Bool.false_eq_true, Bool.true_eq_false, and_true, true_and, and_false, false_and, or_true, true_or, or_false, false_or, not_true_eq_false, not_false_eq_true] <;> rfl
          exact ur_I (G := (fun _ _ => True)) (τ := (xp_prove σ x y).2.2) (r := (xp_prove σ x y).2.1) hC hK hX hS trivial (by rw [e9]) (by rw [e9]; rfl) rfl (by rw [e9]) d_U_prove_82
    · refine lv_aload_n hx hb d_U_prove_28 rfl (lv_at hl 0 rfl) ?_
      refine lv_iconst (v := 2) hx hb d_U_prove_29 (by decide) ?_
      refine uk_iQ (rest := []) (c_U_raise l g o σ 0 rp n t b9 2) gd_U_U_raise hd_U_raise hC hK hX hS (fun _ h => h) (by omega) (by omega) (by omega) (by omega) hl.1 rfl (Nat.le_of_ble_eq_true rfl) d_U_prove_30 (fun rp9 t b9 H locs hG9 hX hS _ _ => ?_)
      rw [hG9.1] at hX
      have e9 : xp_prove σ x y = (2, 0, σ) := by simp only [xp_prove, xm_proof, Bool.true_and, Bool.false_and, decide_true, decide_false, c_1, c_2, xs_cn_scn, xs_nx_scn, xs_up_scn, xs_lt_scn, xs_q_scn, xs_ac_scn, xs_mk_scn, xs_ac_sac, xs_sac_sac, xs_nx_sg, xs_up_sg, xs_lt_sg, xs_cn_sg, xs_q_sg, if_true, if_false, reduceIte, Bool.false_eq_true, Bool.true_eq_false, and_true, true_and, and_false, false_and, or_true, true_or, or_false, false_or, not_true_eq_false, not_false_eq_true] <;> rfl
      exact ur_I (G := (fun _ _ => True)) (τ := (xp_prove σ x y).2.2) (r := (xp_prove σ x y).2.1) hC hK hX hS trivial (by rw [e9]) (by rw [e9]; rfl) rfl (by rw [e9]) d_U_prove_33
  · have c_1 := xs_b0 c_1
    refine lv_aload_n hx hb d_U_prove_12 rfl (lv_at hl 0 rfl) ?_
    refine lv_iconst (v := 1) hx hb d_U_prove_13 (by decide) ?_
    refine uk_iQ (rest := []) (c_U_raise l g o σ 0 rp n t b9 1) gd_U_U_raise hd_U_raise hC hK hX hS (fun _ h => h) (by omega) (by omega) (by omega) (by omega) hl.1 rfl (Nat.le_of_ble_eq_true rfl) d_U_prove_14 (fun rp9 t b9 H locs hG9 hX hS _ _ => ?_)
    rw [hG9.1] at hX
    have e9 : xp_prove σ x y = (1, 0, σ) := by simp only [xp_prove, xm_proof, Bool.true_and, Bool.false_and, decide_true, decide_false, c_1, xs_cn_scn, xs_nx_scn, xs_up_scn, xs_lt_scn, xs_q_scn, xs_ac_scn, xs_mk_scn, xs_ac_sac, xs_sac_sac, xs_nx_sg, xs_up_sg, xs_lt_sg, xs_cn_sg, xs_q_sg, if_true, if_false, reduceIte, Bool.false_eq_true, Bool.true_eq_false, and_true, true_and, and_false, false_and, or_true, true_or, or_false, false_or, not_true_eq_false, not_false_eq_true] <;> rfl
    exact ur_I (G := (fun _ _ => True)) (τ := (xp_prove σ x y).2.2) (r := (xp_prove σ x y).2.1) hC hK hX hS trivial (by rw [e9]) (by rw [e9]; rfl) rfl (by rw [e9]) d_U_prove_17
set_option maxHeartbeats 4000000 in
set_option maxRecDepth 100000 in
theorem c_U_here (l : Launch) (g : xw_G) (o : Nat) (σ : xs_S) (th rp : Int32) (n : Nat) (t : xu_X) (a : xu_M) (x y : Int32) (hwf : xm_wf σ) : uc_Q l y_U_here (Cond.code y_U_here b_U_here 4 (some .int)) g o σ th rp n t a ((xp_here σ x y).2.1) ((xp_here σ x y).2.2) (nI (xp_here σ x y).1) n (fun _ _ => True) [.ref o, .int x, .int y] 6 157 := by
  refine uh_Q (own := R_U) (by decide) rfl (Nat.le_of_ble_eq_true rfl) ?_
  intro p e R s m below meth c ls hRf hRl hC hK hX hl
  obtain ⟨hx, hb, hml, hr, hown, hts, hlk⟩ := id hC
  have hS : va_S (xu_W o) s.heap s.heap [] := va_S.rf
  have hl : lv_has ls 4 [(0, .ref o), (1, .int x), (2, .int y)] := hl
  refine lv_aload_n hx hb d_U_here_0 rfl (lv_at hl 0 rfl) ?_
  refine lv_iconst (v := 0) hx hb d_U_here_1 (by decide) ?_
  refine uo_put (sc' := xu_num σ 0 rp n t) hx hb hts hown hK hX.1 hX.2.1 hS 0 (by decide) lk_U_87 rfl rfl rfl rfl rfl d_U_here_2 (fun H locs hO hA hS => ?_)
  have hX : xu_R g o σ 0 rp n t a H := ⟨hO, hA, hX.2.2.1, hX.2.2.2.1, hX.2.2.2.2⟩
  refine lv_iload_n hx hb d_U_here_5 rfl (lv_at hl 1 rfl) ?_
  refine uk_sQ (rest := []) (c_U_isConnection l g o σ 0 rp n t a x) gd_U_U_isConnection hd_U_isConnection hC hK hX hS (fun _ h => h) (by omega) (by omega) (by omega) (by omega) hl.1 rfl (Nat.le_of_ble_eq_true rfl) d_U_here_6 (fun rp9 t b9 H locs hG9 hX hS _ _ => ?_)
  rw [hG9.1] at hX
  refine lv_if_eq (tgt := 22) hx hb d_U_here_9 (by decide) (fun c_1 => ?_) (fun c_1 => ?_)
  · have c_1 := xs_b0 c_1
    refine lv_aload_n hx hb d_U_here_22 rfl (lv_at hl 0 rfl) ?_
    refine lv_iconst (v := 1) hx hb d_U_here_23 (by decide) ?_
    refine uk_iQ (rest := []) (c_U_raise l g o σ 0 rp n t b9 1) gd_U_U_raise hd_U_raise hC hK hX hS (fun _ h => h) (by omega) (by omega) (by omega) (by omega) hl.1 rfl (Nat.le_of_ble_eq_true rfl) d_U_here_24 (fun rp9 t b9 H locs hG9 hX hS _ _ => ?_)
    rw [hG9.1] at hX
    have e9 : xp_here σ x y = (1, 0, σ) := by simp only [xp_here, xp_here1, xp_here2, xp_here3, xu_wel, xs_cn_stw, xs_cn_so, xm_spr_ac, xm_sav_ac, xm_spr_pr, c_1, xs_cn_scn, xs_nx_scn, xs_up_scn, xs_lt_scn, xs_q_scn, xs_ac_scn, xs_mk_scn, xs_ac_sac, xs_sac_sac, xs_nx_sg, xs_up_sg, xs_lt_sg, xs_cn_sg, xs_q_sg, if_true, if_false, reduceIte, Bool.false_eq_true, Bool.true_eq_false, and_true, true_and, and_false, false_and, or_true, true_or, or_false, false_or, not_true_eq_false, not_false_eq_true] <;> rfl
    exact ur_I (G := (fun _ _ => True)) (τ := (xp_here σ x y).2.2) (r := (xp_here σ x y).2.1) hC hK hX hS trivial (by rw [e9]) (by rw [e9]; rfl) rfl (by rw [e9]) d_U_here_27
  · have c_1 := xs_b1 c_1
    refine lv_iload_n hx hb d_U_here_12 rfl (lv_at hl 2 rfl) ?_
    refine lv_bipush (v := (-3)) hx hb d_U_here_13 (by decide) ?_
    refine lv_iconst (v := 3) hx hb d_U_here_15 (by decide) ?_
    refine uk_sQ (rest := []) (c_U_in l g o σ 0 rp n t b9 y (-3) 3) gd_U_U_in hd_U_in hC hK hX hS (fun _ h => h) (by omega) (by omega) (by omega) (by omega) hl.1 rfl (Nat.le_of_ble_eq_true rfl) d_U_here_16 (fun rp9 t b9 H locs hG9 hX hS _ _ => ?_)
    rw [hG9.1] at hX
    refine lv_if_ne (tgt := 28) hx hb d_U_here_19 (by decide) (fun c_2 => ?_) (fun c_2 => ?_)
    · have c_2 := xs_b1 c_2
      refine lv_aload_n hx hb d_U_here_28 rfl (lv_at hl 0 rfl) ?_
      refine xb_get (v := .ref (o + 4)) hx hb hts xw_in_U hown hK (ci := xi_U) rfl 4 (by decide) (hts _ lk_U_20) rfl hX.1 rfl d_U_here_29 ?_
      refine lv_iload_n hx hb d_U_here_32 rfl (lv_at hl 1 rfl) ?_
      refine ug_i (v := (xs_cn σ (xs_ix x)).1) hx hb hK hX.2.1 4 (by decide) (by decide) rfl rfl (xm_in6t c_1) ((hX.2.2.1.2.2.1 (xs_ix x) (xs_ixl (xm_in6t c_1))).1) d_U_here_33 ?_
      refine lv_iconst (v := 4) hx hb d_U_here_34 (by decide) ?_
      refine lv_icmp_eq (tgt := 44) hx hb d_U_here_35 (by decide) (fun c_3 => ?_) (fun c_3 => ?_)
      · have hvac := hwf.2.1 _ (xs_ixl (xm_in6t c_1)) (Or.inr (Or.inr c_3))
        refine lv_aload_n hx hb d_U_here_44 rfl (lv_at hl 0 rfl) ?_
        refine xb_get (v := .ref (o + 7)) hx hb hts xw_in_U hown hK (ci := xi_U) rfl 7 (by decide) (hts _ lk_U_29) rfl hX.1 rfl d_U_here_45 ?_
        refine lv_iload_n hx hb d_U_here_48 rfl (lv_at hl 1 rfl) ?_
        refine ug_z (v := xs_b (xs_cn σ (xs_ix x)).2.2.2.2.2) hx hb hK hX.2.1 7 (by decide) (by decide) rfl rfl (xm_in6t c_1) ((hX.2.2.1.2.2.1 (xs_ix x) (xs_ixl (xm_in6t c_1))).2.2.2.1) d_U_here_49 ?_
        refine lv_istore_n (lv' := [(3, .int (xs_b (xs_cn σ (xs_ix x)).2.2.2.2.2)), (0, .ref o), (1, .int x), (2, .int y)]) hx hb d_U_here_50 rfl hl (by decide) rfl (fun ls hl => ?_)
        refine lv_aload_n hx hb d_U_here_51 rfl (lv_at hl 1 rfl) ?_
        refine xb_get (v := .ref (o + 7)) hx hb hts xw_in_U hown hK (ci := xi_U) rfl 7 (by decide) (hts _ lk_U_29) rfl hX.1 rfl d_U_here_52 ?_
        refine lv_iload_n hx hb d_U_here_55 rfl (lv_at hl 2 rfl) ?_
        refine lv_iconst (v := 1) hx hb d_U_here_56 (by decide) ?_
        refine up_z (v := true) (σ' := xm_sav σ (xs_ix x) true) hx hb hK hX hS 7 (by decide) (by decide) rfl rfl (xm_in6t c_1) d_U_here_57 (hX.2.2.1.av (xs_ixl (xm_in6t c_1))) rfl rfl rfl (fun b9 H locs hF9 hX hS => ?_)
        refine lv_aload_n hx hb d_U_here_58 rfl (lv_at hl 1 rfl) ?_
        refine xb_get (v := .ref (o + 8)) hx hb hts xw_in_U hown hK (ci := xi_U) rfl 8 (by decide) (hts _ lk_U_32) rfl hX.1 rfl d_U_here_59 ?_
        refine lv_iload_n hx hb d_U_here_62 rfl (lv_at hl 2 rfl) ?_
        refine lv_iload_n hx hb d_U_here_63 rfl (lv_at hl 3 rfl) ?_
        refine up_i (σ' := xm_spr (xm_sav σ (xs_ix x) true) (xs_ix x) y) hx hb hK hX hS 8 (by decide) (by decide) rfl rfl (xm_in6t c_1) d_U_here_64 (hX.2.2.1.pr (xs_ixl (xm_in6t c_1))) rfl rfl rfl (fun b9 H locs hF9 hX hS => ?_)
        refine lv_aload_n hx hb d_U_here_65 rfl (lv_at hl 1 rfl) ?_
        refine lv_iload_n hx hb d_U_here_66 rfl (lv_at hl 2 rfl) ?_
        refine lv_iconst (v := 2) hx hb d_U_here_67 (by decide) ?_
        refine uk_iV (rest := []) (c_U_tell l g o (xm_spr (xm_sav σ (xs_ix x) true) (xs_ix x) y) 0 rp n t b9 x (xs_ix x) (xm_in6t c_1) rfl 2 (by simp only [xs_cn_stw, xs_cn_so, xm_spr_ac, xm_sav_ac]; exact hvac) (Or.inl rfl)) gd_U_U_tell hd_U_tell hC hK hX hS (fun _ h => h) (by omega) (by omega) (by omega) (by omega) hl.1 rfl (Nat.le_of_ble_eq_true rfl) d_U_here_68 (fun rp9 t b9 H locs hG9 hX hS _ _ => ?_)
        refine lv_iload_n hx hb d_U_here_71 rfl (lv_at hl 0 rfl) ?_
        refine lv_if_ne (tgt := 80) hx hb d_U_here_72 (by decide) (fun c_4 => ?_) (fun c_4 => ?_)
        · have c_4 := xs_b1 c_4
          refine lv_aload_n hx hb d_U_here_80 rfl (lv_at hl 1 rfl) ?_
          refine xb_get (v := .ref (o + 14)) hx hb hts xw_in_U hown hK (ci := xi_U) rfl 15 (by decide) (hts _ lk_U_50) rfl hX.1 rfl d_U_here_81 ?_
          refine lv_iload_n hx hb d_U_here_84 rfl (lv_at hl 2 rfl) ?_
          refine ug_i (v := nI (xs_q (xm_stw 8 0 (xm_spr (xm_sav σ (xs_ix x) true) (xs_ix x) y) (xs_ix (xs_cn (xm_spr (xm_sav σ (xs_ix x) true) (xs_ix x) y) (xs_ix x)).2.1) (xs_ix x) 2) (8 + (xs_ix x))).length) hx hb hK hX.2.1 14 (by decide) (by decide) rfl rfl (xm_in6t c_1) ((hX.2.2.1.2.2.2.1 (xs_ix x) (xs_ixl (xm_in6t c_1))).1) d_U_here_85 ?_
          have e9 : xp_here σ x y = (0, nI (xs_q (xm_stw 8 0 (xm_spr (xm_sav σ (xs_ix x) true) (xs_ix x) y) (xs_ix (xs_cn (xm_spr (xm_sav σ (xs_ix x) true) (xs_ix x) y) (xs_ix x)).2.1) (xs_ix x) 2) (8 + (xs_ix x))).length, xm_stw 8 0 (xm_spr (xm_sav σ (xs_ix x) true) (xs_ix x) y) (xs_ix (xs_cn (xm_spr (xm_sav σ (xs_ix x) true) (xs_ix x) y) (xs_ix x)).2.1) (xs_ix x) 2) := by simp only [xp_here, xp_here1, xp_here2, xp_here3, xu_wel, xs_cn_stw, xs_cn_so, xm_spr_ac, xm_sav_ac, xm_spr_pr, c_1, c_3, c_4, (xu_it c_2).1, (xu_it c_2).2, (xu_itl (b' := 4) (by decide) c_2), xs_cn_scn, xs_nx_scn, xs_up_scn, xs_lt_scn, xs_q_scn, xs_ac_scn, xs_mk_scn, xs_ac_sac, xs_sac_sac, xs_nx_sg, xs_up_sg, xs_lt_sg, xs_cn_sg, xs_q_sg, if_true, if_false, reduceIte, Bool.false_eq_true, Bool.true_eq_false, and_true, true_and, and_false, false_and, or_true, true_or, or_false, false_or, not_true_eq_false, not_false_eq_true] <;> rfl
          exact ur_I (G := (fun _ _ => True)) (τ := (xp_here σ x y).2.2) (r := (xp_here σ x y).2.1) hC hK hX hS trivial (by rw [e9]) (by rw [e9]; rfl) rfl (by rw [e9]) d_U_here_86
        · have c_4 := xs_b0 c_4
          refine lv_aload_n hx hb d_U_here_75 rfl (lv_at hl 1 rfl) ?_
          refine lv_iload_n hx hb d_U_here_76 rfl (lv_at hl 2 rfl) ?_
          refine uk_iV (rest := []) (c_U_welcome l g o (xm_stw 8 0 (xm_spr (xm_sav σ (xs_ix x) true) (xs_ix x) y) (xs_ix (xs_cn (xm_spr (xm_sav σ (xs_ix x) true) (xs_ix x) y) (xs_ix x)).2.1) (xs_ix x) 2) 0 rp9 n t b9 x (xs_ix x) (xm_in6t c_1) rfl (by simp only [xs_cn_stw, xs_cn_so, xm_spr_ac, xm_sav_ac]; exact hvac)) gd_U_U_welcome hd_U_welcome hC hK hX hS (fun _ h => h) (by omega) (by omega) (by omega) (by omega) hl.1 rfl (Nat.le_of_ble_eq_true rfl) d_U_here_77 (fun rp9 t b9 H locs hG9 hX hS _ _ => ?_)
          refine lv_aload_n hx hb d_U_here_80 rfl (lv_at hl 1 rfl) ?_
          refine xb_get (v := .ref (o + 14)) hx hb hts xw_in_U hown hK (ci := xi_U) rfl 15 (by decide) (hts _ lk_U_50) rfl hX.1 rfl d_U_here_81 ?_
          refine lv_iload_n hx hb d_U_here_84 rfl (lv_at hl 2 rfl) ?_
          refine ug_i (v := nI (xs_q (xu_wel (xm_stw 8 0 (xm_spr (xm_sav σ (xs_ix x) true) (xs_ix x) y) (xs_ix (xs_cn (xm_spr (xm_sav σ (xs_ix x) true) (xs_ix x) y) (xs_ix x)).2.1) (xs_ix x) 2) (xs_ix x)) (8 + (xs_ix x))).length) hx hb hK hX.2.1 14 (by decide) (by decide) rfl rfl (xm_in6t c_1) ((hX.2.2.1.2.2.2.1 (xs_ix x) (xs_ixl (xm_in6t c_1))).1) d_U_here_85 ?_
          have e9 : xp_here σ x y = (0, nI (xs_q (xu_wel (xm_stw 8 0 (xm_spr (xm_sav σ (xs_ix x) true) (xs_ix x) y) (xs_ix (xs_cn (xm_spr (xm_sav σ (xs_ix x) true) (xs_ix x) y) (xs_ix x)).2.1) (xs_ix x) 2) (xs_ix x)) (8 + (xs_ix x))).length, xu_wel (xm_stw 8 0 (xm_spr (xm_sav σ (xs_ix x) true) (xs_ix x) y) (xs_ix (xs_cn (xm_spr (xm_sav σ (xs_ix x) true) (xs_ix x) y) (xs_ix x)).2.1) (xs_ix x) 2) (xs_ix x)) := by simp only [xp_here, xp_here1, xp_here2, xp_here3, xu_wel, xs_cn_stw, xs_cn_so, xm_spr_ac, xm_sav_ac, xm_spr_pr, c_1, c_3, c_4, (xu_it c_2).1, (xu_it c_2).2, (xu_itl (b' := 4) (by decide) c_2), xs_cn_scn, xs_nx_scn, xs_up_scn, xs_lt_scn, xs_q_scn, xs_ac_scn, xs_mk_scn, xs_ac_sac, xs_sac_sac, xs_nx_sg, xs_up_sg, xs_lt_sg, xs_cn_sg, xs_q_sg, if_true, if_false, reduceIte, Bool.false_eq_true, Bool.true_eq_false, and_true, true_and, and_false, false_and, or_true, true_or, or_false, false_or, not_true_eq_false, not_false_eq_true] <;> rfl
          exact ur_I (G := (fun _ _ => True)) (τ := (xp_here σ x y).2.2) (r := (xp_here σ x y).2.1) hC hK hX hS trivial (by rw [e9]) (by rw [e9]; rfl) rfl (by rw [e9]) d_U_here_86
      · refine lv_aload_n hx hb d_U_here_38 rfl (lv_at hl 0 rfl) ?_
        refine lv_iconst (v := 2) hx hb d_U_here_39 (by decide) ?_
        refine uk_iQ (rest := []) (c_U_raise l g o σ 0 rp n t b9 2) gd_U_U_raise hd_U_raise hC hK hX hS (fun _ h => h) (by omega) (by omega) (by omega) (by omega) hl.1 rfl (Nat.le_of_ble_eq_true rfl) d_U_here_40 (fun rp9 t b9 H locs hG9 hX hS _ _ => ?_)
        rw [hG9.1] at hX
        have e9 : xp_here σ x y = (2, 0, σ) := by simp only [xp_here, xp_here1, xp_here2, xp_here3, xu_wel, xs_cn_stw, xs_cn_so, xm_spr_ac, xm_sav_ac, xm_spr_pr, c_1, c_3, (xu_it c_2).1, (xu_it c_2).2, (xu_itl (b' := 4) (by decide) c_2), xs_cn_scn, xs_nx_scn, xs_up_scn, xs_lt_scn, xs_q_scn, xs_ac_scn, xs_mk_scn, xs_ac_sac, xs_sac_sac, xs_nx_sg, xs_up_sg, xs_lt_sg, xs_cn_sg, xs_q_sg, if_true, if_false, reduceIte, Bool.false_eq_true, Bool.true_eq_false, and_true, true_and, and_false, false_and, or_true, true_or, or_false, false_or, not_true_eq_false, not_false_eq_true] <;> rfl
        exact ur_I (G := (fun _ _ => True)) (τ := (xp_here σ x y).2.2) (r := (xp_here σ x y).2.1) hC hK hX hS trivial (by rw [e9]) (by rw [e9]; rfl) rfl (by rw [e9]) d_U_here_43
    · have c_2 := xs_b0 c_2
      refine lv_aload_n hx hb d_U_here_22 rfl (lv_at hl 0 rfl) ?_
      refine lv_iconst (v := 1) hx hb d_U_here_23 (by decide) ?_
      refine uk_iQ (rest := []) (c_U_raise l g o σ 0 rp n t b9 1) gd_U_U_raise hd_U_raise hC hK hX hS (fun _ h => h) (by omega) (by omega) (by omega) (by omega) hl.1 rfl (Nat.le_of_ble_eq_true rfl) d_U_here_24 (fun rp9 t b9 H locs hG9 hX hS _ _ => ?_)
      rw [hG9.1] at hX
      have e9 : xp_here σ x y = (1, 0, σ) := by simp only [xp_here, xp_here1, xp_here2, xp_here3, xu_wel, xs_cn_stw, xs_cn_so, xm_spr_ac, xm_sav_ac, xm_spr_pr, c_1, eq_false (xu_if c_2), eq_false (xu_ifl (b' := 4) (by decide) c_2), xs_cn_scn, xs_nx_scn, xs_up_scn, xs_lt_scn, xs_q_scn, xs_ac_scn, xs_mk_scn, xs_ac_sac, xs_sac_sac, xs_nx_sg, xs_up_sg, xs_lt_sg, xs_cn_sg, xs_q_sg, if_true, if_false, reduceIte, Bool.false_eq_true, Bool.true_eq_false, and_true, true_and, and_false, false_and, or_true, true_or, or_false, false_or, not_true_eq_false, not_false_eq_true] <;> rfl
      exact ur_I (G := (fun _ _ => True)) (τ := (xp_here σ x y).2.2) (r := (xp_here σ x y).2.1) hC hK hX hS trivial (by rw [e9]) (by rw [e9]; rfl) rfl (by rw [e9]) d_U_here_27
set_option maxHeartbeats 4000000 in
set_option maxRecDepth 100000 in
theorem c_U_gone (l : Launch) (g : xw_G) (o : Nat) (σ : xs_S) (th rp : Int32) (n : Nat) (t : xu_X) (a : xu_M) (x : Int32) (hwf : xm_wf σ) : uc_Q l y_U_gone (Cond.code y_U_gone b_U_gone 2 (some .int)) g o σ th rp n t a ((xp_gone σ x).2.1) ((xp_gone σ x).2.2) (nI (xp_gone σ x).1) n (fun _ _ => True) [.ref o, .int x] 6 157 := by
  refine uh_Q (own := R_U) (by decide) rfl (Nat.le_of_ble_eq_true rfl) ?_
  intro p e R s m below meth c ls hRf hRl hC hK hX hl
  obtain ⟨hx, hb, hml, hr, hown, hts, hlk⟩ := id hC
  have hS : va_S (xu_W o) s.heap s.heap [] := va_S.rf
  have hl : lv_has ls 2 [(0, .ref o), (1, .int x)] := hl
  refine lv_aload_n hx hb d_U_gone_0 rfl (lv_at hl 0 rfl) ?_
  refine lv_iconst (v := 0) hx hb d_U_gone_1 (by decide) ?_
  refine uo_put (sc' := xu_num σ 0 rp n t) hx hb hts hown hK hX.1 hX.2.1 hS 0 (by decide) lk_U_87 rfl rfl rfl rfl rfl d_U_gone_2 (fun H locs hO hA hS => ?_)
  have hX : xu_R g o σ 0 rp n t a H := ⟨hO, hA, hX.2.2.1, hX.2.2.2.1, hX.2.2.2.2⟩
  refine lv_iload_n hx hb d_U_gone_5 rfl (lv_at hl 1 rfl) ?_
  refine uk_sQ (rest := []) (c_U_isConnection l g o σ 0 rp n t a x) gd_U_U_isConnection hd_U_isConnection hC hK hX hS (fun _ h => h) (by omega) (by omega) (by omega) (by omega) hl.1 rfl (Nat.le_of_ble_eq_true rfl) d_U_gone_6 (fun rp9 t b9 H locs hG9 hX hS _ _ => ?_)
  rw [hG9.1] at hX
  refine lv_if_ne (tgt := 18) hx hb d_U_gone_9 (by decide) (fun c_1 => ?_) (fun c_1 => ?_)
  · have c_1 := xs_b1 c_1
    refine lv_aload_n hx hb d_U_gone_18 rfl (lv_at hl 0 rfl) ?_
    refine xb_get (v := .ref (o + 7)) hx hb hts xw_in_U hown hK (ci := xi_U) rfl 7 (by decide) (hts _ lk_U_29) rfl hX.1 rfl d_U_gone_19 ?_
    refine lv_iload_n hx hb d_U_gone_22 rfl (lv_at hl 1 rfl) ?_
    refine ug_z (v := xs_b (xs_cn σ (xs_ix x)).2.2.2.2.2) hx hb hK hX.2.1 7 (by decide) (by decide) rfl rfl (xm_in6t c_1) ((hX.2.2.1.2.2.1 (xs_ix x) (xs_ixl (xm_in6t c_1))).2.2.2.1) d_U_gone_23 ?_
    refine lv_if_ne (tgt := 33) hx hb d_U_gone_24 (by decide) (fun c_2 => ?_) (fun c_2 => ?_)
    · have c_2 := xs_b1 c_2
      have hvac := hwf.2.1 _ (xs_ixl (xm_in6t c_1)) (Or.inr (Or.inr (hwf.1 _ (xs_ixl (xm_in6t c_1)) c_2)))
      refine lv_aload_n hx hb d_U_gone_33 rfl (lv_at hl 0 rfl) ?_
      refine xb_get (v := .ref (o + 7)) hx hb hts xw_in_U hown hK (ci := xi_U) rfl 7 (by decide) (hts _ lk_U_29) rfl hX.1 rfl d_U_gone_34 ?_
      refine lv_iload_n hx hb d_U_gone_37 rfl (lv_at hl 1 rfl) ?_
      refine lv_iconst (v := 0) hx hb d_U_gone_38 (by decide) ?_
      refine up_z (v := false) (σ' := xm_sav σ (xs_ix x) false) hx hb hK hX hS 7 (by decide) (by decide) rfl rfl (xm_in6t c_1) d_U_gone_39 (hX.2.2.1.av (xs_ixl (xm_in6t c_1))) rfl rfl rfl (fun b9 H locs hF9 hX hS => ?_)
      refine lv_aload_n hx hb d_U_gone_40 rfl (lv_at hl 0 rfl) ?_
      refine lv_iload_n hx hb d_U_gone_41 rfl (lv_at hl 1 rfl) ?_
      refine lv_iconst (v := 3) hx hb d_U_gone_42 (by decide) ?_
      refine uk_iV (rest := []) (c_U_tell l g o (xm_sav σ (xs_ix x) false) 0 rp n t b9 x (xs_ix x) (xm_in6t c_1) rfl 3 (by simp only [xs_cn_stw, xs_cn_so, xm_spr_ac, xm_sav_ac]; exact hvac) (Or.inr rfl)) gd_U_U_tell hd_U_tell hC hK hX hS (fun _ h => h) (by omega) (by omega) (by omega) (by omega) hl.1 rfl (Nat.le_of_ble_eq_true rfl) d_U_gone_43 (fun rp9 t b9 H locs hG9 hX hS _ _ => ?_)
      refine lv_iconst (v := 1) hx hb d_U_gone_46 (by decide) ?_
      have e9 : xp_gone σ x = (0, 1, xm_stw 8 0 (xm_sav σ (xs_ix x) false) (xs_ix (xs_cn (xm_sav σ (xs_ix x) false) (xs_ix x)).2.1) (xs_ix x) 3) := by simp only [xp_gone, xm_sav_ac, c_1, c_2, xs_cn_scn, xs_nx_scn, xs_up_scn, xs_lt_scn, xs_q_scn, xs_ac_scn, xs_mk_scn, xs_ac_sac, xs_sac_sac, xs_nx_sg, xs_up_sg, xs_lt_sg, xs_cn_sg, xs_q_sg, if_true, if_false, reduceIte, Bool.false_eq_true, Bool.true_eq_false, and_true, true_and, and_false, false_and, or_true, true_or, or_false, false_or, not_true_eq_false, not_false_eq_true] <;> rfl
      exact ur_I (G := (fun _ _ => True)) (τ := (xp_gone σ x).2.2) (r := (xp_gone σ x).2.1) hC hK hX hS trivial (by rw [e9]) (by rw [e9]; rfl) rfl (by rw [e9]) d_U_gone_47
    · have c_2 := xs_b0 c_2
      refine lv_aload_n hx hb d_U_gone_27 rfl (lv_at hl 0 rfl) ?_
      refine lv_iconst (v := 2) hx hb d_U_gone_28 (by decide) ?_
      refine uk_iQ (rest := []) (c_U_raise l g o σ 0 rp n t b9 2) gd_U_U_raise hd_U_raise hC hK hX hS (fun _ h => h) (by omega) (by omega) (by omega) (by omega) hl.1 rfl (Nat.le_of_ble_eq_true rfl) d_U_gone_29 (fun rp9 t b9 H locs hG9 hX hS _ _ => ?_)
      rw [hG9.1] at hX
      have e9 : xp_gone σ x = (2, 0, σ) := by simp only [xp_gone, xm_sav_ac, c_1, c_2, xs_cn_scn, xs_nx_scn, xs_up_scn, xs_lt_scn, xs_q_scn, xs_ac_scn, xs_mk_scn, xs_ac_sac, xs_sac_sac, xs_nx_sg, xs_up_sg, xs_lt_sg, xs_cn_sg, xs_q_sg, if_true, if_false, reduceIte, Bool.false_eq_true, Bool.true_eq_false, and_true, true_and, and_false, false_and, or_true, true_or, or_false, false_or, not_true_eq_false, not_false_eq_true] <;> rfl
      exact ur_I (G := (fun _ _ => True)) (τ := (xp_gone σ x).2.2) (r := (xp_gone σ x).2.1) hC hK hX hS trivial (by rw [e9]) (by rw [e9]; rfl) rfl (by rw [e9]) d_U_gone_32
  · have c_1 := xs_b0 c_1
    refine lv_aload_n hx hb d_U_gone_12 rfl (lv_at hl 0 rfl) ?_
    refine lv_iconst (v := 1) hx hb d_U_gone_13 (by decide) ?_
    refine uk_iQ (rest := []) (c_U_raise l g o σ 0 rp n t b9 1) gd_U_U_raise hd_U_raise hC hK hX hS (fun _ h => h) (by omega) (by omega) (by omega) (by omega) hl.1 rfl (Nat.le_of_ble_eq_true rfl) d_U_gone_14 (fun rp9 t b9 H locs hG9 hX hS _ _ => ?_)
    rw [hG9.1] at hX
    have e9 : xp_gone σ x = (1, 0, σ) := by simp only [xp_gone, xm_sav_ac, c_1, xs_cn_scn, xs_nx_scn, xs_up_scn, xs_lt_scn, xs_q_scn, xs_ac_scn, xs_mk_scn, xs_ac_sac, xs_sac_sac, xs_nx_sg, xs_up_sg, xs_lt_sg, xs_cn_sg, xs_q_sg, if_true, if_false, reduceIte, Bool.false_eq_true, Bool.true_eq_false, and_true, true_and, and_false, false_and, or_true, true_or, or_false, false_or, not_true_eq_false, not_false_eq_true] <;> rfl
    exact ur_I (G := (fun _ _ => True)) (τ := (xp_gone σ x).2.2) (r := (xp_gone σ x).2.1) hC hK hX hS trivial (by rw [e9]) (by rw [e9]; rfl) rfl (by rw [e9]) d_U_gone_17
set_option maxHeartbeats 4000000 in
set_option maxRecDepth 100000 in
theorem c_U_close (l : Launch) (g : xw_G) (o : Nat) (σ : xs_S) (th rp : Int32) (n : Nat) (t : xu_X) (a : xu_M) (x : Int32) (hwf : xm_wf σ) : uc_Q l y_U_close (Cond.code y_U_close b_U_close 3 (some .int)) g o σ th rp n t a ((xp_close σ x).2.1) ((xp_close σ x).2.2) (nI (xp_close σ x).1) n (fun _ _ => True) [.ref o, .int x] 7 178 := by
  refine uh_Q (own := R_U) (by decide) rfl (Nat.le_of_ble_eq_true rfl) ?_
  intro p e R s m below meth c ls hRf hRl hC hK hX hl
  obtain ⟨hx, hb, hml, hr, hown, hts, hlk⟩ := id hC
  have hS : va_S (xu_W o) s.heap s.heap [] := va_S.rf
  have hl : lv_has ls 3 [(0, .ref o), (1, .int x)] := hl
  refine lv_aload_n hx hb d_U_close_0 rfl (lv_at hl 0 rfl) ?_
  refine lv_iconst (v := 0) hx hb d_U_close_1 (by decide) ?_
  refine uo_put (sc' := xu_num σ 0 rp n t) hx hb hts hown hK hX.1 hX.2.1 hS 0 (by decide) lk_U_87 rfl rfl rfl rfl rfl d_U_close_2 (fun H locs hO hA hS => ?_)
  have hX : xu_R g o σ 0 rp n t a H := ⟨hO, hA, hX.2.2.1, hX.2.2.2.1, hX.2.2.2.2⟩
  refine lv_iload_n hx hb d_U_close_5 rfl (lv_at hl 1 rfl) ?_
  refine uk_sQ (rest := []) (c_U_isConnection l g o σ 0 rp n t a x) gd_U_U_isConnection hd_U_isConnection hC hK hX hS (fun _ h => h) (by omega) (by omega) (by omega) (by omega) hl.1 rfl (Nat.le_of_ble_eq_true rfl) d_U_close_6 (fun rp9 t b9 H locs hG9 hX hS _ _ => ?_)
  rw [hG9.1] at hX
  refine lv_if_ne (tgt := 18) hx hb d_U_close_9 (by decide) (fun c_1 => ?_) (fun c_1 => ?_)
  · have c_1 := xs_b1 c_1
    refine lv_aload_n hx hb d_U_close_18 rfl (lv_at hl 0 rfl) ?_
    refine xb_get (v := .ref (o + 4)) hx hb hts xw_in_U hown hK (ci := xi_U) rfl 4 (by decide) (hts _ lk_U_20) rfl hX.1 rfl d_U_close_19 ?_
    refine lv_iload_n hx hb d_U_close_22 rfl (lv_at hl 1 rfl) ?_
    refine ug_i (v := (xs_cn σ (xs_ix x)).1) hx hb hK hX.2.1 4 (by decide) (by decide) rfl rfl (xm_in6t c_1) ((hX.2.2.1.2.2.1 (xs_ix x) (xs_ixl (xm_in6t c_1))).1) d_U_close_23 ?_
    refine lv_if_ne (tgt := 33) hx hb d_U_close_24 (by decide) (fun c_2 => ?_) (fun c_2 => ?_)
    · refine lv_aload_n hx hb d_U_close_33 rfl (lv_at hl 0 rfl) ?_
      refine xb_get (v := .ref (o + 4)) hx hb hts xw_in_U hown hK (ci := xi_U) rfl 4 (by decide) (hts _ lk_U_20) rfl hX.1 rfl d_U_close_34 ?_
      refine lv_iload_n hx hb d_U_close_37 rfl (lv_at hl 1 rfl) ?_
      refine ug_i (v := (xs_cn σ (xs_ix x)).1) hx hb hK hX.2.1 4 (by decide) (by decide) rfl rfl (xm_in6t c_1) ((hX.2.2.1.2.2.1 (xs_ix x) (xs_ixl (xm_in6t c_1))).1) d_U_close_38 ?_
      refine lv_istore_n (lv' := [(2, .int ((xs_cn σ (xs_ix x)).1)), (0, .ref o), (1, .int x)]) hx hb d_U_close_39 rfl hl (by decide) rfl (fun ls hl => ?_)
      refine lv_aload_n hx hb d_U_close_40 rfl (lv_at hl 1 rfl) ?_
      refine lv_iload_n hx hb d_U_close_41 rfl (lv_at hl 2 rfl) ?_
      refine uk_iV (rest := []) (c_U_shut l g o σ 0 rp n t b9 x (xs_ix x) (xm_in6t c_1) rfl (fun h => hwf.2.1 _ (xs_ixl (xm_in6t c_1)) (Or.inr (Or.inr (hwf.1 _ (xs_ixl (xm_in6t c_1)) h))))) gd_U_U_shut hd_U_shut hC hK hX hS (fun _ h => h) (by omega) (by omega) (by omega) (by omega) hl.1 rfl (Nat.le_of_ble_eq_true rfl) d_U_close_42 (fun rp9 t b9 H locs hG9 hX hS _ _ => ?_)
      refine lv_iload_n hx hb d_U_close_45 rfl (lv_at hl 0 rfl) ?_
      have e9 : xp_close σ x = (0, (xs_cn σ (xs_ix x)).1, xm_shut σ (xs_ix x)) := by simp only [xp_close, c_1, c_2, xs_cn_scn, xs_nx_scn, xs_up_scn, xs_lt_scn, xs_q_scn, xs_ac_scn, xs_mk_scn, xs_ac_sac, xs_sac_sac, xs_nx_sg, xs_up_sg, xs_lt_sg, xs_cn_sg, xs_q_sg, if_true, if_false, reduceIte, Bool.false_eq_true, Bool.true_eq_false, and_true, true_and, and_false, false_and, or_true, true_or, or_false, false_or, not_true_eq_false, not_false_eq_true] <;> rfl
      exact ur_I (G := (fun _ _ => True)) (τ := (xp_close σ x).2.2) (r := (xp_close σ x).2.1) hC hK hX hS trivial (by rw [e9]) (by rw [e9]; rfl) rfl (by rw [e9]) d_U_close_46
    · refine lv_aload_n hx hb d_U_close_27 rfl (lv_at hl 0 rfl) ?_
      refine lv_iconst (v := 2) hx hb d_U_close_28 (by decide) ?_
      refine uk_iQ (rest := []) (c_U_raise l g o σ 0 rp n t b9 2) gd_U_U_raise hd_U_raise hC hK hX hS (fun _ h => h) (by omega) (by omega) (by omega) (by omega) hl.1 rfl (Nat.le_of_ble_eq_true rfl) d_U_close_29 (fun rp9 t b9 H locs hG9 hX hS _ _ => ?_)
      rw [hG9.1] at hX
      have e9 : xp_close σ x = (2, 0, σ) := by simp only [xp_close, c_1, c_2, xs_cn_scn, xs_nx_scn, xs_up_scn, xs_lt_scn, xs_q_scn, xs_ac_scn, xs_mk_scn, xs_ac_sac, xs_sac_sac, xs_nx_sg, xs_up_sg, xs_lt_sg, xs_cn_sg, xs_q_sg, if_true, if_false, reduceIte, Bool.false_eq_true, Bool.true_eq_false, and_true, true_and, and_false, false_and, or_true, true_or, or_false, false_or, not_true_eq_false, not_false_eq_true] <;> rfl
      exact ur_I (G := (fun _ _ => True)) (τ := (xp_close σ x).2.2) (r := (xp_close σ x).2.1) hC hK hX hS trivial (by rw [e9]) (by rw [e9]; rfl) rfl (by rw [e9]) d_U_close_32
  · have c_1 := xs_b0 c_1
    refine lv_aload_n hx hb d_U_close_12 rfl (lv_at hl 0 rfl) ?_
    refine lv_iconst (v := 1) hx hb d_U_close_13 (by decide) ?_
    refine uk_iQ (rest := []) (c_U_raise l g o σ 0 rp n t b9 1) gd_U_U_raise hd_U_raise hC hK hX hS (fun _ h => h) (by omega) (by omega) (by omega) (by omega) hl.1 rfl (Nat.le_of_ble_eq_true rfl) d_U_close_14 (fun rp9 t b9 H locs hG9 hX hS _ _ => ?_)
    rw [hG9.1] at hX
    have e9 : xp_close σ x = (1, 0, σ) := by simp only [xp_close, c_1, xs_cn_scn, xs_nx_scn, xs_up_scn, xs_lt_scn, xs_q_scn, xs_ac_scn, xs_mk_scn, xs_ac_sac, xs_sac_sac, xs_nx_sg, xs_up_sg, xs_lt_sg, xs_cn_sg, xs_q_sg, if_true, if_false, reduceIte, Bool.false_eq_true, Bool.true_eq_false, and_true, true_and, and_false, false_and, or_true, true_or, or_false, false_or, not_true_eq_false, not_false_eq_true] <;> rfl
    exact ur_I (G := (fun _ _ => True)) (τ := (xp_close σ x).2.2) (r := (xp_close σ x).2.1) hC hK hX hS trivial (by rw [e9]) (by rw [e9]; rfl) rfl (by rw [e9]) d_U_close_17
set_option maxHeartbeats 4000000 in
set_option maxRecDepth 100000 in
theorem c_U_message (l : Launch) (g : xw_G) (o : Nat) (σ : xs_S) (th rp : Int32) (n : Nat) (t : xu_X) (a : xu_M) (x y z v : Int32) (hwf : xm_wf σ) (hcw : xu_cw (xs_cn σ)) : uc_Q l y_U_message (Cond.code y_U_message b_U_message 5 (some .int)) g o σ th rp n t a ((xp_message σ x y z v).2.1) ((xp_message σ x y z v).2.2) (nI (xp_message σ x y z v).1) n (fun _ _ => True) [.ref o, .int x, .int y, .int z, .int v] 5 133 := by
  refine uh_Q (own := R_U) (by decide) rfl (Nat.le_of_ble_eq_true rfl) ?_
  intro p e R s m below meth c ls hRf hRl hC hK hX hl
  obtain ⟨hx, hb, hml, hr, hown, hts, hlk⟩ := id hC
  have hS : va_S (xu_W o) s.heap s.heap [] := va_S.rf
  have hl : lv_has ls 5 [(0, .ref o), (1, .int x), (2, .int y), (3, .int z), (4, .int v)] := hl
  refine lv_aload_n hx hb d_U_message_0 rfl (lv_at hl 0 rfl) ?_
  refine lv_iconst (v := 0) hx hb d_U_message_1 (by decide) ?_
  refine uo_put (sc' := xu_num σ 0 rp n t) hx hb hts hown hK hX.1 hX.2.1 hS 0 (by decide) lk_U_87 rfl rfl rfl rfl rfl d_U_message_2 (fun H locs hO hA hS => ?_)
  have hX : xu_R g o σ 0 rp n t a H := ⟨hO, hA, hX.2.2.1, hX.2.2.2.1, hX.2.2.2.2⟩
  refine lv_iload_n hx hb d_U_message_5 rfl (lv_at hl 1 rfl) ?_
  refine uk_sQ (rest := []) (c_U_isConnection l g o σ 0 rp n t a x) gd_U_U_isConnection hd_U_isConnection hC hK hX hS (fun _ h => h) (by omega) (by omega) (by omega) (by omega) hl.1 rfl (Nat.le_of_ble_eq_true rfl) d_U_message_6 (fun rp9 t b9 H locs hG9 hX hS _ _ => ?_)
  rw [hG9.1] at hX
  refine lv_if_eq (tgt := 28) hx hb d_U_message_9 (by decide) (fun c_1 => ?_) (fun c_1 => ?_)
  · have c_1 := xs_b0 c_1
    refine lv_aload_n hx hb d_U_message_28 rfl (lv_at hl 0 rfl) ?_
    refine lv_iconst (v := 1) hx hb d_U_message_29 (by decide) ?_
    refine uk_iQ (rest := []) (c_U_raise l g o σ 0 rp n t b9 1) gd_U_U_raise hd_U_raise hC hK hX hS (fun _ h => h) (by omega) (by omega) (by omega) (by omega) hl.1 rfl (Nat.le_of_ble_eq_true rfl) d_U_message_30 (fun rp9 t b9 H locs hG9 hX hS _ _ => ?_)
    rw [hG9.1] at hX
    have e9 : xp_message σ x y z v = (1, 0, σ) := by simp only [xp_message, c_1, xs_cn_scn, xs_nx_scn, xs_up_scn, xs_lt_scn, xs_q_scn, xs_ac_scn, xs_mk_scn, xs_ac_sac, xs_sac_sac, xs_nx_sg, xs_up_sg, xs_lt_sg, xs_cn_sg, xs_q_sg, if_true, if_false, reduceIte, Bool.false_eq_true, Bool.true_eq_false, and_true, true_and, and_false, false_and, or_true, true_or, or_false, false_or, not_true_eq_false, not_false_eq_true] <;> rfl
    exact ur_I (G := (fun _ _ => True)) (τ := (xp_message σ x y z v).2.2) (r := (xp_message σ x y z v).2.1) hC hK hX hS trivial (by rw [e9]) (by rw [e9]; rfl) rfl (by rw [e9]) d_U_message_33
  · have c_1 := xs_b1 c_1
    refine lv_iload_n hx hb d_U_message_12 rfl (lv_at hl 2 rfl) ?_
    refine uk_sQ (rest := []) (c_U_isAccount l g o σ 0 rp n t b9 y) gd_U_U_isAccount hd_U_isAccount hC hK hX hS (fun _ h => h) (by omega) (by omega) (by omega) (by omega) hl.1 rfl (Nat.le_of_ble_eq_true rfl) d_U_message_13 (fun rp9 t b9 H locs hG9 hX hS _ _ => ?_)
    rw [hG9.1] at hX
    refine lv_if_eq (tgt := 28) hx hb d_U_message_16 (by decide) (fun c_2 => ?_) (fun c_2 => ?_)
    · have c_2 := xs_b0 c_2
      refine lv_aload_n hx hb d_U_message_28 rfl (lv_at hl 0 rfl) ?_
      refine lv_iconst (v := 1) hx hb d_U_message_29 (by decide) ?_
      refine uk_iQ (rest := []) (c_U_raise l g o σ 0 rp n t b9 1) gd_U_U_raise hd_U_raise hC hK hX hS (fun _ h => h) (by omega) (by omega) (by omega) (by omega) hl.1 rfl (Nat.le_of_ble_eq_true rfl) d_U_message_30 (fun rp9 t b9 H locs hG9 hX hS _ _ => ?_)
      rw [hG9.1] at hX
      have e9 : xp_message σ x y z v = (1, 0, σ) := by simp only [xp_message, c_1, c_2, xs_cn_scn, xs_nx_scn, xs_up_scn, xs_lt_scn, xs_q_scn, xs_ac_scn, xs_mk_scn, xs_ac_sac, xs_sac_sac, xs_nx_sg, xs_up_sg, xs_lt_sg, xs_cn_sg, xs_q_sg, if_true, if_false, reduceIte, Bool.false_eq_true, Bool.true_eq_false, and_true, true_and, and_false, false_and, or_true, true_or, or_false, false_or, not_true_eq_false, not_false_eq_true] <;> rfl
      exact ur_I (G := (fun _ _ => True)) (τ := (xp_message σ x y z v).2.2) (r := (xp_message σ x y z v).2.1) hC hK hX hS trivial (by rw [e9]) (by rw [e9]; rfl) rfl (by rw [e9]) d_U_message_33
    · have c_2 := xs_b1 c_2
      refine lv_iload_n hx hb d_U_message_19 rfl (lv_at hl 3 rfl) ?_
      refine lv_iconst (v := (-1)) hx hb d_U_message_20 (by decide) ?_
      refine lv_iconst (v := 2) hx hb d_U_message_21 (by decide) ?_
      refine uk_sQ (rest := []) (c_U_in l g o σ 0 rp n t b9 z (-1) 2) gd_U_U_in hd_U_in hC hK hX hS (fun _ h => h) (by omega) (by omega) (by omega) (by omega) hl.1 rfl (Nat.le_of_ble_eq_true rfl) d_U_message_22 (fun rp9 t b9 H locs hG9 hX hS _ _ => ?_)
      rw [hG9.1] at hX
      refine lv_if_ne (tgt := 34) hx hb d_U_message_25 (by decide) (fun c_3 => ?_) (fun c_3 => ?_)
      · have c_3 := xs_b1 c_3
        refine lv_aload_n hx hb d_U_message_34 rfl (lv_at hl 0 rfl) ?_
        refine xb_get (v := .ref (o + 4)) hx hb hts xw_in_U hown hK (ci := xi_U) rfl 4 (by decide) (hts _ lk_U_20) rfl hX.1 rfl d_U_message_35 ?_
        refine lv_iload_n hx hb d_U_message_38 rfl (lv_at hl 1 rfl) ?_
        refine ug_i (v := (xs_cn σ (xs_ix x)).1) hx hb hK hX.2.1 4 (by decide) (by decide) rfl rfl (xm_in6t c_1) ((hX.2.2.1.2.2.1 (xs_ix x) (xs_ixl (xm_in6t c_1))).1) d_U_message_39 ?_
        refine lv_iconst (v := 4) hx hb d_U_message_40 (by decide) ?_
        refine lv_icmp_eq (tgt := 50) hx hb d_U_message_41 (by decide) (fun c_4 => ?_) (fun c_4 => ?_)
        · have hvac := hwf.2.1 _ (xs_ixl (xm_in6t c_1)) (Or.inr (Or.inr c_4))
          refine lv_aload_n hx hb d_U_message_50 rfl (lv_at hl 0 rfl) ?_
          refine lv_iconst (v := 1) hx hb d_U_message_51 (by decide) ?_
          refine lv_aload_n hx hb d_U_message_52 rfl (lv_at hl 0 rfl) ?_
          refine xb_get (v := .ref (o + 5)) hx hb hts xw_in_U hown hK (ci := xi_U) rfl 5 (by decide) (hts _ lk_U_23) rfl hX.1 rfl d_U_message_53 ?_
          refine lv_iload_n hx hb d_U_message_56 rfl (lv_at hl 1 rfl) ?_
          refine ug_i (v := (xs_cn σ (xs_ix x)).2.1) hx hb hK hX.2.1 5 (by decide) (by decide) rfl rfl (xm_in6t c_1) ((hX.2.2.1.2.2.1 (xs_ix x) (xs_ixl (xm_in6t c_1))).2.1) d_U_message_57 ?_
          refine lv_iload_n hx hb d_U_message_58 rfl (lv_at hl 2 rfl) ?_
          refine lv_aload_n hx hb d_U_message_59 rfl (lv_at hl 0 rfl) ?_
          refine xb_get (v := .ref (o + 6)) hx hb hts xw_in_U hown hK (ci := xi_U) rfl 6 (by decide) (hts _ lk_U_26) rfl hX.1 rfl d_U_message_60 ?_
          refine lv_iload_n hx hb d_U_message_63 rfl (lv_at hl 1 rfl) ?_
          refine ug_i (v := (xs_cn σ (xs_ix x)).2.2.1) hx hb hK hX.2.1 6 (by decide) (by decide) rfl rfl (xm_in6t c_1) ((hX.2.2.1.2.2.1 (xs_ix x) (xs_ixl (xm_in6t c_1))).2.2.1) d_U_message_64 ?_
          refine lv_iload hx hb d_U_message_65 (lv_at hl 4 rfl) ?_
          refine lv_iload_n hx hb d_U_message_67 rfl (lv_at hl 3 rfl) ?_
          refine lv_if_ge (tgt := 76) hx hb d_U_message_68 (by decide) (fun c_5 => ?_) (fun c_5 => ?_)
          · refine lv_iload_n hx hb d_U_message_76 rfl (lv_at hl 3 rfl) ?_
            refine uk_iV (rest := []) (c_U_send l g o σ 0 rp n t b9 1 ((xs_cn σ (xs_ix x)).2.1) y ((xs_cn σ (xs_ix x)).2.2.1) v z z (xm_in8t c_2) hvac (Or.inl rfl) (fun _ => hcw) (by unfold xu_tg; rw [if_neg (fun q => Int32.not_lt.mpr c_5 q.2)])) gd_U_U_send hd_U_send hC hK hX hS (fun _ h => h) (by omega) (by omega) (by omega) (by omega) hl.1 rfl (Nat.le_of_ble_eq_true rfl) d_U_message_77 (fun rp9 t b9 H locs hG9 hX hS _ _ => ?_)
            refine lv_iconst (v := 1) hx hb d_U_message_80 (by decide) ?_
            have e9 : xp_message σ x y z v = (0, 1, xm_send σ (1, ((xs_cn σ (xs_ix x)).2.1), ((xs_cn σ (xs_ix x)).2.2.1), v, y, z)) := by simp only [xp_message, c_1, c_2, c_4, c_5, (xu_it c_3).1, (xu_it c_3).2, (xu_itl (b' := 3) (by decide) c_3), xs_cn_scn, xs_nx_scn, xs_up_scn, xs_lt_scn, xs_q_scn, xs_ac_scn, xs_mk_scn, xs_ac_sac, xs_sac_sac, xs_nx_sg, xs_up_sg, xs_lt_sg, xs_cn_sg, xs_q_sg, if_true, if_false, reduceIte, Bool.false_eq_true, Bool.true_eq_false, and_true, true_and, and_false, false_and, or_true, true_or, or_false, false_or, not_true_eq_false, not_false_eq_true] <;> rfl
            exact ur_I (G := (fun _ _ => True)) (τ := (xp_message σ x y z v).2.2) (r := (xp_message σ x y z v).2.1) hC hK hX hS trivial (by rw [e9]) (by rw [e9]; rfl) rfl (by rw [e9]) d_U_message_81
          · refine lv_bipush (v := (-9)) hx hb d_U_message_71 (by decide) ?_
            refine lv_goto (tgt := 77) hx hb d_U_message_73 (by decide) ?_
            refine uk_iV (rest := []) (c_U_send l g o σ 0 rp n t b9 1 ((xs_cn σ (xs_ix x)).2.1) y ((xs_cn σ (xs_ix x)).2.2.1) v z (-9) (xm_in8t c_2) hvac (Or.inl rfl) (fun _ => hcw) (by unfold xu_tg; rw [if_pos ⟨rfl, Int32.not_le.mp c_5⟩])) gd_U_U_send hd_U_send hC hK hX hS (fun _ h => h) (by omega) (by omega) (by omega) (by omega) hl.1 rfl (Nat.le_of_ble_eq_true rfl) d_U_message_77 (fun rp9 t b9 H locs hG9 hX hS _ _ => ?_)
            refine lv_iconst (v := 1) hx hb d_U_message_80 (by decide) ?_
            have e9 : xp_message σ x y z v = (0, 1, xm_send σ (1, ((xs_cn σ (xs_ix x)).2.1), ((xs_cn σ (xs_ix x)).2.2.1), v, y, z)) := by simp only [xp_message, c_1, c_2, c_4, c_5, (xu_it c_3).1, (xu_it c_3).2, (xu_itl (b' := 3) (by decide) c_3), xs_cn_scn, xs_nx_scn, xs_up_scn, xs_lt_scn, xs_q_scn, xs_ac_scn, xs_mk_scn, xs_ac_sac, xs_sac_sac, xs_nx_sg, xs_up_sg, xs_lt_sg, xs_cn_sg, xs_q_sg, if_true, if_false, reduceIte, Bool.false_eq_true, Bool.true_eq_false, and_true, true_and, and_false, false_and, or_true, true_or, or_false, false_or, not_true_eq_false, not_false_eq_true] <;> rfl
            exact ur_I (G := (fun _ _ => True)) (τ := (xp_message σ x y z v).2.2) (r := (xp_message σ x y z v).2.1) hC hK hX hS trivial (by rw [e9]) (by rw [e9]; rfl) rfl (by rw [e9]) d_U_message_81
        · refine lv_aload_n hx hb d_U_message_44 rfl (lv_at hl 0 rfl) ?_
          refine lv_iconst (v := 2) hx hb d_U_message_45 (by decide) ?_
          refine uk_iQ (rest := []) (c_U_raise l g o σ 0 rp n t b9 2) gd_U_U_raise hd_U_raise hC hK hX hS (fun _ h => h) (by omega) (by omega) (by omega) (by omega) hl.1 rfl (Nat.le_of_ble_eq_true rfl) d_U_message_46 (fun rp9 t b9 H locs hG9 hX hS _ _ => ?_)
          rw [hG9.1] at hX
          have e9 : xp_message σ x y z v = (2, 0, σ) := by simp only [xp_message, c_1, c_2, c_4, (xu_it c_3).1, (xu_it c_3).2, (xu_itl (b' := 3) (by decide) c_3), xs_cn_scn, xs_nx_scn, xs_up_scn, xs_lt_scn, xs_q_scn, xs_ac_scn, xs_mk_scn, xs_ac_sac, xs_sac_sac, xs_nx_sg, xs_up_sg, xs_lt_sg, xs_cn_sg, xs_q_sg, if_true, if_false, reduceIte, Bool.false_eq_true, Bool.true_eq_false, and_true, true_and, and_false, false_and, or_true, true_or, or_false, false_or, not_true_eq_false, not_false_eq_true] <;> rfl
          exact ur_I (G := (fun _ _ => True)) (τ := (xp_message σ x y z v).2.2) (r := (xp_message σ x y z v).2.1) hC hK hX hS trivial (by rw [e9]) (by rw [e9]; rfl) rfl (by rw [e9]) d_U_message_49
      · have c_3 := xs_b0 c_3
        refine lv_aload_n hx hb d_U_message_28 rfl (lv_at hl 0 rfl) ?_
        refine lv_iconst (v := 1) hx hb d_U_message_29 (by decide) ?_
        refine uk_iQ (rest := []) (c_U_raise l g o σ 0 rp n t b9 1) gd_U_U_raise hd_U_raise hC hK hX hS (fun _ h => h) (by omega) (by omega) (by omega) (by omega) hl.1 rfl (Nat.le_of_ble_eq_true rfl) d_U_message_30 (fun rp9 t b9 H locs hG9 hX hS _ _ => ?_)
        rw [hG9.1] at hX
        have e9 : xp_message σ x y z v = (1, 0, σ) := by simp only [xp_message, c_1, c_2, eq_false (xu_if c_3), eq_false (xu_ifl (b' := 3) (by decide) c_3), xs_cn_scn, xs_nx_scn, xs_up_scn, xs_lt_scn, xs_q_scn, xs_ac_scn, xs_mk_scn, xs_ac_sac, xs_sac_sac, xs_nx_sg, xs_up_sg, xs_lt_sg, xs_cn_sg, xs_q_sg, if_true, if_false, reduceIte, Bool.false_eq_true, Bool.true_eq_false, and_true, true_and, and_false, false_and, or_true, true_or, or_false, false_or, not_true_eq_false, not_false_eq_true] <;> rfl
        exact ur_I (G := (fun _ _ => True)) (τ := (xp_message σ x y z v).2.2) (r := (xp_message σ x y z v).2.1) hC hK hX hS trivial (by rw [e9]) (by rw [e9]; rfl) rfl (by rw [e9]) d_U_message_33
set_option maxHeartbeats 4000000 in
set_option maxRecDepth 100000 in
theorem c_U_subscribe (l : Launch) (g : xw_G) (o : Nat) (σ : xs_S) (th rp : Int32) (n : Nat) (t : xu_X) (a : xu_M) (x y z : Int32) (hwf : xm_wf σ) : uc_Q l y_U_subscribe (Cond.code y_U_subscribe b_U_subscribe 5 (some .int)) g o σ th rp n t a ((xp_subscribe σ x y z).2.1) ((xp_subscribe σ x y z).2.2) (nI (xp_subscribe σ x y z).1) n (fun _ _ => True) [.ref o, .int x, .int y, .int z] 6 157 := by
  refine uh_Q (own := R_U) (by decide) rfl (Nat.le_of_ble_eq_true rfl) ?_
  intro p e R s m below meth c ls hRf hRl hC hK hX hl
  obtain ⟨hx, hb, hml, hr, hown, hts, hlk⟩ := id hC
  have hS : va_S (xu_W o) s.heap s.heap [] := va_S.rf
  have hl : lv_has ls 5 [(0, .ref o), (1, .int x), (2, .int y), (3, .int z)] := hl
  refine lv_aload_n hx hb d_U_subscribe_0 rfl (lv_at hl 0 rfl) ?_
  refine lv_iconst (v := 0) hx hb d_U_subscribe_1 (by decide) ?_
  refine uo_put (sc' := xu_num σ 0 rp n t) hx hb hts hown hK hX.1 hX.2.1 hS 0 (by decide) lk_U_87 rfl rfl rfl rfl rfl d_U_subscribe_2 (fun H locs hO hA hS => ?_)
  have hX : xu_R g o σ 0 rp n t a H := ⟨hO, hA, hX.2.2.1, hX.2.2.2.1, hX.2.2.2.2⟩
  refine lv_iload_n hx hb d_U_subscribe_5 rfl (lv_at hl 1 rfl) ?_
  refine uk_sQ (rest := []) (c_U_isConnection l g o σ 0 rp n t a x) gd_U_U_isConnection hd_U_isConnection hC hK hX hS (fun _ h => h) (by omega) (by omega) (by omega) (by omega) hl.1 rfl (Nat.le_of_ble_eq_true rfl) d_U_subscribe_6 (fun rp9 t b9 H locs hG9 hX hS _ _ => ?_)
  rw [hG9.1] at hX
  refine lv_if_eq (tgt := 39) hx hb d_U_subscribe_9 (by decide) (fun c_1 => ?_) (fun c_1 => ?_)
  · have c_1 := xs_b0 c_1
    refine lv_aload_n hx hb d_U_subscribe_39 rfl (lv_at hl 0 rfl) ?_
    refine lv_iconst (v := 1) hx hb d_U_subscribe_40 (by decide) ?_
    refine uk_iQ (rest := []) (c_U_raise l g o σ 0 rp n t b9 1) gd_U_U_raise hd_U_raise hC hK hX hS (fun _ h => h) (by omega) (by omega) (by omega) (by omega) hl.1 rfl (Nat.le_of_ble_eq_true rfl) d_U_subscribe_41 (fun rp9 t b9 H locs hG9 hX hS _ _ => ?_)
    rw [hG9.1] at hX
    have e9 : xp_subscribe σ x y z = (1, 0, σ) := by simp only [xp_subscribe, xp_sub1, xp_sub2, xp_sub3, xm_com, xu_e45, xu_e46, xu_e47, xu_e54, xu_e56, xu_e57, xu_e64, xu_e65, xu_e67, xu_e74, xu_e75, xu_e76, c_1, xs_cn_scn, xs_nx_scn, xs_up_scn, xs_lt_scn, xs_q_scn, xs_ac_scn, xs_mk_scn, xs_ac_sac, xs_sac_sac, xs_nx_sg, xs_up_sg, xs_lt_sg, xs_cn_sg, xs_q_sg, if_true, if_false, reduceIte, Bool.false_eq_true, Bool.true_eq_false, and_true, true_and, and_false, false_and, or_true, true_or, or_false, false_or, not_true_eq_false, not_false_eq_true] <;> rfl
    exact ur_I (G := (fun _ _ => True)) (τ := (xp_subscribe σ x y z).2.2) (r := (xp_subscribe σ x y z).2.1) hC hK hX hS trivial (by rw [e9]) (by rw [e9]; rfl) rfl (by rw [e9]) d_U_subscribe_44
  · have c_1 := xs_b1 c_1
    refine lv_iload_n hx hb d_U_subscribe_12 rfl (lv_at hl 2 rfl) ?_
    refine uk_sQ (rest := []) (c_U_isAccount l g o σ 0 rp n t b9 y) gd_U_U_isAccount hd_U_isAccount hC hK hX hS (fun _ h => h) (by omega) (by omega) (by omega) (by omega) hl.1 rfl (Nat.le_of_ble_eq_true rfl) d_U_subscribe_13 (fun rp9 t b9 H locs hG9 hX hS _ _ => ?_)
    rw [hG9.1] at hX
    refine lv_if_eq (tgt := 39) hx hb d_U_subscribe_16 (by decide) (fun c_2 => ?_) (fun c_2 => ?_)
    · have c_2 := xs_b0 c_2
      refine lv_aload_n hx hb d_U_subscribe_39 rfl (lv_at hl 0 rfl) ?_
      refine lv_iconst (v := 1) hx hb d_U_subscribe_40 (by decide) ?_
      refine uk_iQ (rest := []) (c_U_raise l g o σ 0 rp n t b9 1) gd_U_U_raise hd_U_raise hC hK hX hS (fun _ h => h) (by omega) (by omega) (by omega) (by omega) hl.1 rfl (Nat.le_of_ble_eq_true rfl) d_U_subscribe_41 (fun rp9 t b9 H locs hG9 hX hS _ _ => ?_)
      rw [hG9.1] at hX
      have e9 : xp_subscribe σ x y z = (1, 0, σ) := by simp only [xp_subscribe, xp_sub1, xp_sub2, xp_sub3, xm_com, xu_e45, xu_e46, xu_e47, xu_e54, xu_e56, xu_e57, xu_e64, xu_e65, xu_e67, xu_e74, xu_e75, xu_e76, c_1, c_2, xs_cn_scn, xs_nx_scn, xs_up_scn, xs_lt_scn, xs_q_scn, xs_ac_scn, xs_mk_scn, xs_ac_sac, xs_sac_sac, xs_nx_sg, xs_up_sg, xs_lt_sg, xs_cn_sg, xs_q_sg, if_true, if_false, reduceIte, Bool.false_eq_true, Bool.true_eq_false, and_true, true_and, and_false, false_and, or_true, true_or, or_false, false_or, not_true_eq_false, not_false_eq_true] <;> rfl
      exact ur_I (G := (fun _ _ => True)) (τ := (xp_subscribe σ x y z).2.2) (r := (xp_subscribe σ x y z).2.1) hC hK hX hS trivial (by rw [e9]) (by rw [e9]; rfl) rfl (by rw [e9]) d_U_subscribe_44
    · have c_2 := xs_b1 c_2
      refine lv_iload_n hx hb d_U_subscribe_19 rfl (lv_at hl 3 rfl) ?_
      refine lv_iconst (v := 4) hx hb d_U_subscribe_20 (by decide) ?_
      refine lv_bipush (v := 7) hx hb d_U_subscribe_21 (by decide) ?_
      refine uk_sQ (rest := []) (c_U_in l g o σ 0 rp n t b9 z 4 7) gd_U_U_in hd_U_in hC hK hX hS (fun _ h => h) (by omega) (by omega) (by omega) (by omega) hl.1 rfl (Nat.le_of_ble_eq_true rfl) d_U_subscribe_23 (fun rp9 t b9 H locs hG9 hX hS _ _ => ?_)
      rw [hG9.1] at hX
      refine lv_if_eq (tgt := 39) hx hb d_U_subscribe_26 (by decide) (fun c_3 => ?_) (fun c_3 => ?_)
      · have c_3 := xs_b0 c_3
        refine lv_aload_n hx hb d_U_subscribe_39 rfl (lv_at hl 0 rfl) ?_
        refine lv_iconst (v := 1) hx hb d_U_subscribe_40 (by decide) ?_
        refine uk_iQ (rest := []) (c_U_raise l g o σ 0 rp n t b9 1) gd_U_U_raise hd_U_raise hC hK hX hS (fun _ h => h) (by omega) (by omega) (by omega) (by omega) hl.1 rfl (Nat.le_of_ble_eq_true rfl) d_U_subscribe_41 (fun rp9 t b9 H locs hG9 hX hS _ _ => ?_)
        rw [hG9.1] at hX
        have e9 : xp_subscribe σ x y z = (1, 0, σ) := by simp only [xp_subscribe, xp_sub1, xp_sub2, xp_sub3, xm_com, xu_e45, xu_e46, xu_e47, xu_e54, xu_e56, xu_e57, xu_e64, xu_e65, xu_e67, xu_e74, xu_e75, xu_e76, c_1, c_2, eq_false (xu_if c_3), eq_false (xu_ifl (b' := 8) (by decide) c_3), xs_cn_scn, xs_nx_scn, xs_up_scn, xs_lt_scn, xs_q_scn, xs_ac_scn, xs_mk_scn, xs_ac_sac, xs_sac_sac, xs_nx_sg, xs_up_sg, xs_lt_sg, xs_cn_sg, xs_q_sg, if_true, if_false, reduceIte, Bool.false_eq_true, Bool.true_eq_false, and_true, true_and, and_false, false_and, or_true, true_or, or_false, false_or, not_true_eq_false, not_false_eq_true] <;> rfl
        exact ur_I (G := (fun _ _ => True)) (τ := (xp_subscribe σ x y z).2.2) (r := (xp_subscribe σ x y z).2.1) hC hK hX hS trivial (by rw [e9]) (by rw [e9]; rfl) rfl (by rw [e9]) d_U_subscribe_44
      · have c_3 := xs_b1 c_3
        refine lv_aload_n hx hb d_U_subscribe_29 rfl (lv_at hl 0 rfl) ?_
        refine xb_get (v := .ref (o + 5)) hx hb hts xw_in_U hown hK (ci := xi_U) rfl 5 (by decide) (hts _ lk_U_23) rfl hX.1 rfl d_U_subscribe_30 ?_
        refine lv_iload_n hx hb d_U_subscribe_33 rfl (lv_at hl 1 rfl) ?_
        refine ug_i (v := (xs_cn σ (xs_ix x)).2.1) hx hb hK hX.2.1 5 (by decide) (by decide) rfl rfl (xm_in6t c_1) ((hX.2.2.1.2.2.1 (xs_ix x) (xs_ixl (xm_in6t c_1))).2.1) d_U_subscribe_34 ?_
        refine lv_iload_n hx hb d_U_subscribe_35 rfl (lv_at hl 2 rfl) ?_
        refine lv_icmp_ne (tgt := 45) hx hb d_U_subscribe_36 (by decide) (fun c_4 => ?_) (fun c_4 => ?_)
        · refine lv_aload_n hx hb d_U_subscribe_45 rfl (lv_at hl 0 rfl) ?_
          refine xb_get (v := .ref (o + 4)) hx hb hts xw_in_U hown hK (ci := xi_U) rfl 4 (by decide) (hts _ lk_U_20) rfl hX.1 rfl d_U_subscribe_46 ?_
          refine lv_iload_n hx hb d_U_subscribe_49 rfl (lv_at hl 1 rfl) ?_
          refine ug_i (v := (xs_cn σ (xs_ix x)).1) hx hb hK hX.2.1 4 (by decide) (by decide) rfl rfl (xm_in6t c_1) ((hX.2.2.1.2.2.1 (xs_ix x) (xs_ixl (xm_in6t c_1))).1) d_U_subscribe_50 ?_
          refine lv_iconst (v := 4) hx hb d_U_subscribe_51 (by decide) ?_
          refine lv_icmp_eq (tgt := 61) hx hb d_U_subscribe_52 (by decide) (fun c_5 => ?_) (fun c_5 => ?_)
          · have hvac := hwf.2.1 _ (xs_ixl (xm_in6t c_1)) (Or.inr (Or.inr c_5))
            refine lv_aload_n hx hb d_U_subscribe_61 rfl (lv_at hl 0 rfl) ?_
            refine xb_get (v := .ref (o + 5)) hx hb hts xw_in_U hown hK (ci := xi_U) rfl 5 (by decide) (hts _ lk_U_23) rfl hX.1 rfl d_U_subscribe_62 ?_
            refine lv_iload_n hx hb d_U_subscribe_65 rfl (lv_at hl 1 rfl) ?_
            refine ug_i (v := (xs_cn σ (xs_ix x)).2.1) hx hb hK hX.2.1 5 (by decide) (by decide) rfl rfl (xm_in6t c_1) ((hX.2.2.1.2.2.1 (xs_ix x) (xs_ixl (xm_in6t c_1))).2.1) d_U_subscribe_66 ?_
            refine lv_istore (lv' := [(4, .int ((xs_cn σ (xs_ix x)).2.1)), (0, .ref o), (1, .int x), (2, .int y), (3, .int z)]) hx hb d_U_subscribe_67 hl (by decide) rfl (fun ls hl => ?_)
            refine lv_iload_n hx hb d_U_subscribe_69 rfl (lv_at hl 4 rfl) ?_
            refine lv_iconst (v := 5) hx hb d_U_subscribe_70 (by decide) ?_
            refine lv_icmp_ne (tgt := 88) hx hb d_U_subscribe_71 (by decide) (fun c_6 => ?_) (fun c_6 => ?_)
            · refine lv_iload_n hx hb d_U_subscribe_88 rfl (lv_at hl 4 rfl) ?_
              refine lv_iconst (v := 4) hx hb d_U_subscribe_89 (by decide) ?_
              refine lv_icmp_ne (tgt := 112) hx hb d_U_subscribe_90 (by decide) (fun c_7 => ?_) (fun c_7 => ?_)
              · refine lv_iload_n hx hb d_U_subscribe_112 rfl (lv_at hl 4 rfl) ?_
                refine lv_iconst (v := 5) hx hb d_U_subscribe_113 (by decide) ?_
                refine lv_icmp_ne (tgt := 134) hx hb d_U_subscribe_114 (by decide) (fun c_8 => ?_) (fun c_8 => absurd c_8 c_6)
                refine lv_iload_n hx hb d_U_subscribe_134 rfl (lv_at hl 4 rfl) ?_
                refine lv_bipush (v := 6) hx hb d_U_subscribe_135 (by decide) ?_
                refine lv_icmp_ne (tgt := 148) hx hb d_U_subscribe_137 (by decide) (fun c_9 => ?_) (fun c_9 => ?_)
                · refine lv_iload_n hx hb d_U_subscribe_148 rfl (lv_at hl 4 rfl) ?_
                  refine lv_bipush (v := 7) hx hb d_U_subscribe_149 (by decide) ?_
                  refine lv_icmp_ne (tgt := 182) hx hb d_U_subscribe_151 (by decide) (fun c_10 => ?_) (fun c_10 => ?_)
                  · exact absurd (xu_47 c_3 c_7 c_6 c_9 c_10) (fun q => q)
                  · refine lv_aload_n hx hb d_U_subscribe_154 rfl (lv_at hl 1 rfl) ?_
                    refine lv_iload hx hb d_U_subscribe_155 (lv_at hl 0 rfl) ?_
                    refine lv_iload_n hx hb d_U_subscribe_157 rfl (lv_at hl 3 rfl) ?_
                    refine lv_iconst (v := 2) hx hb d_U_subscribe_158 (by decide) ?_
                    refine uk_iQ (rest := []) (c_U_marked l g o σ 0 rp n t b9 ((xs_cn σ (xs_ix x)).2.1) (xs_ix ((xs_cn σ (xs_ix x)).2.1)) hvac rfl y (xs_ix y) (xm_in8t c_2) rfl 2) gd_U_U_marked hd_U_marked hC hK hX hS (fun _ h => h) (by omega) (by omega) (by omega) (by omega) hl.1 rfl (Nat.le_of_ble_eq_true rfl) d_U_subscribe_159 (fun rp9 t b9 H locs hG9 hX hS _ _ => ?_)
                    rw [hG9.1] at hX
                    refine lv_if_eq (tgt := 173) hx hb d_U_subscribe_162 (by decide) (fun c_11 => ?_) (fun c_11 => ?_)
                    · have c_11 := xs_b0 c_11
                      refine lv_aload_n hx hb d_U_subscribe_173 rfl (lv_at hl 1 rfl) ?_
                      refine lv_iload hx hb d_U_subscribe_174 (lv_at hl 0 rfl) ?_
                      refine lv_iload_n hx hb d_U_subscribe_176 rfl (lv_at hl 3 rfl) ?_
                      refine lv_bipush (v := 10) hx hb d_U_subscribe_177 (by decide) ?_
                      refine uk_iV (rest := []) (c_U_unmark l g o σ 0 rp n t b9 ((xs_cn σ (xs_ix x)).2.1) (xs_ix ((xs_cn σ (xs_ix x)).2.1)) hvac rfl y (xs_ix y) (xm_in8t c_2) rfl 10) gd_U_U_unmark hd_U_unmark hC hK hX hS (fun _ h => h) (by omega) (by omega) (by omega) (by omega) hl.1 rfl (Nat.le_of_ble_eq_true rfl) d_U_subscribe_179 (fun rp9 t b9 H locs hG9 hX hS _ _ => ?_)
                      rw [hG9.1] at hX
                      refine lv_aload_n hx hb d_U_subscribe_182 rfl (lv_at hl 1 rfl) ?_
                      refine lv_iload_n hx hb d_U_subscribe_183 rfl (lv_at hl 4 rfl) ?_
                      refine lv_iload hx hb d_U_subscribe_184 (lv_at hl 0 rfl) ?_
                      refine lv_iload_n hx hb d_U_subscribe_186 rfl (lv_at hl 3 rfl) ?_
                      refine lv_iconst (v := (-1)) hx hb d_U_subscribe_187 (by decide) ?_
                      refine lv_iconst (v := 0) hx hb d_U_subscribe_188 (by decide) ?_
                      refine lv_iconst (v := (-1)) hx hb d_U_subscribe_189 (by decide) ?_
                      refine uk_iV (rest := []) (c_U_send l g o (xm_drop σ (xs_ix ((xs_cn σ (xs_ix x)).2.1)) (xs_ix y) 10) 0 rp n t b9 z ((xs_cn σ (xs_ix x)).2.1) y (-1) 0 (-1) (-1) (xm_in8t c_2) hvac (Or.inr (Or.inr (Or.inr ⟨Or.inr (Or.inr (Or.inr c_10)), rfl, rfl⟩))) (fun h => absurd h (by rw [c_10]; decide)) (xu_tgn (by rw [c_10]; decide))) gd_U_U_send hd_U_send hC hK hX hS (fun _ h => h) (by omega) (by omega) (by omega) (by omega) hl.1 rfl (Nat.le_of_ble_eq_true rfl) d_U_subscribe_190 (fun rp9 t b9 H locs hG9 hX hS _ _ => ?_)
                      refine lv_iload_n hx hb d_U_subscribe_193 rfl (lv_at hl 4 rfl) ?_
                      refine lv_iconst (v := 5) hx hb d_U_subscribe_194 (by decide) ?_
                      refine lv_icmp_ne (tgt := 206) hx hb d_U_subscribe_195 (by decide) (fun c_12 => ?_) (fun c_12 => absurd c_12 c_6)
                      refine lv_iconst (v := 1) hx hb d_U_subscribe_206 (by decide) ?_
                      have e9 : xp_subscribe σ x y z = (0, 1, xm_send (xm_drop σ (xs_ix ((xs_cn σ (xs_ix x)).2.1)) (xs_ix y) 10) (z, ((xs_cn σ (xs_ix x)).2.1), (-1), 0, y, (-1))) := by simp only [xp_subscribe, xp_sub1, xp_sub2, xp_sub3, xm_com, xu_e45, xu_e46, xu_e47, xu_e54, xu_e56, xu_e57, xu_e64, xu_e65, xu_e67, xu_e74, xu_e75, xu_e76, c_1, c_2, c_4, c_5, c_6, c_7, c_9, c_10, c_11, (xu_it c_3).1, (xu_it c_3).2, (xu_itl (b' := 8) (by decide) c_3), xs_cn_scn, xs_nx_scn, xs_up_scn, xs_lt_scn, xs_q_scn, xs_ac_scn, xs_mk_scn, xs_ac_sac, xs_sac_sac, xs_nx_sg, xs_up_sg, xs_lt_sg, xs_cn_sg, xs_q_sg, if_true, if_false, reduceIte, Bool.false_eq_true, Bool.true_eq_false, and_true, true_and, and_false, false_and, or_true, true_or, or_false, false_or, not_true_eq_false, not_false_eq_true] <;> rfl
                      exact ur_I (G := (fun _ _ => True)) (τ := (xp_subscribe σ x y z).2.2) (r := (xp_subscribe σ x y z).2.1) hC hK hX hS trivial (by rw [e9]) (by rw [e9]; rfl) rfl (by rw [e9]) d_U_subscribe_207
                    · have c_11 := xs_b1 c_11
                      refine lv_aload_n hx hb d_U_subscribe_165 rfl (lv_at hl 1 rfl) ?_
                      refine lv_iload hx hb d_U_subscribe_166 (lv_at hl 0 rfl) ?_
                      refine lv_iload_n hx hb d_U_subscribe_168 rfl (lv_at hl 3 rfl) ?_
                      refine lv_iconst (v := 3) hx hb d_U_subscribe_169 (by decide) ?_
                      refine uk_iV (rest := []) (c_U_show l g o σ 0 rp n t b9 ((xs_cn σ (xs_ix x)).2.1) y 3 hvac (xm_in8t c_2) (Or.inr rfl)) gd_U_U_show hd_U_show hC hK hX hS (fun _ h => h) (by omega) (by omega) (by omega) (by omega) hl.1 rfl (Nat.le_of_ble_eq_true rfl) d_U_subscribe_170 (fun rp9 t b9 H locs hG9 hX hS _ _ => ?_)
                      refine lv_aload_n hx hb d_U_subscribe_173 rfl (lv_at hl 1 rfl) ?_
                      refine lv_iload hx hb d_U_subscribe_174 (lv_at hl 0 rfl) ?_
                      refine lv_iload_n hx hb d_U_subscribe_176 rfl (lv_at hl 3 rfl) ?_
                      refine lv_bipush (v := 10) hx hb d_U_subscribe_177 (by decide) ?_
                      refine uk_iV (rest := []) (c_U_unmark l g o (xm_sp 6 0 σ ((xs_cn σ (xs_ix x)).2.1) y 3) 0 rp9 n t b9 ((xs_cn σ (xs_ix x)).2.1) (xs_ix ((xs_cn σ (xs_ix x)).2.1)) hvac rfl y (xs_ix y) (xm_in8t c_2) rfl 10) gd_U_U_unmark hd_U_unmark hC hK hX hS (fun _ h => h) (by omega) (by omega) (by omega) (by omega) hl.1 rfl (Nat.le_of_ble_eq_true rfl) d_U_subscribe_179 (fun rp9 t b9 H locs hG9 hX hS _ _ => ?_)
                      refine lv_aload_n hx hb d_U_subscribe_182 rfl (lv_at hl 1 rfl) ?_
                      refine lv_iload_n hx hb d_U_subscribe_183 rfl (lv_at hl 4 rfl) ?_
                      refine lv_iload hx hb d_U_subscribe_184 (lv_at hl 0 rfl) ?_
                      refine lv_iload_n hx hb d_U_subscribe_186 rfl (lv_at hl 3 rfl) ?_
                      refine lv_iconst (v := (-1)) hx hb d_U_subscribe_187 (by decide) ?_
                      refine lv_iconst (v := 0) hx hb d_U_subscribe_188 (by decide) ?_
                      refine lv_iconst (v := (-1)) hx hb d_U_subscribe_189 (by decide) ?_
                      refine uk_iV (rest := []) (c_U_send l g o (xm_drop (xm_sp 6 0 σ ((xs_cn σ (xs_ix x)).2.1) y 3) (xs_ix ((xs_cn σ (xs_ix x)).2.1)) (xs_ix y) 10) 0 rp9 n t b9 z ((xs_cn σ (xs_ix x)).2.1) y (-1) 0 (-1) (-1) (xm_in8t c_2) hvac (Or.inr (Or.inr (Or.inr ⟨Or.inr (Or.inr (Or.inr c_10)), rfl, rfl⟩))) (fun h => absurd h (by rw [c_10]; decide)) (xu_tgn (by rw [c_10]; decide))) gd_U_U_send hd_U_send hC hK hX hS (fun _ h => h) (by omega) (by omega) (by omega) (by omega) hl.1 rfl (Nat.le_of_ble_eq_true rfl) d_U_subscribe_190 (fun rp9 t b9 H locs hG9 hX hS _ _ => ?_)
                      refine lv_iload_n hx hb d_U_subscribe_193 rfl (lv_at hl 4 rfl) ?_
                      refine lv_iconst (v := 5) hx hb d_U_subscribe_194 (by decide) ?_
                      refine lv_icmp_ne (tgt := 206) hx hb d_U_subscribe_195 (by decide) (fun c_13 => ?_) (fun c_13 => absurd c_13 c_6)
                      refine lv_iconst (v := 1) hx hb d_U_subscribe_206 (by decide) ?_
                      have e9 : xp_subscribe σ x y z = (0, 1, xm_send (xm_drop (xm_sp 6 0 σ ((xs_cn σ (xs_ix x)).2.1) y 3) (xs_ix ((xs_cn σ (xs_ix x)).2.1)) (xs_ix y) 10) (z, ((xs_cn σ (xs_ix x)).2.1), (-1), 0, y, (-1))) := by simp only [xp_subscribe, xp_sub1, xp_sub2, xp_sub3, xm_com, xu_e45, xu_e46, xu_e47, xu_e54, xu_e56, xu_e57, xu_e64, xu_e65, xu_e67, xu_e74, xu_e75, xu_e76, c_1, c_2, c_4, c_5, c_6, c_7, c_9, c_10, c_11, (xu_it c_3).1, (xu_it c_3).2, (xu_itl (b' := 8) (by decide) c_3), xs_cn_scn, xs_nx_scn, xs_up_scn, xs_lt_scn, xs_q_scn, xs_ac_scn, xs_mk_scn, xs_ac_sac, xs_sac_sac, xs_nx_sg, xs_up_sg, xs_lt_sg, xs_cn_sg, xs_q_sg, if_true, if_false, reduceIte, Bool.false_eq_true, Bool.true_eq_false, and_true, true_and, and_false, false_and, or_true, true_or, or_false, false_or, not_true_eq_false, not_false_eq_true] <;> rfl
                      exact ur_I (G := (fun _ _ => True)) (τ := (xp_subscribe σ x y z).2.2) (r := (xp_subscribe σ x y z).2.1) hC hK hX hS trivial (by rw [e9]) (by rw [e9]; rfl) rfl (by rw [e9]) d_U_subscribe_207
                · refine lv_aload_n hx hb d_U_subscribe_140 rfl (lv_at hl 1 rfl) ?_
                  refine lv_iload hx hb d_U_subscribe_141 (lv_at hl 0 rfl) ?_
                  refine lv_iload_n hx hb d_U_subscribe_143 rfl (lv_at hl 3 rfl) ?_
                  refine lv_iconst (v := 5) hx hb d_U_subscribe_144 (by decide) ?_
                  refine uk_iV (rest := []) (c_U_unmark l g o σ 0 rp n t b9 ((xs_cn σ (xs_ix x)).2.1) (xs_ix ((xs_cn σ (xs_ix x)).2.1)) hvac rfl y (xs_ix y) (xm_in8t c_2) rfl 5) gd_U_U_unmark hd_U_unmark hC hK hX hS (fun _ h => h) (by omega) (by omega) (by omega) (by omega) hl.1 rfl (Nat.le_of_ble_eq_true rfl) d_U_subscribe_145 (fun rp9 t b9 H locs hG9 hX hS _ _ => ?_)
                  rw [hG9.1] at hX
                  refine lv_iload_n hx hb d_U_subscribe_148 rfl (lv_at hl 4 rfl) ?_
                  refine lv_bipush (v := 7) hx hb d_U_subscribe_149 (by decide) ?_
                  have c_14 : ¬ z = 7 := by rw [c_9]; decide
                  refine lv_icmp_ne (tgt := 182) hx hb d_U_subscribe_151 (by decide) (fun c_15 => ?_) (fun c_15 => absurd c_15 c_14)
                  refine lv_aload_n hx hb d_U_subscribe_182 rfl (lv_at hl 1 rfl) ?_
                  refine lv_iload_n hx hb d_U_subscribe_183 rfl (lv_at hl 4 rfl) ?_
                  refine lv_iload hx hb d_U_subscribe_184 (lv_at hl 0 rfl) ?_
                  refine lv_iload_n hx hb d_U_subscribe_186 rfl (lv_at hl 3 rfl) ?_
                  refine lv_iconst (v := (-1)) hx hb d_U_subscribe_187 (by decide) ?_
                  refine lv_iconst (v := 0) hx hb d_U_subscribe_188 (by decide) ?_
                  refine lv_iconst (v := (-1)) hx hb d_U_subscribe_189 (by decide) ?_
                  refine uk_iV (rest := []) (c_U_send l g o (xm_drop σ (xs_ix ((xs_cn σ (xs_ix x)).2.1)) (xs_ix y) 5) 0 rp n t b9 z ((xs_cn σ (xs_ix x)).2.1) y (-1) 0 (-1) (-1) (xm_in8t c_2) hvac (Or.inr (Or.inr (Or.inr ⟨Or.inr (Or.inr (Or.inl c_9)), rfl, rfl⟩))) (fun h => absurd h (by rw [c_9]; decide)) (xu_tgn (by rw [c_9]; decide))) gd_U_U_send hd_U_send hC hK hX hS (fun _ h => h) (by omega) (by omega) (by omega) (by omega) hl.1 rfl (Nat.le_of_ble_eq_true rfl) d_U_subscribe_190 (fun rp9 t b9 H locs hG9 hX hS _ _ => ?_)
                  refine lv_iload_n hx hb d_U_subscribe_193 rfl (lv_at hl 4 rfl) ?_
                  refine lv_iconst (v := 5) hx hb d_U_subscribe_194 (by decide) ?_
                  refine lv_icmp_ne (tgt := 206) hx hb d_U_subscribe_195 (by decide) (fun c_16 => ?_) (fun c_16 => absurd c_16 c_6)
                  refine lv_iconst (v := 1) hx hb d_U_subscribe_206 (by decide) ?_
                  have e9 : xp_subscribe σ x y z = (0, 1, xm_send (xm_drop σ (xs_ix ((xs_cn σ (xs_ix x)).2.1)) (xs_ix y) 5) (z, ((xs_cn σ (xs_ix x)).2.1), (-1), 0, y, (-1))) := by simp only [xp_subscribe, xp_sub1, xp_sub2, xp_sub3, xm_com, xu_e45, xu_e46, xu_e47, xu_e54, xu_e56, xu_e57, xu_e64, xu_e65, xu_e67, xu_e74, xu_e75, xu_e76, c_1, c_2, c_4, c_5, c_6, c_7, c_9, (xu_it c_3).1, (xu_it c_3).2, (xu_itl (b' := 8) (by decide) c_3), xs_cn_scn, xs_nx_scn, xs_up_scn, xs_lt_scn, xs_q_scn, xs_ac_scn, xs_mk_scn, xs_ac_sac, xs_sac_sac, xs_nx_sg, xs_up_sg, xs_lt_sg, xs_cn_sg, xs_q_sg, if_true, if_false, reduceIte, Bool.false_eq_true, Bool.true_eq_false, and_true, true_and, and_false, false_and, or_true, true_or, or_false, false_or, not_true_eq_false, not_false_eq_true] <;> rfl
                  exact ur_I (G := (fun _ _ => True)) (τ := (xp_subscribe σ x y z).2.2) (r := (xp_subscribe σ x y z).2.1) hC hK hX hS trivial (by rw [e9]) (by rw [e9]; rfl) rfl (by rw [e9]) d_U_subscribe_207
              · refine lv_aload_n hx hb d_U_subscribe_93 rfl (lv_at hl 1 rfl) ?_
                refine lv_iload hx hb d_U_subscribe_94 (lv_at hl 0 rfl) ?_
                refine lv_iload_n hx hb d_U_subscribe_96 rfl (lv_at hl 3 rfl) ?_
                refine lv_iconst (v := 1) hx hb d_U_subscribe_97 (by decide) ?_
                refine uk_iQ (rest := []) (c_U_marked l g o σ 0 rp n t b9 ((xs_cn σ (xs_ix x)).2.1) (xs_ix ((xs_cn σ (xs_ix x)).2.1)) hvac rfl y (xs_ix y) (xm_in8t c_2) rfl 1) gd_U_U_marked hd_U_marked hC hK hX hS (fun _ h => h) (by omega) (by omega) (by omega) (by omega) hl.1 rfl (Nat.le_of_ble_eq_true rfl) d_U_subscribe_98 (fun rp9 t b9 H locs hG9 hX hS _ _ => ?_)
                rw [hG9.1] at hX
                refine lv_if_ne (tgt := 112) hx hb d_U_subscribe_101 (by decide) (fun c_17 => ?_) (fun c_17 => ?_)
                · have c_17 := xs_b1 c_17
                  refine lv_iload_n hx hb d_U_subscribe_112 rfl (lv_at hl 4 rfl) ?_
                  refine lv_iconst (v := 5) hx hb d_U_subscribe_113 (by decide) ?_
                  refine lv_icmp_ne (tgt := 134) hx hb d_U_subscribe_114 (by decide) (fun c_18 => ?_) (fun c_18 => absurd c_18 c_6)
                  refine lv_iload_n hx hb d_U_subscribe_134 rfl (lv_at hl 4 rfl) ?_
                  refine lv_bipush (v := 6) hx hb d_U_subscribe_135 (by decide) ?_
                  have c_19 : ¬ z = 6 := by rw [c_7]; decide
                  refine lv_icmp_ne (tgt := 148) hx hb d_U_subscribe_137 (by decide) (fun c_20 => ?_) (fun c_20 => absurd c_20 c_19)
                  refine lv_iload_n hx hb d_U_subscribe_148 rfl (lv_at hl 4 rfl) ?_
                  refine lv_bipush (v := 7) hx hb d_U_subscribe_149 (by decide) ?_
                  have c_21 : ¬ z = 7 := by rw [c_7]; decide
                  refine lv_icmp_ne (tgt := 182) hx hb d_U_subscribe_151 (by decide) (fun c_22 => ?_) (fun c_22 => absurd c_22 c_21)
                  refine lv_aload_n hx hb d_U_subscribe_182 rfl (lv_at hl 1 rfl) ?_
                  refine lv_iload_n hx hb d_U_subscribe_183 rfl (lv_at hl 4 rfl) ?_
                  refine lv_iload hx hb d_U_subscribe_184 (lv_at hl 0 rfl) ?_
                  refine lv_iload_n hx hb d_U_subscribe_186 rfl (lv_at hl 3 rfl) ?_
                  refine lv_iconst (v := (-1)) hx hb d_U_subscribe_187 (by decide) ?_
                  refine lv_iconst (v := 0) hx hb d_U_subscribe_188 (by decide) ?_
                  refine lv_iconst (v := (-1)) hx hb d_U_subscribe_189 (by decide) ?_
                  refine uk_iV (rest := []) (c_U_send l g o σ 0 rp n t b9 z ((xs_cn σ (xs_ix x)).2.1) y (-1) 0 (-1) (-1) (xm_in8t c_2) hvac (Or.inr (Or.inr (Or.inr ⟨Or.inl c_7, rfl, rfl⟩))) (fun h => absurd h (by rw [c_7]; decide)) (xu_tgn (by rw [c_7]; decide))) gd_U_U_send hd_U_send hC hK hX hS (fun _ h => h) (by omega) (by omega) (by omega) (by omega) hl.1 rfl (Nat.le_of_ble_eq_true rfl) d_U_subscribe_190 (fun rp9 t b9 H locs hG9 hX hS _ _ => ?_)
                  refine lv_iload_n hx hb d_U_subscribe_193 rfl (lv_at hl 4 rfl) ?_
                  refine lv_iconst (v := 5) hx hb d_U_subscribe_194 (by decide) ?_
                  refine lv_icmp_ne (tgt := 206) hx hb d_U_subscribe_195 (by decide) (fun c_23 => ?_) (fun c_23 => absurd c_23 c_6)
                  refine lv_iconst (v := 1) hx hb d_U_subscribe_206 (by decide) ?_
                  have e9 : xp_subscribe σ x y z = (0, 1, xm_send σ (z, ((xs_cn σ (xs_ix x)).2.1), (-1), 0, y, (-1))) := by simp only [xp_subscribe, xp_sub1, xp_sub2, xp_sub3, xm_com, xu_e45, xu_e46, xu_e47, xu_e54, xu_e56, xu_e57, xu_e64, xu_e65, xu_e67, xu_e74, xu_e75, xu_e76, c_1, c_2, c_4, c_5, c_6, c_7, c_17, (xu_it c_3).1, (xu_it c_3).2, (xu_itl (b' := 8) (by decide) c_3), xs_cn_scn, xs_nx_scn, xs_up_scn, xs_lt_scn, xs_q_scn, xs_ac_scn, xs_mk_scn, xs_ac_sac, xs_sac_sac, xs_nx_sg, xs_up_sg, xs_lt_sg, xs_cn_sg, xs_q_sg, if_true, if_false, reduceIte, Bool.false_eq_true, Bool.true_eq_false, and_true, true_and, and_false, false_and, or_true, true_or, or_false, false_or, not_true_eq_false, not_false_eq_true] <;> rfl
                  exact ur_I (G := (fun _ _ => True)) (τ := (xp_subscribe σ x y z).2.2) (r := (xp_subscribe σ x y z).2.1) hC hK hX hS trivial (by rw [e9]) (by rw [e9]; rfl) rfl (by rw [e9]) d_U_subscribe_207
                · have c_17 := xs_b0 c_17
                  refine lv_aload_n hx hb d_U_subscribe_104 rfl (lv_at hl 1 rfl) ?_
                  refine lv_iload hx hb d_U_subscribe_105 (lv_at hl 0 rfl) ?_
                  refine lv_iload_n hx hb d_U_subscribe_107 rfl (lv_at hl 3 rfl) ?_
                  refine lv_iconst (v := 4) hx hb d_U_subscribe_108 (by decide) ?_
                  refine uk_iV (rest := []) (c_U_mark l g o σ 0 rp n t b9 ((xs_cn σ (xs_ix x)).2.1) (xs_ix ((xs_cn σ (xs_ix x)).2.1)) hvac rfl y (xs_ix y) (xm_in8t c_2) rfl 4) gd_U_U_mark hd_U_mark hC hK hX hS (fun _ h => h) (by omega) (by omega) (by omega) (by omega) hl.1 rfl (Nat.le_of_ble_eq_true rfl) d_U_subscribe_109 (fun rp9 t b9 H locs hG9 hX hS _ _ => ?_)
                  rw [hG9.1] at hX
                  refine lv_iload_n hx hb d_U_subscribe_112 rfl (lv_at hl 4 rfl) ?_
                  refine lv_iconst (v := 5) hx hb d_U_subscribe_113 (by decide) ?_
                  refine lv_icmp_ne (tgt := 134) hx hb d_U_subscribe_114 (by decide) (fun c_24 => ?_) (fun c_24 => absurd c_24 c_6)
                  refine lv_iload_n hx hb d_U_subscribe_134 rfl (lv_at hl 4 rfl) ?_
                  refine lv_bipush (v := 6) hx hb d_U_subscribe_135 (by decide) ?_
                  have c_25 : ¬ z = 6 := by rw [c_7]; decide
                  refine lv_icmp_ne (tgt := 148) hx hb d_U_subscribe_137 (by decide) (fun c_26 => ?_) (fun c_26 => absurd c_26 c_25)
                  refine lv_iload_n hx hb d_U_subscribe_148 rfl (lv_at hl 4 rfl) ?_
                  refine lv_bipush (v := 7) hx hb d_U_subscribe_149 (by decide) ?_
                  have c_27 : ¬ z = 7 := by rw [c_7]; decide
                  refine lv_icmp_ne (tgt := 182) hx hb d_U_subscribe_151 (by decide) (fun c_28 => ?_) (fun c_28 => absurd c_28 c_27)
                  refine lv_aload_n hx hb d_U_subscribe_182 rfl (lv_at hl 1 rfl) ?_
                  refine lv_iload_n hx hb d_U_subscribe_183 rfl (lv_at hl 4 rfl) ?_
                  refine lv_iload hx hb d_U_subscribe_184 (lv_at hl 0 rfl) ?_
                  refine lv_iload_n hx hb d_U_subscribe_186 rfl (lv_at hl 3 rfl) ?_
                  refine lv_iconst (v := (-1)) hx hb d_U_subscribe_187 (by decide) ?_
                  refine lv_iconst (v := 0) hx hb d_U_subscribe_188 (by decide) ?_
                  refine lv_iconst (v := (-1)) hx hb d_U_subscribe_189 (by decide) ?_
                  refine uk_iV (rest := []) (c_U_send l g o (xm_mark σ (xs_ix ((xs_cn σ (xs_ix x)).2.1)) (xs_ix y) 4) 0 rp n t b9 z ((xs_cn σ (xs_ix x)).2.1) y (-1) 0 (-1) (-1) (xm_in8t c_2) hvac (Or.inr (Or.inr (Or.inr ⟨Or.inl c_7, rfl, rfl⟩))) (fun h => absurd h (by rw [c_7]; decide)) (xu_tgn (by rw [c_7]; decide))) gd_U_U_send hd_U_send hC hK hX hS (fun _ h => h) (by omega) (by omega) (by omega) (by omega) hl.1 rfl (Nat.le_of_ble_eq_true rfl) d_U_subscribe_190 (fun rp9 t b9 H locs hG9 hX hS _ _ => ?_)
                  refine lv_iload_n hx hb d_U_subscribe_193 rfl (lv_at hl 4 rfl) ?_
                  refine lv_iconst (v := 5) hx hb d_U_subscribe_194 (by decide) ?_
                  refine lv_icmp_ne (tgt := 206) hx hb d_U_subscribe_195 (by decide) (fun c_29 => ?_) (fun c_29 => absurd c_29 c_6)
                  refine lv_iconst (v := 1) hx hb d_U_subscribe_206 (by decide) ?_
                  have e9 : xp_subscribe σ x y z = (0, 1, xm_send (xm_mark σ (xs_ix ((xs_cn σ (xs_ix x)).2.1)) (xs_ix y) 4) (z, ((xs_cn σ (xs_ix x)).2.1), (-1), 0, y, (-1))) := by simp only [xp_subscribe, xp_sub1, xp_sub2, xp_sub3, xm_com, xu_e45, xu_e46, xu_e47, xu_e54, xu_e56, xu_e57, xu_e64, xu_e65, xu_e67, xu_e74, xu_e75, xu_e76, c_1, c_2, c_4, c_5, c_6, c_7, c_17, (xu_it c_3).1, (xu_it c_3).2, (xu_itl (b' := 8) (by decide) c_3), xs_cn_scn, xs_nx_scn, xs_up_scn, xs_lt_scn, xs_q_scn, xs_ac_scn, xs_mk_scn, xs_ac_sac, xs_sac_sac, xs_nx_sg, xs_up_sg, xs_lt_sg, xs_cn_sg, xs_q_sg, if_true, if_false, reduceIte, Bool.false_eq_true, Bool.true_eq_false, and_true, true_and, and_false, false_and, or_true, true_or, or_false, false_or, not_true_eq_false, not_false_eq_true] <;> rfl
                  exact ur_I (G := (fun _ _ => True)) (τ := (xp_subscribe σ x y z).2.2) (r := (xp_subscribe σ x y z).2.1) hC hK hX hS trivial (by rw [e9]) (by rw [e9]; rfl) rfl (by rw [e9]) d_U_subscribe_207
            · refine lv_aload_n hx hb d_U_subscribe_74 rfl (lv_at hl 1 rfl) ?_
              refine lv_iload hx hb d_U_subscribe_75 (lv_at hl 0 rfl) ?_
              refine lv_iload_n hx hb d_U_subscribe_77 rfl (lv_at hl 3 rfl) ?_
              refine lv_bipush (v := 8) hx hb d_U_subscribe_78 (by decide) ?_
              refine uk_iQ (rest := []) (c_U_marked l g o σ 0 rp n t b9 ((xs_cn σ (xs_ix x)).2.1) (xs_ix ((xs_cn σ (xs_ix x)).2.1)) hvac rfl y (xs_ix y) (xm_in8t c_2) rfl 8) gd_U_U_marked hd_U_marked hC hK hX hS (fun _ h => h) (by omega) (by omega) (by omega) (by omega) hl.1 rfl (Nat.le_of_ble_eq_true rfl) d_U_subscribe_80 (fun rp9 t b9 H locs hG9 hX hS _ _ => ?_)
              rw [hG9.1] at hX
              refine lv_if_ne (tgt := 88) hx hb d_U_subscribe_83 (by decide) (fun c_30 => ?_) (fun c_30 => ?_)
              · have c_30 := xs_b1 c_30
                refine lv_iload_n hx hb d_U_subscribe_88 rfl (lv_at hl 4 rfl) ?_
                refine lv_iconst (v := 4) hx hb d_U_subscribe_89 (by decide) ?_
                have c_31 : ¬ z = 4 := by rw [c_6]; decide
                refine lv_icmp_ne (tgt := 112) hx hb d_U_subscribe_90 (by decide) (fun c_32 => ?_) (fun c_32 => absurd c_32 c_31)
                refine lv_iload_n hx hb d_U_subscribe_112 rfl (lv_at hl 4 rfl) ?_
                refine lv_iconst (v := 5) hx hb d_U_subscribe_113 (by decide) ?_
                refine lv_icmp_ne (tgt := 134) hx hb d_U_subscribe_114 (by decide) (fun c_33 => absurd c_6 c_33) (fun c_33 => ?_)
                refine lv_aload_n hx hb d_U_subscribe_117 rfl (lv_at hl 1 rfl) ?_
                refine lv_iload hx hb d_U_subscribe_118 (lv_at hl 0 rfl) ?_
                refine lv_iload_n hx hb d_U_subscribe_120 rfl (lv_at hl 3 rfl) ?_
                refine lv_iconst (v := 2) hx hb d_U_subscribe_121 (by decide) ?_
                refine uk_iV (rest := []) (c_U_mark l g o σ 0 rp n t b9 ((xs_cn σ (xs_ix x)).2.1) (xs_ix ((xs_cn σ (xs_ix x)).2.1)) hvac rfl y (xs_ix y) (xm_in8t c_2) rfl 2) gd_U_U_mark hd_U_mark hC hK hX hS (fun _ h => h) (by omega) (by omega) (by omega) (by omega) hl.1 rfl (Nat.le_of_ble_eq_true rfl) d_U_subscribe_122 (fun rp9 t b9 H locs hG9 hX hS _ _ => ?_)
                rw [hG9.1] at hX
                refine lv_aload_n hx hb d_U_subscribe_125 rfl (lv_at hl 1 rfl) ?_
                refine lv_iload hx hb d_U_subscribe_126 (lv_at hl 0 rfl) ?_
                refine lv_iload_n hx hb d_U_subscribe_128 rfl (lv_at hl 3 rfl) ?_
                refine lv_bipush (v := 8) hx hb d_U_subscribe_129 (by decide) ?_
                refine uk_iV (rest := []) (c_U_unmark l g o (xm_mark σ (xs_ix ((xs_cn σ (xs_ix x)).2.1)) (xs_ix y) 2) 0 rp n t b9 ((xs_cn σ (xs_ix x)).2.1) (xs_ix ((xs_cn σ (xs_ix x)).2.1)) hvac rfl y (xs_ix y) (xm_in8t c_2) rfl 8) gd_U_U_unmark hd_U_unmark hC hK hX hS (fun _ h => h) (by omega) (by omega) (by omega) (by omega) hl.1 rfl (Nat.le_of_ble_eq_true rfl) d_U_subscribe_131 (fun rp9 t b9 H locs hG9 hX hS _ _ => ?_)
                rw [hG9.1] at hX
                refine lv_iload_n hx hb d_U_subscribe_134 rfl (lv_at hl 4 rfl) ?_
                refine lv_bipush (v := 6) hx hb d_U_subscribe_135 (by decide) ?_
                have c_34 : ¬ z = 6 := by rw [c_6]; decide
                refine lv_icmp_ne (tgt := 148) hx hb d_U_subscribe_137 (by decide) (fun c_35 => ?_) (fun c_35 => absurd c_35 c_34)
                refine lv_iload_n hx hb d_U_subscribe_148 rfl (lv_at hl 4 rfl) ?_
                refine lv_bipush (v := 7) hx hb d_U_subscribe_149 (by decide) ?_
                have c_36 : ¬ z = 7 := by rw [c_6]; decide
                refine lv_icmp_ne (tgt := 182) hx hb d_U_subscribe_151 (by decide) (fun c_37 => ?_) (fun c_37 => absurd c_37 c_36)
                refine lv_aload_n hx hb d_U_subscribe_182 rfl (lv_at hl 1 rfl) ?_
                refine lv_iload_n hx hb d_U_subscribe_183 rfl (lv_at hl 4 rfl) ?_
                refine lv_iload hx hb d_U_subscribe_184 (lv_at hl 0 rfl) ?_
                refine lv_iload_n hx hb d_U_subscribe_186 rfl (lv_at hl 3 rfl) ?_
                refine lv_iconst (v := (-1)) hx hb d_U_subscribe_187 (by decide) ?_
                refine lv_iconst (v := 0) hx hb d_U_subscribe_188 (by decide) ?_
                refine lv_iconst (v := (-1)) hx hb d_U_subscribe_189 (by decide) ?_
                refine uk_iV (rest := []) (c_U_send l g o (xm_drop (xm_mark σ (xs_ix ((xs_cn σ (xs_ix x)).2.1)) (xs_ix y) 2) (xs_ix ((xs_cn σ (xs_ix x)).2.1)) (xs_ix y) 8) 0 rp n t b9 z ((xs_cn σ (xs_ix x)).2.1) y (-1) 0 (-1) (-1) (xm_in8t c_2) hvac (Or.inr (Or.inr (Or.inr ⟨Or.inr (Or.inl c_6), rfl, rfl⟩))) (fun h => absurd h (by rw [c_6]; decide)) (xu_tgn (by rw [c_6]; decide))) gd_U_U_send hd_U_send hC hK hX hS (fun _ h => h) (by omega) (by omega) (by omega) (by omega) hl.1 rfl (Nat.le_of_ble_eq_true rfl) d_U_subscribe_190 (fun rp9 t b9 H locs hG9 hX hS _ _ => ?_)
                refine lv_iload_n hx hb d_U_subscribe_193 rfl (lv_at hl 4 rfl) ?_
                refine lv_iconst (v := 5) hx hb d_U_subscribe_194 (by decide) ?_
                refine lv_icmp_ne (tgt := 206) hx hb d_U_subscribe_195 (by decide) (fun c_38 => absurd c_6 c_38) (fun c_38 => ?_)
                refine lv_aload_n hx hb d_U_subscribe_198 rfl (lv_at hl 1 rfl) ?_
                refine lv_iload hx hb d_U_subscribe_199 (lv_at hl 0 rfl) ?_
                refine lv_iload_n hx hb d_U_subscribe_201 rfl (lv_at hl 3 rfl) ?_
                refine lv_iconst (v := 2) hx hb d_U_subscribe_202 (by decide) ?_
                refine uk_iV (rest := []) (c_U_show l g o (xm_send (xm_drop (xm_mark σ (xs_ix ((xs_cn σ (xs_ix x)).2.1)) (xs_ix y) 2) (xs_ix ((xs_cn σ (xs_ix x)).2.1)) (xs_ix y) 8) (z, ((xs_cn σ (xs_ix x)).2.1), (-1), 0, y, (-1))) 0 rp9 n t b9 ((xs_cn σ (xs_ix x)).2.1) y 2 hvac (xm_in8t c_2) (Or.inl rfl)) gd_U_U_show hd_U_show hC hK hX hS (fun _ h => h) (by omega) (by omega) (by omega) (by omega) hl.1 rfl (Nat.le_of_ble_eq_true rfl) d_U_subscribe_203 (fun rp9 t b9 H locs hG9 hX hS _ _ => ?_)
                refine lv_iconst (v := 1) hx hb d_U_subscribe_206 (by decide) ?_
                have e9 : xp_subscribe σ x y z = (0, 1, xm_sp 6 0 (xm_send (xm_drop (xm_mark σ (xs_ix ((xs_cn σ (xs_ix x)).2.1)) (xs_ix y) 2) (xs_ix ((xs_cn σ (xs_ix x)).2.1)) (xs_ix y) 8) (z, ((xs_cn σ (xs_ix x)).2.1), (-1), 0, y, (-1))) ((xs_cn σ (xs_ix x)).2.1) y 2) := by simp only [xp_subscribe, xp_sub1, xp_sub2, xp_sub3, xm_com, xu_e45, xu_e46, xu_e47, xu_e54, xu_e56, xu_e57, xu_e64, xu_e65, xu_e67, xu_e74, xu_e75, xu_e76, c_1, c_2, c_4, c_5, c_6, c_30, (xu_it c_3).1, (xu_it c_3).2, (xu_itl (b' := 8) (by decide) c_3), xs_cn_scn, xs_nx_scn, xs_up_scn, xs_lt_scn, xs_q_scn, xs_ac_scn, xs_mk_scn, xs_ac_sac, xs_sac_sac, xs_nx_sg, xs_up_sg, xs_lt_sg, xs_cn_sg, xs_q_sg, if_true, if_false, reduceIte, Bool.false_eq_true, Bool.true_eq_false, and_true, true_and, and_false, false_and, or_true, true_or, or_false, false_or, not_true_eq_false, not_false_eq_true] <;> rfl
                exact ur_I (G := (fun _ _ => True)) (τ := (xp_subscribe σ x y z).2.2) (r := (xp_subscribe σ x y z).2.1) hC hK hX hS trivial (by rw [e9]) (by rw [e9]; rfl) rfl (by rw [e9]) d_U_subscribe_207
              · have c_30 := xs_b0 c_30
                refine lv_iconst (v := 0) hx hb d_U_subscribe_86 (by decide) ?_
                have e9 : xp_subscribe σ x y z = (0, 0, σ) := by simp only [xp_subscribe, xp_sub1, xp_sub2, xp_sub3, xm_com, xu_e45, xu_e46, xu_e47, xu_e54, xu_e56, xu_e57, xu_e64, xu_e65, xu_e67, xu_e74, xu_e75, xu_e76, c_1, c_2, c_4, c_5, c_6, c_30, (xu_it c_3).1, (xu_it c_3).2, (xu_itl (b' := 8) (by decide) c_3), xs_cn_scn, xs_nx_scn, xs_up_scn, xs_lt_scn, xs_q_scn, xs_ac_scn, xs_mk_scn, xs_ac_sac, xs_sac_sac, xs_nx_sg, xs_up_sg, xs_lt_sg, xs_cn_sg, xs_q_sg, if_true, if_false, reduceIte, Bool.false_eq_true, Bool.true_eq_false, and_true, true_and, and_false, false_and, or_true, true_or, or_false, false_or, not_true_eq_false, not_false_eq_true] <;> rfl
                exact ur_I (G := (fun _ _ => True)) (τ := (xp_subscribe σ x y z).2.2) (r := (xp_subscribe σ x y z).2.1) hC hK hX hS trivial (by rw [e9]) (by rw [e9]; rfl) rfl (by rw [e9]) d_U_subscribe_87
          · refine lv_aload_n hx hb d_U_subscribe_55 rfl (lv_at hl 0 rfl) ?_
            refine lv_iconst (v := 2) hx hb d_U_subscribe_56 (by decide) ?_
            refine uk_iQ (rest := []) (c_U_raise l g o σ 0 rp n t b9 2) gd_U_U_raise hd_U_raise hC hK hX hS (fun _ h => h) (by omega) (by omega) (by omega) (by omega) hl.1 rfl (Nat.le_of_ble_eq_true rfl) d_U_subscribe_57 (fun rp9 t b9 H locs hG9 hX hS _ _ => ?_)
            rw [hG9.1] at hX
            have e9 : xp_subscribe σ x y z = (2, 0, σ) := by simp only [xp_subscribe, xp_sub1, xp_sub2, xp_sub3, xm_com, xu_e45, xu_e46, xu_e47, xu_e54, xu_e56, xu_e57, xu_e64, xu_e65, xu_e67, xu_e74, xu_e75, xu_e76, c_1, c_2, c_4, c_5, (xu_it c_3).1, (xu_it c_3).2, (xu_itl (b' := 8) (by decide) c_3), xs_cn_scn, xs_nx_scn, xs_up_scn, xs_lt_scn, xs_q_scn, xs_ac_scn, xs_mk_scn, xs_ac_sac, xs_sac_sac, xs_nx_sg, xs_up_sg, xs_lt_sg, xs_cn_sg, xs_q_sg, if_true, if_false, reduceIte, Bool.false_eq_true, Bool.true_eq_false, and_true, true_and, and_false, false_and, or_true, true_or, or_false, false_or, not_true_eq_false, not_false_eq_true] <;> rfl
            exact ur_I (G := (fun _ _ => True)) (τ := (xp_subscribe σ x y z).2.2) (r := (xp_subscribe σ x y z).2.1) hC hK hX hS trivial (by rw [e9]) (by rw [e9]; rfl) rfl (by rw [e9]) d_U_subscribe_60
        · refine lv_aload_n hx hb d_U_subscribe_39 rfl (lv_at hl 0 rfl) ?_
          refine lv_iconst (v := 1) hx hb d_U_subscribe_40 (by decide) ?_
          refine uk_iQ (rest := []) (c_U_raise l g o σ 0 rp n t b9 1) gd_U_U_raise hd_U_raise hC hK hX hS (fun _ h => h) (by omega) (by omega) (by omega) (by omega) hl.1 rfl (Nat.le_of_ble_eq_true rfl) d_U_subscribe_41 (fun rp9 t b9 H locs hG9 hX hS _ _ => ?_)
          rw [hG9.1] at hX
          have e9 : xp_subscribe σ x y z = (1, 0, σ) := by simp only [xp_subscribe, xp_sub1, xp_sub2, xp_sub3, xm_com, xu_e45, xu_e46, xu_e47, xu_e54, xu_e56, xu_e57, xu_e64, xu_e65, xu_e67, xu_e74, xu_e75, xu_e76, c_1, c_2, c_4, (xu_it c_3).1, (xu_it c_3).2, (xu_itl (b' := 8) (by decide) c_3), xs_cn_scn, xs_nx_scn, xs_up_scn, xs_lt_scn, xs_q_scn, xs_ac_scn, xs_mk_scn, xs_ac_sac, xs_sac_sac, xs_nx_sg, xs_up_sg, xs_lt_sg, xs_cn_sg, xs_q_sg, if_true, if_false, reduceIte, Bool.false_eq_true, Bool.true_eq_false, and_true, true_and, and_false, false_and, or_true, true_or, or_false, false_or, not_true_eq_false, not_false_eq_true] <;> rfl
          exact ur_I (G := (fun _ _ => True)) (τ := (xp_subscribe σ x y z).2.2) (r := (xp_subscribe σ x y z).2.1) hC hK hX hS trivial (by rw [e9]) (by rw [e9]; rfl) rfl (by rw [e9]) d_U_subscribe_44
