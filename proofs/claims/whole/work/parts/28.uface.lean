/-! The reference, by program. -/
set_option maxHeartbeats 4000000 in
set_option maxRecDepth 100000 in
theorem c_U_roster (l : Launch) (g : xw_G) (o : Nat) (σ : xs_S) (th rp : Int32) (n : Nat) (t : xu_X) (a : xu_M) (x y : Int32) : uc_Q l y_U_roster (Cond.code y_U_roster b_U_roster 3 (some .int)) g o σ th rp n t a ((xp_roster σ x y).2.1) ((xp_roster σ x y).2.2) (nI (xp_roster σ x y).1) n (fun _ _ => True) [.ref o, .int x, .int y] 2 42 := by
  refine uh_Q (own := R_U) (by decide) rfl (Nat.le_of_ble_eq_true rfl) ?_
  intro p e R s m below meth c ls hRf hRl hC hK hX hl
  obtain ⟨hx, hb, hml, hr, hown, hts, hlk⟩ := id hC
  have hS : va_S (xu_W o) s.heap s.heap [] := va_S.rf
  have hl : lv_has ls 3 [(0, .ref o), (1, .int x), (2, .int y)] := hl
  refine lv_aload_n hx hb d_U_roster_0 rfl (lv_at hl 0 rfl) ?_
  refine lv_iconst (v := 0) hx hb d_U_roster_1 (by decide) ?_
  refine uo_put (sc' := xu_num σ 0 rp n t) hx hb hts hown hK hX.1 hX.2.1 hS 0 (by decide) lk_U_87 rfl rfl rfl rfl rfl d_U_roster_2 (fun H locs hO hA hS => ?_)
  have hX : xu_R g o σ 0 rp n t a H := ⟨hO, hA, hX.2.2.1, hX.2.2.2.1, hX.2.2.2.2⟩
  refine lv_iload_n hx hb d_U_roster_5 rfl (lv_at hl 1 rfl) ?_
  refine uk_sQ (rest := []) (c_U_isAccount l g o σ 0 rp n t a x) gd_U_U_isAccount hd_U_isAccount hC hK hX hS (fun _ h => h) (by omega) (by omega) (by omega) (by omega) hl.1 rfl (Nat.le_of_ble_eq_true rfl) d_U_roster_6 (fun rp9 t b9 H locs hG9 hX hS _ _ => ?_)
  rw [hG9.1] at hX
  refine lv_if_eq (tgt := 33) hx hb d_U_roster_9 (by decide) (fun c_1 => ?_) (fun c_1 => ?_)
  · have c_1 := xs_b0 c_1
    refine lv_aload_n hx hb d_U_roster_33 rfl (lv_at hl 0 rfl) ?_
    refine lv_iconst (v := 1) hx hb d_U_roster_34 (by decide) ?_
    refine uk_iQ (rest := []) (c_U_raise l g o σ 0 rp n t b9 1) gd_U_U_raise hd_U_raise hC hK hX hS (fun _ h => h) (by omega) (by omega) (by omega) (by omega) hl.1 rfl (Nat.le_of_ble_eq_true rfl) d_U_roster_35 (fun rp9 t b9 H locs hG9 hX hS _ _ => ?_)
    rw [hG9.1] at hX
    have e9 : xp_roster σ x y = (1, 0, σ) := by simp only [xp_roster, c_1, xs_cn_scn, xs_nx_scn, xs_up_scn, xs_lt_scn, xs_q_scn, xs_ac_scn, xs_mk_scn, xs_ac_sac, xs_sac_sac, xs_nx_sg, xs_up_sg, xs_lt_sg, xs_cn_sg, xs_q_sg, if_true, if_false, reduceIte, Bool.false_eq_true, Bool.true_eq_false, and_true, true_and, and_false, false_and, or_true, true_or, or_false, false_or, not_true_eq_false, not_false_eq_true] <;> rfl
    exact ur_I (G := (fun _ _ => True)) (τ := (xp_roster σ x y).2.2) (r := (xp_roster σ x y).2.1) hC hK hX hS trivial (by rw [e9]) (by rw [e9]; rfl) rfl (by rw [e9]) d_U_roster_38
  · have c_1 := xs_b1 c_1
    refine lv_iload_n hx hb d_U_roster_12 rfl (lv_at hl 2 rfl) ?_
    refine uk_sQ (rest := []) (c_U_isAccount l g o σ 0 rp n t b9 y) gd_U_U_isAccount hd_U_isAccount hC hK hX hS (fun _ h => h) (by omega) (by omega) (by omega) (by omega) hl.1 rfl (Nat.le_of_ble_eq_true rfl) d_U_roster_13 (fun rp9 t b9 H locs hG9 hX hS _ _ => ?_)
    rw [hG9.1] at hX
    refine lv_if_eq (tgt := 33) hx hb d_U_roster_16 (by decide) (fun c_2 => ?_) (fun c_2 => ?_)
    · have c_2 := xs_b0 c_2
      refine lv_aload_n hx hb d_U_roster_33 rfl (lv_at hl 0 rfl) ?_
      refine lv_iconst (v := 1) hx hb d_U_roster_34 (by decide) ?_
      refine uk_iQ (rest := []) (c_U_raise l g o σ 0 rp n t b9 1) gd_U_U_raise hd_U_raise hC hK hX hS (fun _ h => h) (by omega) (by omega) (by omega) (by omega) hl.1 rfl (Nat.le_of_ble_eq_true rfl) d_U_roster_35 (fun rp9 t b9 H locs hG9 hX hS _ _ => ?_)
      rw [hG9.1] at hX
      have e9 : xp_roster σ x y = (1, 0, σ) := by simp only [xp_roster, c_1, c_2, xs_cn_scn, xs_nx_scn, xs_up_scn, xs_lt_scn, xs_q_scn, xs_ac_scn, xs_mk_scn, xs_ac_sac, xs_sac_sac, xs_nx_sg, xs_up_sg, xs_lt_sg, xs_cn_sg, xs_q_sg, if_true, if_false, reduceIte, Bool.false_eq_true, Bool.true_eq_false, and_true, true_and, and_false, false_and, or_true, true_or, or_false, false_or, not_true_eq_false, not_false_eq_true] <;> rfl
      exact ur_I (G := (fun _ _ => True)) (τ := (xp_roster σ x y).2.2) (r := (xp_roster σ x y).2.1) hC hK hX hS trivial (by rw [e9]) (by rw [e9]; rfl) rfl (by rw [e9]) d_U_roster_38
    · have c_2 := xs_b1 c_2
      have hm := xu_ix8 (xm_in8t c_1) (xm_in8t c_2)
      refine lv_aload_n hx hb d_U_roster_19 rfl (lv_at hl 0 rfl) ?_
      refine xb_get (v := .ref (o + 3)) hx hb hts xw_in_U hown hK (ci := xi_U) rfl 3 (by decide) (hts _ lk_U_17) rfl hX.1 rfl d_U_roster_20 ?_
      refine lv_bipush (v := 8) hx hb d_U_roster_23 (by decide) ?_
      refine lv_iload_n hx hb d_U_roster_25 rfl (lv_at hl 1 rfl) ?_
      refine lv_imul hx hb d_U_roster_26 ?_
      refine lv_iload_n hx hb d_U_roster_27 rfl (lv_at hl 2 rfl) ?_
      refine lv_iadd hx hb d_U_roster_28 ?_
      refine ug_i (v := xs_mk σ (xs_ix x) (xs_ix y)) hx hb hK hX.2.1 3 (by decide) (by decide) rfl rfl hm.1 ((by rw [hm.2]; exact hX.2.2.1.2.1 _ _ (xs_ixl (xm_in8t c_1)) (xs_ixl (xm_in8t c_2)))) d_U_roster_29 ?_
      refine lv_goto (tgt := 38) hx hb d_U_roster_30 (by decide) ?_
      have e9 : xp_roster σ x y = (0, xs_mk σ (xs_ix x) (xs_ix y), σ) := by simp only [xp_roster, c_1, c_2, xs_cn_scn, xs_nx_scn, xs_up_scn, xs_lt_scn, xs_q_scn, xs_ac_scn, xs_mk_scn, xs_ac_sac, xs_sac_sac, xs_nx_sg, xs_up_sg, xs_lt_sg, xs_cn_sg, xs_q_sg, if_true, if_false, reduceIte, Bool.false_eq_true, Bool.true_eq_false, and_true, true_and, and_false, false_and, or_true, true_or, or_false, false_or, not_true_eq_false, not_false_eq_true] <;> rfl
      exact ur_I (G := (fun _ _ => True)) (τ := (xp_roster σ x y).2.2) (r := (xp_roster σ x y).2.1) hC hK hX hS trivial (by rw [e9]) (by rw [e9]; rfl) rfl (by rw [e9]) d_U_roster_38
set_option maxHeartbeats 4000000 in
set_option maxRecDepth 100000 in
theorem c_U_connection (l : Launch) (g : xw_G) (o : Nat) (σ : xs_S) (th rp : Int32) (n : Nat) (t : xu_X) (a : xu_M) (x y : Int32) : uc_Q l y_U_connection (Cond.code y_U_connection b_U_connection 3 (some .int)) g o σ th rp n t a ((xp_connection σ x y).2.1) ((xp_connection σ x y).2.2) (nI (xp_connection σ x y).1) n (fun _ _ => True) [.ref o, .int x, .int y] 2 42 := by
  refine uh_Q (own := R_U) (by decide) rfl (Nat.le_of_ble_eq_true rfl) ?_
  intro p e R s m below meth c ls hRf hRl hC hK hX hl
  obtain ⟨hx, hb, hml, hr, hown, hts, hlk⟩ := id hC
  have hS : va_S (xu_W o) s.heap s.heap [] := va_S.rf
  have hl : lv_has ls 3 [(0, .ref o), (1, .int x), (2, .int y)] := hl
  refine lv_aload_n hx hb d_U_connection_0 rfl (lv_at hl 0 rfl) ?_
  refine lv_iconst (v := 0) hx hb d_U_connection_1 (by decide) ?_
  refine uo_put (sc' := xu_num σ 0 rp n t) hx hb hts hown hK hX.1 hX.2.1 hS 0 (by decide) lk_U_87 rfl rfl rfl rfl rfl d_U_connection_2 (fun H locs hO hA hS => ?_)
  have hX : xu_R g o σ 0 rp n t a H := ⟨hO, hA, hX.2.2.1, hX.2.2.2.1, hX.2.2.2.2⟩
  refine lv_iload_n hx hb d_U_connection_5 rfl (lv_at hl 1 rfl) ?_
  refine uk_sQ (rest := []) (c_U_isConnection l g o σ 0 rp n t a x) gd_U_U_isConnection hd_U_isConnection hC hK hX hS (fun _ h => h) (by omega) (by omega) (by omega) (by omega) hl.1 rfl (Nat.le_of_ble_eq_true rfl) d_U_connection_6 (fun rp9 t b9 H locs hG9 hX hS _ _ => ?_)
  rw [hG9.1] at hX
  refine lv_if_ne (tgt := 18) hx hb d_U_connection_9 (by decide) (fun c_1 => ?_) (fun c_1 => ?_)
  · have c_1 := xs_b1 c_1
    refine lv_iload_n hx hb d_U_connection_18 rfl (lv_at hl 2 rfl) ?_
    by_cases c_2 : y = 0
    · refine lv_tableIn (tgt := 52) (off := 33) hx hb d_U_connection_19 (by rw [c_2]; decide) (by rw [c_2]; decide) (by rw [c_2]; rfl) (by decide) ?_
      refine lv_aload_n hx hb d_U_connection_52 rfl (lv_at hl 0 rfl) ?_
      refine xb_get (v := .ref (o + 4)) hx hb hts xw_in_U hown hK (ci := xi_U) rfl 4 (by decide) (hts _ lk_U_20) rfl hX.1 rfl d_U_connection_53 ?_
      refine lv_iload_n hx hb d_U_connection_56 rfl (lv_at hl 1 rfl) ?_
      refine ug_i (v := (xs_cn σ (xs_ix x)).1) hx hb hK hX.2.1 4 (by decide) (by decide) rfl rfl (xm_in6t c_1) ((hX.2.2.1.2.2.1 (xs_ix x) (xs_ixl (xm_in6t c_1))).1) d_U_connection_57 ?_
      have e9 : xp_connection σ x y = (0, (xs_cn σ (xs_ix x)).1, σ) := by simp only [xp_connection, xs_b, c_1, c_2, xs_cn_scn, xs_nx_scn, xs_up_scn, xs_lt_scn, xs_q_scn, xs_ac_scn, xs_mk_scn, xs_ac_sac, xs_sac_sac, xs_nx_sg, xs_up_sg, xs_lt_sg, xs_cn_sg, xs_q_sg, if_true, if_false, reduceIte, Bool.false_eq_true, Bool.true_eq_false, and_true, true_and, and_false, false_and, or_true, true_or, or_false, false_or, not_true_eq_false, not_false_eq_true] <;> rfl
      exact ur_I (G := (fun _ _ => True)) (τ := (xp_connection σ x y).2.2) (r := (xp_connection σ x y).2.1) hC hK hX hS trivial (by rw [e9]) (by rw [e9]; rfl) rfl (by rw [e9]) d_U_connection_58
    by_cases c_3 : y = 1
    · refine lv_tableIn (tgt := 59) (off := 40) hx hb d_U_connection_19 (by rw [c_3]; decide) (by rw [c_3]; decide) (by rw [c_3]; rfl) (by decide) ?_
      refine lv_aload_n hx hb d_U_connection_59 rfl (lv_at hl 0 rfl) ?_
      refine xb_get (v := .ref (o + 5)) hx hb hts xw_in_U hown hK (ci := xi_U) rfl 5 (by decide) (hts _ lk_U_23) rfl hX.1 rfl d_U_connection_60 ?_
      refine lv_iload_n hx hb d_U_connection_63 rfl (lv_at hl 1 rfl) ?_
      refine ug_i (v := (xs_cn σ (xs_ix x)).2.1) hx hb hK hX.2.1 5 (by decide) (by decide) rfl rfl (xm_in6t c_1) ((hX.2.2.1.2.2.1 (xs_ix x) (xs_ixl (xm_in6t c_1))).2.1) d_U_connection_64 ?_
      have e9 : xp_connection σ x y = (0, (xs_cn σ (xs_ix x)).2.1, σ) := by simp only [xp_connection, xs_b, c_1, c_2, c_3, xs_cn_scn, xs_nx_scn, xs_up_scn, xs_lt_scn, xs_q_scn, xs_ac_scn, xs_mk_scn, xs_ac_sac, xs_sac_sac, xs_nx_sg, xs_up_sg, xs_lt_sg, xs_cn_sg, xs_q_sg, if_true, if_false, reduceIte, Bool.false_eq_true, Bool.true_eq_false, and_true, true_and, and_false, false_and, or_true, true_or, or_false, false_or, not_true_eq_false, not_false_eq_true] <;> rfl
      exact ur_I (G := (fun _ _ => True)) (τ := (xp_connection σ x y).2.2) (r := (xp_connection σ x y).2.1) hC hK hX hS trivial (by rw [e9]) (by rw [e9]; rfl) rfl (by rw [e9]) d_U_connection_65
    by_cases c_4 : y = 2
    · refine lv_tableIn (tgt := 66) (off := 47) hx hb d_U_connection_19 (by rw [c_4]; decide) (by rw [c_4]; decide) (by rw [c_4]; rfl) (by decide) ?_
      refine lv_aload_n hx hb d_U_connection_66 rfl (lv_at hl 0 rfl) ?_
      refine xb_get (v := .ref (o + 6)) hx hb hts xw_in_U hown hK (ci := xi_U) rfl 6 (by decide) (hts _ lk_U_26) rfl hX.1 rfl d_U_connection_67 ?_
      refine lv_iload_n hx hb d_U_connection_70 rfl (lv_at hl 1 rfl) ?_
      refine ug_i (v := (xs_cn σ (xs_ix x)).2.2.1) hx hb hK hX.2.1 6 (by decide) (by decide) rfl rfl (xm_in6t c_1) ((hX.2.2.1.2.2.1 (xs_ix x) (xs_ixl (xm_in6t c_1))).2.2.1) d_U_connection_71 ?_
      have e9 : xp_connection σ x y = (0, (xs_cn σ (xs_ix x)).2.2.1, σ) := by simp only [xp_connection, xs_b, c_1, c_2, c_3, c_4, xs_cn_scn, xs_nx_scn, xs_up_scn, xs_lt_scn, xs_q_scn, xs_ac_scn, xs_mk_scn, xs_ac_sac, xs_sac_sac, xs_nx_sg, xs_up_sg, xs_lt_sg, xs_cn_sg, xs_q_sg, if_true, if_false, reduceIte, Bool.false_eq_true, Bool.true_eq_false, and_true, true_and, and_false, false_and, or_true, true_or, or_false, false_or, not_true_eq_false, not_false_eq_true] <;> rfl
      exact ur_I (G := (fun _ _ => True)) (τ := (xp_connection σ x y).2.2) (r := (xp_connection σ x y).2.1) hC hK hX hS trivial (by rw [e9]) (by rw [e9]; rfl) rfl (by rw [e9]) d_U_connection_72
    by_cases c_5 : y = 3
    · refine lv_tableIn (tgt := 73) (off := 54) hx hb d_U_connection_19 (by rw [c_5]; decide) (by rw [c_5]; decide) (by rw [c_5]; rfl) (by decide) ?_
      refine lv_aload_n hx hb d_U_connection_73 rfl (lv_at hl 0 rfl) ?_
      refine xb_get (v := .ref (o + 7)) hx hb hts xw_in_U hown hK (ci := xi_U) rfl 7 (by decide) (hts _ lk_U_29) rfl hX.1 rfl d_U_connection_74 ?_
      refine lv_iload_n hx hb d_U_connection_77 rfl (lv_at hl 1 rfl) ?_
      refine ug_z (v := xs_b (xs_cn σ (xs_ix x)).2.2.2.2.2) hx hb hK hX.2.1 7 (by decide) (by decide) rfl rfl (xm_in6t c_1) ((hX.2.2.1.2.2.1 (xs_ix x) (xs_ixl (xm_in6t c_1))).2.2.2.1) d_U_connection_78 ?_
      refine lv_if_eq (tgt := 86) hx hb d_U_connection_79 (by decide) (fun c_6 => ?_) (fun c_6 => ?_)
      · have c_6 := xs_b0 c_6
        refine lv_iconst (v := 0) hx hb d_U_connection_86 (by decide) ?_
        have e9 : xp_connection σ x y = (0, 0, σ) := by simp only [xp_connection, xs_b, c_1, c_2, c_3, c_4, c_5, c_6, xs_cn_scn, xs_nx_scn, xs_up_scn, xs_lt_scn, xs_q_scn, xs_ac_scn, xs_mk_scn, xs_ac_sac, xs_sac_sac, xs_nx_sg, xs_up_sg, xs_lt_sg, xs_cn_sg, xs_q_sg, if_true, if_false, reduceIte, Bool.false_eq_true, Bool.true_eq_false, and_true, true_and, and_false, false_and, or_true, true_or, or_false, false_or, not_true_eq_false, not_false_eq_true] <;> rfl
        exact ur_I (G := (fun _ _ => True)) (τ := (xp_connection σ x y).2.2) (r := (xp_connection σ x y).2.1) hC hK hX hS trivial (by rw [e9]) (by rw [e9]; rfl) rfl (by rw [e9]) d_U_connection_87
      · have c_6 := xs_b1 c_6
        refine lv_iconst (v := 1) hx hb d_U_connection_82 (by decide) ?_
        refine lv_goto (tgt := 87) hx hb d_U_connection_83 (by decide) ?_
        have e9 : xp_connection σ x y = (0, 1, σ) := by simp only [xp_connection, xs_b, c_1, c_2, c_3, c_4, c_5, c_6, xs_cn_scn, xs_nx_scn, xs_up_scn, xs_lt_scn, xs_q_scn, xs_ac_scn, xs_mk_scn, xs_ac_sac, xs_sac_sac, xs_nx_sg, xs_up_sg, xs_lt_sg, xs_cn_sg, xs_q_sg, if_true, if_false, reduceIte, Bool.false_eq_true, Bool.true_eq_false, and_true, true_and, and_false, false_and, or_true, true_or, or_false, false_or, not_true_eq_false, not_false_eq_true] <;> rfl
        exact ur_I (G := (fun _ _ => True)) (τ := (xp_connection σ x y).2.2) (r := (xp_connection σ x y).2.1) hC hK hX hS trivial (by rw [e9]) (by rw [e9]; rfl) rfl (by rw [e9]) d_U_connection_87
    by_cases c_7 : y = 4
    · refine lv_tableIn (tgt := 88) (off := 69) hx hb d_U_connection_19 (by rw [c_7]; decide) (by rw [c_7]; decide) (by rw [c_7]; rfl) (by decide) ?_
      refine lv_aload_n hx hb d_U_connection_88 rfl (lv_at hl 0 rfl) ?_
      refine xb_get (v := .ref (o + 14)) hx hb hts xw_in_U hown hK (ci := xi_U) rfl 15 (by decide) (hts _ lk_U_50) rfl hX.1 rfl d_U_connection_89 ?_
      refine lv_iload_n hx hb d_U_connection_92 rfl (lv_at hl 1 rfl) ?_
      refine ug_i (v := nI (xs_q σ (8 + (xs_ix x))).length) hx hb hK hX.2.1 14 (by decide) (by decide) rfl rfl (xm_in6t c_1) ((hX.2.2.1.2.2.2.1 (xs_ix x) (xs_ixl (xm_in6t c_1))).1) d_U_connection_93 ?_
      have e9 : xp_connection σ x y = (0, nI (xs_q σ (8 + (xs_ix x))).length, σ) := by simp only [xp_connection, xs_b, c_1, c_2, c_3, c_4, c_5, c_7, xs_cn_scn, xs_nx_scn, xs_up_scn, xs_lt_scn, xs_q_scn, xs_ac_scn, xs_mk_scn, xs_ac_sac, xs_sac_sac, xs_nx_sg, xs_up_sg, xs_lt_sg, xs_cn_sg, xs_q_sg, if_true, if_false, reduceIte, Bool.false_eq_true, Bool.true_eq_false, and_true, true_and, and_false, false_and, or_true, true_or, or_false, false_or, not_true_eq_false, not_false_eq_true] <;> rfl
      exact ur_I (G := (fun _ _ => True)) (τ := (xp_connection σ x y).2.2) (r := (xp_connection σ x y).2.1) hC hK hX hS trivial (by rw [e9]) (by rw [e9]; rfl) rfl (by rw [e9]) d_U_connection_94
    refine lv_tableOut (tgt := 95) hx hb d_U_connection_19 (by have q0 := lv_neT c_2 (a := 0) rfl; have q1 := lv_neT c_3 (a := 1) rfl; have q2 := lv_neT c_4 (a := 2) rfl; have q3 := lv_neT c_5 (a := 3) rfl; have q4 := lv_neT c_7 (a := 4) rfl; omega) (by decide) ?_
    refine lv_aload_n hx hb d_U_connection_95 rfl (lv_at hl 0 rfl) ?_
    refine lv_iconst (v := 1) hx hb d_U_connection_96 (by decide) ?_
    refine uk_iQ (rest := []) (c_U_raise l g o σ 0 rp n t b9 1) gd_U_U_raise hd_U_raise hC hK hX hS (fun _ h => h) (by omega) (by omega) (by omega) (by omega) hl.1 rfl (Nat.le_of_ble_eq_true rfl) d_U_connection_97 (fun rp9 t b9 H locs hG9 hX hS _ _ => ?_)
    rw [hG9.1] at hX
    have e9 : xp_connection σ x y = (1, 0, σ) := by simp only [xp_connection, xs_b, c_1, c_2, c_3, c_4, c_5, c_7, xs_cn_scn, xs_nx_scn, xs_up_scn, xs_lt_scn, xs_q_scn, xs_ac_scn, xs_mk_scn, xs_ac_sac, xs_sac_sac, xs_nx_sg, xs_up_sg, xs_lt_sg, xs_cn_sg, xs_q_sg, if_true, if_false, reduceIte, Bool.false_eq_true, Bool.true_eq_false, and_true, true_and, and_false, false_and, or_true, true_or, or_false, false_or, not_true_eq_false, not_false_eq_true] <;> rfl
    exact ur_I (G := (fun _ _ => True)) (τ := (xp_connection σ x y).2.2) (r := (xp_connection σ x y).2.1) hC hK hX hS trivial (by rw [e9]) (by rw [e9]; rfl) rfl (by rw [e9]) d_U_connection_100
  · have c_1 := xs_b0 c_1
    refine lv_aload_n hx hb d_U_connection_12 rfl (lv_at hl 0 rfl) ?_
    refine lv_iconst (v := 1) hx hb d_U_connection_13 (by decide) ?_
    refine uk_iQ (rest := []) (c_U_raise l g o σ 0 rp n t b9 1) gd_U_U_raise hd_U_raise hC hK hX hS (fun _ h => h) (by omega) (by omega) (by omega) (by omega) hl.1 rfl (Nat.le_of_ble_eq_true rfl) d_U_connection_14 (fun rp9 t b9 H locs hG9 hX hS _ _ => ?_)
    rw [hG9.1] at hX
    have e9 : xp_connection σ x y = (1, 0, σ) := by simp only [xp_connection, xs_b, c_1, xs_cn_scn, xs_nx_scn, xs_up_scn, xs_lt_scn, xs_q_scn, xs_ac_scn, xs_mk_scn, xs_ac_sac, xs_sac_sac, xs_nx_sg, xs_up_sg, xs_lt_sg, xs_cn_sg, xs_q_sg, if_true, if_false, reduceIte, Bool.false_eq_true, Bool.true_eq_false, and_true, true_and, and_false, false_and, or_true, true_or, or_false, false_or, not_true_eq_false, not_false_eq_true] <;> rfl
    exact ur_I (G := (fun _ _ => True)) (τ := (xp_connection σ x y).2.2) (r := (xp_connection σ x y).2.1) hC hK hX hS trivial (by rw [e9]) (by rw [e9]; rfl) rfl (by rw [e9]) d_U_connection_17
set_option maxHeartbeats 4000000 in
set_option maxRecDepth 100000 in
theorem c_U_count (l : Launch) (g : xw_G) (o : Nat) (σ : xs_S) (th rp : Int32) (n : Nat) (t : xu_X) (a : xu_M) (x : Int32) : uc_Q l y_U_count (Cond.code y_U_count b_U_count 4 (some .int)) g o σ th rp n t a ((xp_count σ x).2.1) ((xp_count σ x).2.2) (nI (xp_count σ x).1) n (fun _ _ => True) [.ref o, .int x] 1 22 := by
  refine uh_Q (own := R_U) (by decide) rfl (Nat.le_of_ble_eq_true rfl) ?_
  intro p e R s m below meth c ls hRf hRl hC hK hX hl
  obtain ⟨hx, hb, hml, hr, hown, hts, hlk⟩ := id hC
  have hS : va_S (xu_W o) s.heap s.heap [] := va_S.rf
  have hl : lv_has ls 4 [(0, .ref o), (1, .int x)] := hl
  refine lv_aload_n hx hb d_U_count_0 rfl (lv_at hl 0 rfl) ?_
  refine lv_iconst (v := 0) hx hb d_U_count_1 (by decide) ?_
  refine uo_put (sc' := xu_num σ 0 rp n t) hx hb hts hown hK hX.1 hX.2.1 hS 0 (by decide) lk_U_87 rfl rfl rfl rfl rfl d_U_count_2 (fun H locs hO hA hS => ?_)
  have hX : xu_R g o σ 0 rp n t a H := ⟨hO, hA, hX.2.2.1, hX.2.2.2.1, hX.2.2.2.2⟩
  refine lv_iconst (v := 0) hx hb d_U_count_5 (by decide) ?_
  refine lv_istore_n (lv' := [(2, .int 0), (0, .ref o), (1, .int x)]) hx hb d_U_count_6 rfl hl (by decide) rfl (fun ls hl => ?_)
  refine lv_iload_n hx hb d_U_count_7 rfl (lv_at hl 2 rfl) ?_
  by_cases c_1 : x = 0
  · refine lv_tableIn (tgt := 40) (off := 32) hx hb d_U_count_8 (by rw [c_1]; decide) (by rw [c_1]; decide) (by rw [c_1]; rfl) (by decide) ?_
    refine lv_iconst (v := 0) hx hb d_U_count_40 (by decide) ?_
    refine lv_istore_n (lv' := [(3, .int 0), (2, .int 0), (0, .ref o), (1, .int x)]) hx hb d_U_count_41 rfl hl (by decide) rfl (fun ls hl => ?_)
    have loop42 : ∀ (n9 i : Nat) (g0 : Int32) (rp9 : Int32) (t : xu_X) (b9 : xu_M) (H : Heap) (locs : List Loc) (ls : Array Slot), i + n9 = 8 → xu_R g o σ 0 rp9 n t b9 H → va_S (xu_W o) s.heap H locs → lv_has ls 4 [(3, .int (nI i)), (2, .int g0), (0, .ref o), (1, .int x)] → xm_kall n9 i σ g0 = xm_kall 8 0 σ 0 → W p l e R s m ([.ref o, .int x] : List Value).toArray below meth c H locs 0 0 (MQ below (xb_Q (fun v T => v = .int ((xp_count σ x).2.1) ∧ ∃ rp9 t9 b9, (fun _ _ => True) rp9 b9 ∧ uw_W g o ((xp_count σ x).2.2) (nI (xp_count σ x).1) rp9 n t9 b9 T) (xu_W o)) ([.ref o, .int x] : List Value).toArray s 0 0 (xu_W o)) (F0 m 42 ls []) := by
      intro n9
      induction n9 with
      | zero =>
        intro i g0 rp9 t b9 H locs ls hi hX hS hl hres 
        have e9 : i = 8 := by omega
        refine lv_iload_n hx hb d_U_count_42 rfl (lv_at hl 0 rfl) ?_
        refine lv_bipush (v := 8) hx hb d_U_count_43 (by decide) ?_
        refine lv_icmp_ge (tgt := 63) hx hb d_U_count_45 (by decide) (fun c_2 => ?_) (fun c_2 => absurd (nI_le (show 8 ≤ i by omega) (show i < 2 ^ 31 by omega)) c_2)
        refine lv_iload_n hx hb d_U_count_63 rfl (lv_at hl 1 rfl) ?_
        have e9 : xp_count σ x = (0, g0, σ) := by unfold xp_count; rw [if_pos c_1]; exact congrArg (fun q => ((0 : Nat), q, σ)) hres.symm
        exact ur_I (G := (fun _ _ => True)) (τ := (xp_count σ x).2.2) (r := (xp_count σ x).2.1) hC hK hX hS trivial (by rw [e9]) (by rw [e9]; rfl) rfl (by rw [e9]) d_U_count_64
      | succ n9 ihn9 =>
        intro i g0 rp9 t b9 H locs ls hi hX hS hl hres 
        refine lv_iload_n hx hb d_U_count_42 rfl (lv_at hl 0 rfl) ?_
        refine lv_bipush (v := 8) hx hb d_U_count_43 (by decide) ?_
        refine lv_icmp_ge (tgt := 63) hx hb d_U_count_45 (by decide) (fun c_3 => absurd c_3 (nI_ge (show i < 8 by omega) (by decide))) (fun c_3 => ?_)
        refine lv_iload_n hx hb d_U_count_48 rfl (lv_at hl 1 rfl) ?_
        refine lv_aload_n hx hb d_U_count_49 rfl (lv_at hl 2 rfl) ?_
        refine xb_get (v := .ref (o + 18)) hx hb hts xw_in_U hown hK (ci := xi_U) rfl 19 (by decide) (hts _ lk_U_62) rfl hX.1 rfl d_U_count_50 ?_
        refine lv_iload_n hx hb d_U_count_53 rfl (lv_at hl 0 rfl) ?_
        refine ug_i (v := nI (xs_q σ i).length) hx hb hK hX.2.1 18 (by decide) (by decide) rfl rfl (vp_in_nI (show i < 8 by omega) (by decide)) ((by rw [(xs_ix_nI (show i < 2 ^ 31 by omega))]; exact (hX.2.2.1.2.2.2.2.1 i ((xs_ix_nI (show i < 2 ^ 31 by omega)) ▸ xs_ixl (vp_in_nI (show i < 8 by omega) (by decide)))).1)) d_U_count_54 ?_
        refine lv_iadd hx hb d_U_count_55 ?_
        refine lv_istore_n (lv' := [(2, .int (g0 + (nI (xs_q σ i).length))), (3, .int (nI i)), (0, .ref o), (1, .int x)]) hx hb d_U_count_56 rfl hl (by decide) rfl (fun ls hl => ?_)
        refine lv_iinc (v := nI (i + 1)) (lv' := [(3, .int (nI (i + 1))), (2, .int (g0 + (nI (xs_q σ i).length))), (0, .ref o), (1, .int x)]) hx hb d_U_count_57 hl (k := 1) rfl (nI_1 _) (by decide) rfl (fun ls hl => ?_)
        refine lv_goto (tgt := 42) hx hb d_U_count_60 (by decide) ?_
        exact ihn9 (i + 1) (g0 + (nI (xs_q σ i).length)) rp9 _ _ _ _ ls (by omega) hX hS (lv_sub hl [0, 1, 2, 3] rfl) (by rw [← hres]; simp only [xm_kall, if_true, if_false, reduceIte, Bool.false_eq_true, Bool.true_eq_false, and_true, true_and, and_false, false_and, or_true, true_or, or_false, false_or, not_true_eq_false, not_false_eq_true] <;> rfl) 
    exact loop42 8 0 0 rp _ _ _ _ ls (by omega) hX hS (lv_sub hl [0, 1, 2, 3] rfl) rfl 
  by_cases c_4 : x = 1
  · refine lv_tableIn (tgt := 65) (off := 57) hx hb d_U_count_8 (by rw [c_4]; decide) (by rw [c_4]; decide) (by rw [c_4]; rfl) (by decide) ?_
    refine lv_aload_n hx hb d_U_count_65 rfl (lv_at hl 1 rfl) ?_
    refine xb_get (v := .int (nI (xs_q σ 14).length)) hx hb hts xw_in_U hown hK (ci := xi_U) rfl 26 (by decide) (hts _ lk_U_126) rfl hX.1 rfl d_U_count_66 ?_
    have e9 : xp_count σ x = (0, nI (xs_q σ 14).length, σ) := by simp only [xp_count, xs_b, c_1, c_4, xs_cn_scn, xs_nx_scn, xs_up_scn, xs_lt_scn, xs_q_scn, xs_ac_scn, xs_mk_scn, xs_ac_sac, xs_sac_sac, xs_nx_sg, xs_up_sg, xs_lt_sg, xs_cn_sg, xs_q_sg, if_true, if_false, reduceIte, Bool.false_eq_true, Bool.true_eq_false, and_true, true_and, and_false, false_and, or_true, true_or, or_false, false_or, not_true_eq_false, not_false_eq_true] <;> rfl
    exact ur_I (G := (fun _ _ => True)) (τ := (xp_count σ x).2.2) (r := (xp_count σ x).2.1) hC hK hX hS trivial (by rw [e9]) (by rw [e9]; rfl) rfl (by rw [e9]) d_U_count_69
  by_cases c_5 : x = 2
  · refine lv_tableIn (tgt := 70) (off := 62) hx hb d_U_count_8 (by rw [c_5]; decide) (by rw [c_5]; decide) (by rw [c_5]; rfl) (by decide) ?_
    refine lv_aload_n hx hb d_U_count_70 rfl (lv_at hl 1 rfl) ?_
    refine xb_get (v := .int (xm_lall 6 0 σ 0)) hx hb hts xw_in_U hown hK (ci := xi_U) rfl 28 (by decide) (hts _ lk_U_95) rfl hX.1 rfl d_U_count_71 ?_
    have e9 : xp_count σ x = (0, xm_lall 6 0 σ 0, σ) := by simp only [xp_count, xs_b, c_1, c_4, c_5, xs_cn_scn, xs_nx_scn, xs_up_scn, xs_lt_scn, xs_q_scn, xs_ac_scn, xs_mk_scn, xs_ac_sac, xs_sac_sac, xs_nx_sg, xs_up_sg, xs_lt_sg, xs_cn_sg, xs_q_sg, if_true, if_false, reduceIte, Bool.false_eq_true, Bool.true_eq_false, and_true, true_and, and_false, false_and, or_true, true_or, or_false, false_or, not_true_eq_false, not_false_eq_true] <;> rfl
    exact ur_I (G := (fun _ _ => True)) (τ := (xp_count σ x).2.2) (r := (xp_count σ x).2.1) hC hK hX hS trivial (by rw [e9]) (by rw [e9]; rfl) rfl (by rw [e9]) d_U_count_74
  by_cases c_6 : x = 3
  · refine lv_tableIn (tgt := 75) (off := 67) hx hb d_U_count_8 (by rw [c_6]; decide) (by rw [c_6]; decide) (by rw [c_6]; rfl) (by decide) ?_
    refine lv_aload_n hx hb d_U_count_75 rfl (lv_at hl 1 rfl) ?_
    refine xb_get (v := .int (xs_b (xs_up σ))) hx hb hts xw_in_U hown hK (ci := xi_U) rfl 27 (by decide) (hts _ lk_U_83) rfl hX.1 rfl d_U_count_76 ?_
    refine lv_if_eq (tgt := 86) hx hb d_U_count_79 (by decide) (fun c_7 => ?_) (fun c_7 => ?_)
    · have c_7 := xs_b0 c_7
      refine lv_iconst (v := 0) hx hb d_U_count_86 (by decide) ?_
      have e9 : xp_count σ x = (0, 0, σ) := by simp only [xp_count, xs_b, c_1, c_4, c_5, c_6, c_7, xs_cn_scn, xs_nx_scn, xs_up_scn, xs_lt_scn, xs_q_scn, xs_ac_scn, xs_mk_scn, xs_ac_sac, xs_sac_sac, xs_nx_sg, xs_up_sg, xs_lt_sg, xs_cn_sg, xs_q_sg, if_true, if_false, reduceIte, Bool.false_eq_true, Bool.true_eq_false, and_true, true_and, and_false, false_and, or_true, true_or, or_false, false_or, not_true_eq_false, not_false_eq_true] <;> rfl
      exact ur_I (G := (fun _ _ => True)) (τ := (xp_count σ x).2.2) (r := (xp_count σ x).2.1) hC hK hX hS trivial (by rw [e9]) (by rw [e9]; rfl) rfl (by rw [e9]) d_U_count_87
    · have c_7 := xs_b1 c_7
      refine lv_iconst (v := 1) hx hb d_U_count_82 (by decide) ?_
      refine lv_goto (tgt := 87) hx hb d_U_count_83 (by decide) ?_
      have e9 : xp_count σ x = (0, 1, σ) := by simp only [xp_count, xs_b, c_1, c_4, c_5, c_6, c_7, xs_cn_scn, xs_nx_scn, xs_up_scn, xs_lt_scn, xs_q_scn, xs_ac_scn, xs_mk_scn, xs_ac_sac, xs_sac_sac, xs_nx_sg, xs_up_sg, xs_lt_sg, xs_cn_sg, xs_q_sg, if_true, if_false, reduceIte, Bool.false_eq_true, Bool.true_eq_false, and_true, true_and, and_false, false_and, or_true, true_or, or_false, false_or, not_true_eq_false, not_false_eq_true] <;> rfl
      exact ur_I (G := (fun _ _ => True)) (τ := (xp_count σ x).2.2) (r := (xp_count σ x).2.1) hC hK hX hS trivial (by rw [e9]) (by rw [e9]; rfl) rfl (by rw [e9]) d_U_count_87
  refine lv_tableOut (tgt := 88) hx hb d_U_count_8 (by have q0 := lv_neT c_1 (a := 0) rfl; have q1 := lv_neT c_4 (a := 1) rfl; have q2 := lv_neT c_5 (a := 2) rfl; have q3 := lv_neT c_6 (a := 3) rfl; omega) (by decide) ?_
  refine lv_iload_n hx hb d_U_count_88 rfl (lv_at hl 2 rfl) ?_
  refine lv_iconst (v := 4) hx hb d_U_count_89 (by decide) ?_
  refine lv_bipush (v := 11) hx hb d_U_count_90 (by decide) ?_
  refine uk_sQ (rest := []) (c_U_in l g o σ 0 rp n t a x 4 11) gd_U_U_in hd_U_in hC hK hX hS (fun _ h => h) (by omega) (by omega) (by omega) (by omega) hl.1 rfl (Nat.le_of_ble_eq_true rfl) d_U_count_92 (fun rp9 t b9 H locs hG9 hX hS _ _ => ?_)
  rw [hG9.1] at hX
  refine lv_if_eq (tgt := 109) hx hb d_U_count_95 (by decide) (fun c_8 => ?_) (fun c_8 => ?_)
  · have c_8 := xs_b0 c_8
    refine lv_aload_n hx hb d_U_count_109 rfl (lv_at hl 1 rfl) ?_
    refine lv_iconst (v := 1) hx hb d_U_count_110 (by decide) ?_
    refine uk_iQ (rest := []) (c_U_raise l g o σ 0 rp n t b9 1) gd_U_U_raise hd_U_raise hC hK hX hS (fun _ h => h) (by omega) (by omega) (by omega) (by omega) hl.1 rfl (Nat.le_of_ble_eq_true rfl) d_U_count_111 (fun rp9 t b9 H locs hG9 hX hS _ _ => ?_)
    rw [hG9.1] at hX
    have e9 : xp_count σ x = (1, 0, σ) := by simp only [xp_count, xs_b, c_1, c_4, c_5, c_6, eq_false (xu_if c_8), eq_false (xu_ifl (b' := 12) (by decide) c_8), xs_cn_scn, xs_nx_scn, xs_up_scn, xs_lt_scn, xs_q_scn, xs_ac_scn, xs_mk_scn, xs_ac_sac, xs_sac_sac, xs_nx_sg, xs_up_sg, xs_lt_sg, xs_cn_sg, xs_q_sg, if_true, if_false, reduceIte, Bool.false_eq_true, Bool.true_eq_false, and_true, true_and, and_false, false_and, or_true, true_or, or_false, false_or, not_true_eq_false, not_false_eq_true] <;> rfl
    exact ur_I (G := (fun _ _ => True)) (τ := (xp_count σ x).2.2) (r := (xp_count σ x).2.1) hC hK hX hS trivial (by rw [e9]) (by rw [e9]; rfl) rfl (by rw [e9]) d_U_count_114
  · have c_8 := xs_b1 c_8
    have hx4 := xm_x4 (xu_it c_8).1 (xu_itl (b' := 12) (by decide) c_8)
    refine lv_aload_n hx hb d_U_count_98 rfl (lv_at hl 1 rfl) ?_
    refine xb_get (v := .ref (o + 18)) hx hb hts xw_in_U hown hK (ci := xi_U) rfl 19 (by decide) (hts _ lk_U_62) rfl hX.1 rfl d_U_count_99 ?_
    refine lv_iload_n hx hb d_U_count_102 rfl (lv_at hl 2 rfl) ?_
    refine lv_iconst (v := 4) hx hb d_U_count_103 (by decide) ?_
    refine lv_isub hx hb d_U_count_104 ?_
    refine ug_i (v := nI (xs_q σ (xs_ix (x - 4))).length) hx hb hK hX.2.1 18 (by decide) (by decide) rfl rfl hx4 ((hX.2.2.1.2.2.2.2.1 (xs_ix (x - 4)) (xs_ixl hx4)).1) d_U_count_105 ?_
    refine lv_goto (tgt := 114) hx hb d_U_count_106 (by decide) ?_
    have e9 : xp_count σ x = (0, nI (xs_q σ (xs_ix (x - 4))).length, σ) := by simp only [xp_count, xs_b, c_1, c_4, c_5, c_6, (xu_it c_8).1, (xu_it c_8).2, (xu_itl (b' := 12) (by decide) c_8), xs_cn_scn, xs_nx_scn, xs_up_scn, xs_lt_scn, xs_q_scn, xs_ac_scn, xs_mk_scn, xs_ac_sac, xs_sac_sac, xs_nx_sg, xs_up_sg, xs_lt_sg, xs_cn_sg, xs_q_sg, if_true, if_false, reduceIte, Bool.false_eq_true, Bool.true_eq_false, and_true, true_and, and_false, false_and, or_true, true_or, or_false, false_or, not_true_eq_false, not_false_eq_true] <;> rfl
    exact ur_I (G := (fun _ _ => True)) (τ := (xp_count σ x).2.2) (r := (xp_count σ x).2.1) hC hK hX hS trivial (by rw [e9]) (by rw [e9]; rfl) rfl (by rw [e9]) d_U_count_114
set_option maxHeartbeats 4000000 in
set_option maxRecDepth 100000 in
theorem c_U_taken (l : Launch) (g : xw_G) (o : Nat) (σ : xs_S) (th rp : Int32) (n : Nat) (t : xu_X) (a : xu_M) (x : Int32) : uc_Q l y_U_taken (Cond.code y_U_taken b_U_taken 2 (some .int)) g o σ th rp n t a ((xp_taken σ x).2.1) ((xp_taken σ x).2.2) (if (xp_taken σ x).1 = 4 then 1 else if (xp_taken σ x).1 = 1 then 2 else 0) n (fun _ _ => True) [.ref o, .int x] 1 21 := by
  refine uh_Q (own := R_U) (by decide) rfl (Nat.le_of_ble_eq_true rfl) ?_
  intro p e R s m below meth c ls hRf hRl hC hK hX hl
  obtain ⟨hx, hb, hml, hr, hown, hts, hlk⟩ := id hC
  have hS : va_S (xu_W o) s.heap s.heap [] := va_S.rf
  have hl : lv_has ls 2 [(0, .ref o), (1, .int x)] := hl
  refine lv_aload_n hx hb d_U_taken_0 rfl (lv_at hl 0 rfl) ?_
  refine lv_iconst (v := 0) hx hb d_U_taken_1 (by decide) ?_
  refine uo_put (sc' := xu_num σ 0 rp n t) hx hb hts hown hK hX.1 hX.2.1 hS 0 (by decide) lk_U_87 rfl rfl rfl rfl rfl d_U_taken_2 (fun H locs hO hA hS => ?_)
  have hX : xu_R g o σ 0 rp n t a H := ⟨hO, hA, hX.2.2.1, hX.2.2.2.1, hX.2.2.2.2⟩
  refine lv_aload_n hx hb d_U_taken_5 rfl (lv_at hl 0 rfl) ?_
  refine xb_get (v := .int (xs_b (xs_lt σ).isSome)) hx hb hts xw_in_U hown hK (ci := xi_U) rfl 30 (by decide) (hts _ lk_U_173) rfl hX.1 rfl d_U_taken_6 ?_
  refine lv_if_ne (tgt := 18) hx hb d_U_taken_9 (by decide) (fun c_1 => ?_) (fun c_1 => ?_)
  · have c_1 := xs_b1 c_1
    obtain ⟨z9, hz9⟩ := xu_some c_1
    refine lv_iload_n hx hb d_U_taken_18 rfl (lv_at hl 1 rfl) ?_
    by_cases c_2 : x = 0
    · refine lv_tableIn (tgt := 44) (off := 25) hx hb d_U_taken_19 (by rw [c_2]; decide) (by rw [c_2]; decide) (by rw [c_2]; rfl) (by decide) ?_
      refine lv_aload_n hx hb d_U_taken_44 rfl (lv_at hl 0 rfl) ?_
      refine xb_get (v := .int t.1) hx hb hts xw_in_U hown hK (ci := xi_U) rfl 31 (by decide) (hts _ lk_U_176) rfl hX.1 rfl d_U_taken_45 ?_
      have e9 : xp_taken σ x = (0, t.1, σ) := by unfold xp_taken; rw [hz9]; simp only [c_2, if_true, if_false, reduceIte, Bool.false_eq_true, Bool.true_eq_false, and_true, true_and, and_false, false_and, or_true, true_or, or_false, false_or, not_true_eq_false, not_false_eq_true] <;> first | rfl | (rw [hX.2.2.2.1 z9 hz9] <;> rfl)
      exact ur_I (G := (fun _ _ => True)) (τ := (xp_taken σ x).2.2) (r := (xp_taken σ x).2.1) hC hK hX hS trivial (by rw [e9]) (by rw [e9]; rfl) rfl (by rw [e9]) d_U_taken_48
    by_cases c_3 : x = 1
    · refine lv_tableIn (tgt := 49) (off := 30) hx hb d_U_taken_19 (by rw [c_3]; decide) (by rw [c_3]; decide) (by rw [c_3]; rfl) (by decide) ?_
      refine lv_aload_n hx hb d_U_taken_49 rfl (lv_at hl 0 rfl) ?_
      refine xb_get (v := .int t.2.1) hx hb hts xw_in_U hown hK (ci := xi_U) rfl 32 (by decide) (hts _ lk_U_179) rfl hX.1 rfl d_U_taken_50 ?_
      have e9 : xp_taken σ x = (0, t.2.1, σ) := by unfold xp_taken; rw [hz9]; simp only [c_2, c_3, if_true, if_false, reduceIte, Bool.false_eq_true, Bool.true_eq_false, and_true, true_and, and_false, false_and, or_true, true_or, or_false, false_or, not_true_eq_false, not_false_eq_true] <;> first | rfl | (rw [hX.2.2.2.1 z9 hz9] <;> rfl)
      exact ur_I (G := (fun _ _ => True)) (τ := (xp_taken σ x).2.2) (r := (xp_taken σ x).2.1) hC hK hX hS trivial (by rw [e9]) (by rw [e9]; rfl) rfl (by rw [e9]) d_U_taken_53
    by_cases c_4 : x = 2
    · refine lv_tableIn (tgt := 54) (off := 35) hx hb d_U_taken_19 (by rw [c_4]; decide) (by rw [c_4]; decide) (by rw [c_4]; rfl) (by decide) ?_
      refine lv_aload_n hx hb d_U_taken_54 rfl (lv_at hl 0 rfl) ?_
      refine xb_get (v := .int t.2.2) hx hb hts xw_in_U hown hK (ci := xi_U) rfl 33 (by decide) (hts _ lk_U_182) rfl hX.1 rfl d_U_taken_55 ?_
      have e9 : xp_taken σ x = (0, t.2.2, σ) := by unfold xp_taken; rw [hz9]; simp only [c_2, c_3, c_4, if_true, if_false, reduceIte, Bool.false_eq_true, Bool.true_eq_false, and_true, true_and, and_false, false_and, or_true, true_or, or_false, false_or, not_true_eq_false, not_false_eq_true] <;> first | rfl | (rw [hX.2.2.2.1 z9 hz9] <;> rfl)
      exact ur_I (G := (fun _ _ => True)) (τ := (xp_taken σ x).2.2) (r := (xp_taken σ x).2.1) hC hK hX hS trivial (by rw [e9]) (by rw [e9]; rfl) rfl (by rw [e9]) d_U_taken_58
    refine lv_tableOut (tgt := 59) hx hb d_U_taken_19 (by have q0 := lv_neT c_2 (a := 0) rfl; have q1 := lv_neT c_3 (a := 1) rfl; have q2 := lv_neT c_4 (a := 2) rfl; omega) (by decide) ?_
    refine lv_aload_n hx hb d_U_taken_59 rfl (lv_at hl 0 rfl) ?_
    refine lv_iconst (v := 2) hx hb d_U_taken_60 (by decide) ?_
    refine uk_iQ (rest := []) (c_U_raise l g o σ 0 rp n t a 2) gd_U_U_raise hd_U_raise hC hK hX hS (fun _ h => h) (by omega) (by omega) (by omega) (by omega) hl.1 rfl (Nat.le_of_ble_eq_true rfl) d_U_taken_61 (fun rp9 t b9 H locs hG9 hX hS _ _ => ?_)
    rw [hG9.1] at hX
    have e9 : xp_taken σ x = (1, 0, σ) := by unfold xp_taken; rw [hz9]; simp only [c_2, c_3, c_4, if_true, if_false, reduceIte, Bool.false_eq_true, Bool.true_eq_false, and_true, true_and, and_false, false_and, or_true, true_or, or_false, false_or, not_true_eq_false, not_false_eq_true] <;> first | rfl | (rw [hX.2.2.2.1 z9 hz9] <;> rfl)
    exact ur_I (G := (fun _ _ => True)) (τ := (xp_taken σ x).2.2) (r := (xp_taken σ x).2.1) hC hK hX hS trivial (by rw [e9]) (by rw [e9]; rfl) rfl (by rw [e9]) d_U_taken_64
  · have c_1 := xs_b0 c_1
    refine lv_aload_n hx hb d_U_taken_12 rfl (lv_at hl 0 rfl) ?_
    refine lv_iconst (v := 1) hx hb d_U_taken_13 (by decide) ?_
    refine uk_iQ (rest := []) (c_U_raise l g o σ 0 rp n t a 1) gd_U_U_raise hd_U_raise hC hK hX hS (fun _ h => h) (by omega) (by omega) (by omega) (by omega) hl.1 rfl (Nat.le_of_ble_eq_true rfl) d_U_taken_14 (fun rp9 t b9 H locs hG9 hX hS _ _ => ?_)
    rw [hG9.1] at hX
    have e9 : xp_taken σ x = (4, 0, σ) := by unfold xp_taken; rw [xu_none c_1]
    exact ur_I (G := (fun _ _ => True)) (τ := (xp_taken σ x).2.2) (r := (xp_taken σ x).2.1) hC hK hX hS trivial (by rw [e9]) (by rw [e9]; rfl) rfl (by rw [e9]) d_U_taken_17
set_option maxHeartbeats 4000000 in
set_option maxRecDepth 100000 in
theorem c_U_bind (l : Launch) (g : xw_G) (o : Nat) (σ : xs_S) (th rp : Int32) (n : Nat) (t : xu_X) (a : xu_M) (x y : Int32) (hwf : xm_wf σ) (hcw : xu_cw (xs_cn σ)) : uc_Q l y_U_bind (Cond.code y_U_bind b_U_bind 5 (some .int)) g o σ th rp n t a ((xp_bind σ x y).2.1) ((xp_bind σ x y).2.2) (nI (xp_bind σ x y).1) n (fun _ _ => True) [.ref o, .int x, .int y] 7 178 := by
  refine uh_Q (own := R_U) (by decide) rfl (Nat.le_of_ble_eq_true rfl) ?_
  intro p e R s m below meth c ls hRf hRl hC hK hX hl
  obtain ⟨hx, hb, hml, hr, hown, hts, hlk⟩ := id hC
  have hS : va_S (xu_W o) s.heap s.heap [] := va_S.rf
  have hl : lv_has ls 5 [(0, .ref o), (1, .int x), (2, .int y)] := hl
  refine lv_aload_n hx hb d_U_bind_0 rfl (lv_at hl 0 rfl) ?_
  refine lv_iconst (v := 0) hx hb d_U_bind_1 (by decide) ?_
  refine uo_put (sc' := xu_num σ 0 rp n t) hx hb hts hown hK hX.1 hX.2.1 hS 0 (by decide) lk_U_87 rfl rfl rfl rfl rfl d_U_bind_2 (fun H locs hO hA hS => ?_)
  have hX : xu_R g o σ 0 rp n t a H := ⟨hO, hA, hX.2.2.1, hX.2.2.2.1, hX.2.2.2.2⟩
  refine lv_iload_n hx hb d_U_bind_5 rfl (lv_at hl 1 rfl) ?_
  refine uk_sQ (rest := []) (c_U_isConnection l g o σ 0 rp n t a x) gd_U_U_isConnection hd_U_isConnection hC hK hX hS (fun _ h => h) (by omega) (by omega) (by omega) (by omega) hl.1 rfl (Nat.le_of_ble_eq_true rfl) d_U_bind_6 (fun rp9 t b9 H locs hG9 hX hS _ _ => ?_)
  rw [hG9.1] at hX
  refine lv_if_eq (tgt := 21) hx hb d_U_bind_9 (by decide) (fun c_1 => ?_) (fun c_1 => ?_)
  · have c_1 := xs_b0 c_1
    refine lv_aload_n hx hb d_U_bind_21 rfl (lv_at hl 0 rfl) ?_
    refine lv_iconst (v := 1) hx hb d_U_bind_22 (by decide) ?_
    refine uk_iQ (rest := []) (c_U_raise l g o σ 0 rp n t b9 1) gd_U_U_raise hd_U_raise hC hK hX hS (fun _ h => h) (by omega) (by omega) (by omega) (by omega) hl.1 rfl (Nat.le_of_ble_eq_true rfl) d_U_bind_23 (fun rp9 t b9 H locs hG9 hX hS _ _ => ?_)
    rw [hG9.1] at hX
    have e9 : xp_bind σ x y = (1, 0, σ) := by simp only [xp_bind, xp_bind1, c_1, xs_cn_scn, xs_nx_scn, xs_up_scn, xs_lt_scn, xs_q_scn, xs_ac_scn, xs_mk_scn, xs_ac_sac, xs_sac_sac, xs_nx_sg, xs_up_sg, xs_lt_sg, xs_cn_sg, xs_q_sg, if_true, if_false, reduceIte, Bool.false_eq_true, Bool.true_eq_false, and_true, true_and, and_false, false_and, or_true, true_or, or_false, false_or, not_true_eq_false, not_false_eq_true] <;> rfl
    exact ur_I (G := (fun _ _ => True)) (τ := (xp_bind σ x y).2.2) (r := (xp_bind σ x y).2.1) hC hK hX hS trivial (by rw [e9]) (by rw [e9]; rfl) rfl (by rw [e9]) d_U_bind_26
  · have c_1 := xs_b1 c_1
    refine lv_iload_n hx hb d_U_bind_12 rfl (lv_at hl 2 rfl) ?_
    refine lv_iconst (v := 0) hx hb d_U_bind_13 (by decide) ?_
    refine lv_iconst (v := 2) hx hb d_U_bind_14 (by decide) ?_
    refine uk_sQ (rest := []) (c_U_in l g o σ 0 rp n t b9 y 0 2) gd_U_U_in hd_U_in hC hK hX hS (fun _ h => h) (by omega) (by omega) (by omega) (by omega) hl.1 rfl (Nat.le_of_ble_eq_true rfl) d_U_bind_15 (fun rp9 t b9 H locs hG9 hX hS _ _ => ?_)
    rw [hG9.1] at hX
    refine lv_if_ne (tgt := 27) hx hb d_U_bind_18 (by decide) (fun c_2 => ?_) (fun c_2 => ?_)
    · have c_2 := xs_b1 c_2
      refine lv_aload_n hx hb d_U_bind_27 rfl (lv_at hl 0 rfl) ?_
      refine xb_get (v := .ref (o + 4)) hx hb hts xw_in_U hown hK (ci := xi_U) rfl 4 (by decide) (hts _ lk_U_20) rfl hX.1 rfl d_U_bind_28 ?_
      refine lv_iload_n hx hb d_U_bind_31 rfl (lv_at hl 1 rfl) ?_
      refine ug_i (v := (xs_cn σ (xs_ix x)).1) hx hb hK hX.2.1 4 (by decide) (by decide) rfl rfl (xm_in6t c_1) ((hX.2.2.1.2.2.1 (xs_ix x) (xs_ixl (xm_in6t c_1))).1) d_U_bind_32 ?_
      refine lv_iconst (v := 3) hx hb d_U_bind_33 (by decide) ?_
      refine lv_icmp_eq (tgt := 43) hx hb d_U_bind_34 (by decide) (fun c_3 => ?_) (fun c_3 => ?_)
      · refine lv_iconst (v := 0) hx hb d_U_bind_43 (by decide) ?_
        refine lv_istore_n (lv' := [(3, .int 0), (0, .ref o), (1, .int x), (2, .int y)]) hx hb d_U_bind_44 rfl hl (by decide) rfl (fun ls hl => ?_)
        refine lv_iconst (v := 0) hx hb d_U_bind_45 (by decide) ?_
        refine lv_istore (lv' := [(4, .int 0), (3, .int 0), (0, .ref o), (1, .int x), (2, .int y)]) hx hb d_U_bind_46 hl (by decide) rfl (fun ls hl => ?_)
        have loop48 : ∀ (n9 d : Nat) (τ : xs_S) (g0 : Int32) (rp9 : Int32) (t : xu_X) (b9 : xu_M) (H : Heap) (locs : List Loc) (ls : Array Slot), d + n9 = 6 → xu_R g o τ 0 rp9 n t b9 H → va_S (xu_W o) s.heap H locs → lv_has ls 5 [(4, .int (nI d)), (3, .int g0), (0, .ref o), (1, .int x), (2, .int y)] → xu_bl n9 d τ (xs_ix x) y g0 = xu_bl 6 0 σ (xs_ix x) y 0 → (∀ c, c < 6 → (xs_cn τ c).2.2.2.2.2 = true → vp_in (xs_cn τ c).2.1 8) → W p l e R s m ([.ref o, .int x, .int y] : List Value).toArray below meth c H locs 0 0 (MQ below (xb_Q (fun v T => v = .int ((xp_bind σ x y).2.1) ∧ ∃ rp9 t9 b9, (fun _ _ => True) rp9 b9 ∧ uw_W g o ((xp_bind σ x y).2.2) (nI (xp_bind σ x y).1) rp9 n t9 b9 T) (xu_W o)) ([.ref o, .int x, .int y] : List Value).toArray s 0 0 (xu_W o)) (F0 m 48 ls []) := by
          intro n9
          induction n9 with
          | zero =>
            intro d τ g0 rp9 t b9 H locs ls hi hX hS hl hres hav9
            have e9 : d = 6 := by omega
            refine lv_iload hx hb d_U_bind_48 (lv_at hl 0 rfl) ?_
            refine lv_bipush (v := 6) hx hb d_U_bind_50 (by decide) ?_
            refine lv_icmp_ge (tgt := 110) hx hb d_U_bind_52 (by decide) (fun c_4 => ?_) (fun c_4 => absurd (nI_le (show 6 ≤ d by omega) (show d < 2 ^ 31 by omega)) c_4)
            refine lv_aload_n hx hb d_U_bind_110 rfl (lv_at hl 2 rfl) ?_
            refine xb_get (v := .ref (o + 4)) hx hb hts xw_in_U hown hK (ci := xi_U) rfl 4 (by decide) (hts _ lk_U_20) rfl hX.1 rfl d_U_bind_111 ?_
            refine lv_iload_n hx hb d_U_bind_114 rfl (lv_at hl 3 rfl) ?_
            refine lv_iconst (v := 4) hx hb d_U_bind_115 (by decide) ?_
            refine up_i (σ' := xm_sst τ (xs_ix x) 4) hx hb hK hX hS 4 (by decide) (by decide) rfl rfl (xm_in6t c_1) d_U_bind_116 (hX.2.2.1.st (xs_ixl (xm_in6t c_1))) rfl rfl rfl (fun b9 H locs hF9 hX hS => ?_)
            refine lv_aload_n hx hb d_U_bind_117 rfl (lv_at hl 2 rfl) ?_
            refine xb_get (v := .ref (o + 6)) hx hb hts xw_in_U hown hK (ci := xi_U) rfl 6 (by decide) (hts _ lk_U_26) rfl hX.1 rfl d_U_bind_118 ?_
            refine lv_iload_n hx hb d_U_bind_121 rfl (lv_at hl 3 rfl) ?_
            refine lv_iload_n hx hb d_U_bind_122 rfl (lv_at hl 4 rfl) ?_
            refine up_i (σ' := xm_srs (xm_sst τ (xs_ix x) 4) (xs_ix x) y) hx hb hK hX hS 6 (by decide) (by decide) rfl rfl (xm_in6t c_1) d_U_bind_123 (hX.2.2.1.rs (xs_ixl (xm_in6t c_1))) rfl rfl rfl (fun b9 H locs hF9 hX hS => ?_)
            refine lv_iload_n hx hb d_U_bind_124 rfl (lv_at hl 1 rfl) ?_
            have e9 : xp_bind σ x y = (0, g0, xm_srs (xm_sst τ (xs_ix x) 4) (xs_ix x) y) := by have hb9 := xu_bl_ok (σ := σ) 6 (c := 0) (i := xs_ix x) (r := y) (by decide) (xs_ixl (xm_in6t c_1)) hcw c_3; rw [← hres] at hb9; simp only [xp_bind, c_1, c_3, (xu_it c_2).1, (xu_it c_2).2, (xu_itl (b' := 3) (by decide) c_2), if_true, if_false, reduceIte, Bool.false_eq_true, Bool.true_eq_false, and_true, true_and, and_false, false_and, or_true, true_or, or_false, false_or, not_true_eq_false, not_false_eq_true]; cases hbw : xm_bw 6 0 σ (xs_cn σ (xs_ix x)).2.1 y with | none => (rw [hbw] at hb9; cases hb9; rfl) | some k => (rw [hbw] at hb9; cases hb9; rfl)
            exact ur_I (G := (fun _ _ => True)) (τ := (xp_bind σ x y).2.2) (r := (xp_bind σ x y).2.1) hC hK hX hS trivial (by rw [e9]) (by rw [e9]; rfl) rfl (by rw [e9]) d_U_bind_125
          | succ n9 ihn9 =>
            intro d τ g0 rp9 t b9 H locs ls hi hX hS hl hres hav9
            refine lv_iload hx hb d_U_bind_48 (lv_at hl 0 rfl) ?_
            refine lv_bipush (v := 6) hx hb d_U_bind_50 (by decide) ?_
            refine lv_icmp_ge (tgt := 110) hx hb d_U_bind_52 (by decide) (fun c_5 => absurd c_5 (nI_ge (show d < 6 by omega) (by decide))) (fun c_5 => ?_)
            refine lv_aload_n hx hb d_U_bind_55 rfl (lv_at hl 2 rfl) ?_
            refine xb_get (v := .ref (o + 4)) hx hb hts xw_in_U hown hK (ci := xi_U) rfl 4 (by decide) (hts _ lk_U_20) rfl hX.1 rfl d_U_bind_56 ?_
            refine lv_iload hx hb d_U_bind_59 (lv_at hl 0 rfl) ?_
            refine ug_i (v := (xs_cn τ d).1) hx hb hK hX.2.1 4 (by decide) (by decide) rfl rfl (vp_in_nI (show d < 6 by omega) (by decide)) ((by rw [(xs_ix_nI (show d < 2 ^ 31 by omega))]; exact (hX.2.2.1.2.2.1 d ((xs_ix_nI (show d < 2 ^ 31 by omega)) ▸ xs_ixl (vp_in_nI (show d < 6 by omega) (by decide)))).1)) d_U_bind_61 ?_
            refine lv_iconst (v := 4) hx hb d_U_bind_62 (by decide) ?_
            refine lv_icmp_ne (tgt := 104) hx hb d_U_bind_63 (by decide) (fun c_6 => ?_) (fun c_6 => ?_)
            · refine lv_iinc (v := nI (d + 1)) (lv' := [(4, .int (nI (d + 1))), (3, .int g0), (0, .ref o), (1, .int x), (2, .int y)]) hx hb d_U_bind_104 hl (k := 0) rfl (nI_1 _) (by decide) rfl (fun ls hl => ?_)
              refine lv_goto (tgt := 48) hx hb d_U_bind_107 (by decide) ?_
              exact ihn9 (d + 1) τ g0 rp9 _ _ _ _ ls (by omega) hX hS (lv_sub hl [0, 1, 2, 3, 4] rfl) (by rw [← hres]; simp only [xu_bl, c_6, if_true, if_false, reduceIte, Bool.false_eq_true, Bool.true_eq_false, and_true, true_and, and_false, false_and, or_true, true_or, or_false, false_or, not_true_eq_false, not_false_eq_true] <;> rfl) hav9
            · refine lv_aload_n hx hb d_U_bind_66 rfl (lv_at hl 2 rfl) ?_
              refine xb_get (v := .ref (o + 5)) hx hb hts xw_in_U hown hK (ci := xi_U) rfl 5 (by decide) (hts _ lk_U_23) rfl hX.1 rfl d_U_bind_67 ?_
              refine lv_iload hx hb d_U_bind_70 (lv_at hl 0 rfl) ?_
              refine ug_i (v := (xs_cn τ d).2.1) hx hb hK hX.2.1 5 (by decide) (by decide) rfl rfl (vp_in_nI (show d < 6 by omega) (by decide)) ((by rw [(xs_ix_nI (show d < 2 ^ 31 by omega))]; exact (hX.2.2.1.2.2.1 d ((xs_ix_nI (show d < 2 ^ 31 by omega)) ▸ xs_ixl (vp_in_nI (show d < 6 by omega) (by decide)))).2.1)) d_U_bind_72 ?_
              refine lv_aload_n hx hb d_U_bind_73 rfl (lv_at hl 2 rfl) ?_
              refine xb_get (v := .ref (o + 5)) hx hb hts xw_in_U hown hK (ci := xi_U) rfl 5 (by decide) (hts _ lk_U_23) rfl hX.1 rfl d_U_bind_74 ?_
              refine lv_iload_n hx hb d_U_bind_77 rfl (lv_at hl 3 rfl) ?_
              refine ug_i (v := (xs_cn τ (xs_ix x)).2.1) hx hb hK hX.2.1 5 (by decide) (by decide) rfl rfl (xm_in6t c_1) ((hX.2.2.1.2.2.1 (xs_ix x) (xs_ixl (xm_in6t c_1))).2.1) d_U_bind_78 ?_
              refine lv_icmp_ne (tgt := 104) hx hb d_U_bind_79 (by decide) (fun c_7 => ?_) (fun c_7 => ?_)
              · refine lv_iinc (v := nI (d + 1)) (lv' := [(4, .int (nI (d + 1))), (3, .int g0), (0, .ref o), (1, .int x), (2, .int y)]) hx hb d_U_bind_104 hl (k := 0) rfl (nI_1 _) (by decide) rfl (fun ls hl => ?_)
                refine lv_goto (tgt := 48) hx hb d_U_bind_107 (by decide) ?_
                exact ihn9 (d + 1) τ g0 rp9 _ _ _ _ ls (by omega) hX hS (lv_sub hl [0, 1, 2, 3, 4] rfl) (by rw [← hres]; simp only [xu_bl, c_6, c_7, if_true, if_false, reduceIte, Bool.false_eq_true, Bool.true_eq_false, and_true, true_and, and_false, false_and, or_true, true_or, or_false, false_or, not_true_eq_false, not_false_eq_true] <;> rfl) hav9
              · refine lv_aload_n hx hb d_U_bind_82 rfl (lv_at hl 2 rfl) ?_
                refine xb_get (v := .ref (o + 6)) hx hb hts xw_in_U hown hK (ci := xi_U) rfl 6 (by decide) (hts _ lk_U_26) rfl hX.1 rfl d_U_bind_83 ?_
                refine lv_iload hx hb d_U_bind_86 (lv_at hl 0 rfl) ?_
                refine ug_i (v := (xs_cn τ d).2.2.1) hx hb hK hX.2.1 6 (by decide) (by decide) rfl rfl (vp_in_nI (show d < 6 by omega) (by decide)) ((by rw [(xs_ix_nI (show d < 2 ^ 31 by omega))]; exact (hX.2.2.1.2.2.1 d ((xs_ix_nI (show d < 2 ^ 31 by omega)) ▸ xs_ixl (vp_in_nI (show d < 6 by omega) (by decide)))).2.2.1)) d_U_bind_88 ?_
                refine lv_iload_n hx hb d_U_bind_89 rfl (lv_at hl 4 rfl) ?_
                refine lv_icmp_eq (tgt := 96) hx hb d_U_bind_90 (by decide) (fun c_8 => ?_) (fun c_8 => ?_)
                · refine lv_aload_n hx hb d_U_bind_96 rfl (lv_at hl 2 rfl) ?_
                  refine lv_iload hx hb d_U_bind_97 (lv_at hl 0 rfl) ?_
                  refine uk_iV (rest := []) (c_U_shut l g o τ 0 rp9 n t b9 (nI d) d (vp_in_nI (show d < 6 by omega) (by decide)) (xs_ix_nI (show d < 2 ^ 31 by omega)) (hav9 d (by omega))) gd_U_U_shut hd_U_shut hC hK hX hS (fun _ h => h) (by omega) (by omega) (by omega) (by omega) hl.1 rfl (Nat.le_of_ble_eq_true rfl) d_U_bind_99 (fun rp9 t b9 H locs hG9 hX hS _ _ => ?_)
                  refine lv_iconst (v := 1) hx hb d_U_bind_102 (by decide) ?_
                  refine lv_istore_n (lv' := [(3, .int 1), (4, .int (nI d)), (0, .ref o), (1, .int x), (2, .int y)]) hx hb d_U_bind_103 rfl hl (by decide) rfl (fun ls hl => ?_)
                  refine lv_iinc (v := nI (d + 1)) (lv' := [(4, .int (nI (d + 1))), (3, .int 1), (0, .ref o), (1, .int x), (2, .int y)]) hx hb d_U_bind_104 hl (k := 1) rfl (nI_1 _) (by decide) rfl (fun ls hl => ?_)
                  refine lv_goto (tgt := 48) hx hb d_U_bind_107 (by decide) ?_
                  exact ihn9 (d + 1) (xm_shut τ d) 1 rp9 _ _ _ _ ls (by omega) hX hS (lv_sub hl [0, 1, 2, 3, 4] rfl) (by rw [← hres]; simp only [xu_bl, c_6, c_7, c_8, if_true, if_false, reduceIte, Bool.false_eq_true, Bool.true_eq_false, and_true, true_and, and_false, false_and, or_true, true_or, or_false, false_or, not_true_eq_false, not_false_eq_true] <;> rfl) (xu_shut_av hav9)
                · refine lv_goto (tgt := 104) hx hb d_U_bind_93 (by decide) ?_
                  refine lv_iinc (v := nI (d + 1)) (lv' := [(4, .int (nI (d + 1))), (3, .int g0), (0, .ref o), (1, .int x), (2, .int y)]) hx hb d_U_bind_104 hl (k := 0) rfl (nI_1 _) (by decide) rfl (fun ls hl => ?_)
                  refine lv_goto (tgt := 48) hx hb d_U_bind_107 (by decide) ?_
                  exact ihn9 (d + 1) τ g0 rp9 _ _ _ _ ls (by omega) hX hS (lv_sub hl [0, 1, 2, 3, 4] rfl) (by rw [← hres]; simp only [xu_bl, c_6, c_7, c_8, if_true, if_false, reduceIte, Bool.false_eq_true, Bool.true_eq_false, and_true, true_and, and_false, false_and, or_true, true_or, or_false, false_or, not_true_eq_false, not_false_eq_true] <;> rfl) hav9
        exact loop48 6 0 σ 0 rp _ _ _ _ ls (by omega) hX hS (lv_sub hl [0, 1, 2, 3, 4] rfl) rfl (fun c hc9 h => hwf.2.1 c hc9 (Or.inr (Or.inr (hwf.1 c hc9 h))))
      · refine lv_aload_n hx hb d_U_bind_37 rfl (lv_at hl 0 rfl) ?_
        refine lv_iconst (v := 2) hx hb d_U_bind_38 (by decide) ?_
        refine uk_iQ (rest := []) (c_U_raise l g o σ 0 rp n t b9 2) gd_U_U_raise hd_U_raise hC hK hX hS (fun _ h => h) (by omega) (by omega) (by omega) (by omega) hl.1 rfl (Nat.le_of_ble_eq_true rfl) d_U_bind_39 (fun rp9 t b9 H locs hG9 hX hS _ _ => ?_)
        rw [hG9.1] at hX
        have e9 : xp_bind σ x y = (2, 0, σ) := by simp only [xp_bind, xp_bind1, c_1, c_3, (xu_it c_2).1, (xu_it c_2).2, (xu_itl (b' := 3) (by decide) c_2), xs_cn_scn, xs_nx_scn, xs_up_scn, xs_lt_scn, xs_q_scn, xs_ac_scn, xs_mk_scn, xs_ac_sac, xs_sac_sac, xs_nx_sg, xs_up_sg, xs_lt_sg, xs_cn_sg, xs_q_sg, if_true, if_false, reduceIte, Bool.false_eq_true, Bool.true_eq_false, and_true, true_and, and_false, false_and, or_true, true_or, or_false, false_or, not_true_eq_false, not_false_eq_true] <;> rfl
        exact ur_I (G := (fun _ _ => True)) (τ := (xp_bind σ x y).2.2) (r := (xp_bind σ x y).2.1) hC hK hX hS trivial (by rw [e9]) (by rw [e9]; rfl) rfl (by rw [e9]) d_U_bind_42
    · have c_2 := xs_b0 c_2
      refine lv_aload_n hx hb d_U_bind_21 rfl (lv_at hl 0 rfl) ?_
      refine lv_iconst (v := 1) hx hb d_U_bind_22 (by decide) ?_
      refine uk_iQ (rest := []) (c_U_raise l g o σ 0 rp n t b9 1) gd_U_U_raise hd_U_raise hC hK hX hS (fun _ h => h) (by omega) (by omega) (by omega) (by omega) hl.1 rfl (Nat.le_of_ble_eq_true rfl) d_U_bind_23 (fun rp9 t b9 H locs hG9 hX hS _ _ => ?_)
      rw [hG9.1] at hX
      have e9 : xp_bind σ x y = (1, 0, σ) := by simp only [xp_bind, xp_bind1, c_1, eq_false (xu_if c_2), eq_false (xu_ifl (b' := 3) (by decide) c_2), xs_cn_scn, xs_nx_scn, xs_up_scn, xs_lt_scn, xs_q_scn, xs_ac_scn, xs_mk_scn, xs_ac_sac, xs_sac_sac, xs_nx_sg, xs_up_sg, xs_lt_sg, xs_cn_sg, xs_q_sg, if_true, if_false, reduceIte, Bool.false_eq_true, Bool.true_eq_false, and_true, true_and, and_false, false_and, or_true, true_or, or_false, false_or, not_true_eq_false, not_false_eq_true] <;> rfl
      exact ur_I (G := (fun _ _ => True)) (τ := (xp_bind σ x y).2.2) (r := (xp_bind σ x y).2.1) hC hK hX hS trivial (by rw [e9]) (by rw [e9]; rfl) rfl (by rw [e9]) d_U_bind_26
set_option maxHeartbeats 4000000 in
set_option maxRecDepth 100000 in
theorem c_U_link (l : Launch) (g : xw_G) (o : Nat) (σ : xs_S) (th rp : Int32) (n : Nat) (t : xu_X) (a : xu_M) (u : Bool) (hwf : xm_wf σ) (hcw : xu_cw (xs_cn σ)) (hsh : ∀ z, z ∈ xs_q σ 14 → xu_sh z.1 z.2.2.1 z.2.2.2.1) : uc_Q l y_U_link (Cond.code y_U_link b_U_link 4 (some .int)) g o σ th rp n t a ((xp_link σ u).2.1) ((xp_link σ u).2.2) (nI (xp_link σ u).1) n (fun _ _ => True) [.ref o, .int (xs_b u)] 5 133 := by
  refine uh_Q (own := R_U) (by decide) rfl (Nat.le_of_ble_eq_true rfl) ?_
  intro p e R s m below meth c ls hRf hRl hC hK hX hl
  obtain ⟨hx, hb, hml, hr, hown, hts, hlk⟩ := id hC
  have hS : va_S (xu_W o) s.heap s.heap [] := va_S.rf
  have hF : xu_K a a := xu_K.rf
  have hl : lv_has ls 4 [(0, .ref o), (1, .int (xs_b u))] := hl
  refine lv_aload_n hx hb d_U_link_0 rfl (lv_at hl 0 rfl) ?_
  refine lv_iconst (v := 0) hx hb d_U_link_1 (by decide) ?_
  refine uo_put (sc' := xu_num σ 0 rp n t) hx hb hts hown hK hX.1 hX.2.1 hS 0 (by decide) lk_U_87 rfl rfl rfl rfl rfl d_U_link_2 (fun H locs hO hA hS => ?_)
  have hX : xu_R g o σ 0 rp n t a H := ⟨hO, hA, hX.2.2.1, hX.2.2.2.1, hX.2.2.2.2⟩
  refine lv_aload_n hx hb d_U_link_5 rfl (lv_at hl 0 rfl) ?_
  refine lv_iload_n hx hb d_U_link_6 rfl (lv_at hl 1 rfl) ?_
  refine uo_put (sc' := xu_num (xs_sg σ u (xs_nx σ) (xs_lt σ)) 0 rp n t) hx hb hts hown hK hX.1 hX.2.1 hS 27 (by decide) lk_U_83 rfl rfl (xs_bn _) (xs_bf _) rfl d_U_link_7 (fun H locs hO hA hS => ?_)
  have hX : xu_R g o (xs_sg σ u (xs_nx σ) (xs_lt σ)) 0 rp n t a H := ⟨hO, hA, hX.2.2.1, hX.2.2.2.1, hX.2.2.2.2⟩
  refine lv_iload_n hx hb d_U_link_10 rfl (lv_at hl 1 rfl) ?_
  refine lv_if_ne (tgt := 16) hx hb d_U_link_11 (by decide) (fun c_1 => ?_) (fun c_1 => ?_)
  · have c_1 := xs_b1 c_1
    refine lv_aload_n hx hb d_U_link_16 rfl (lv_at hl 0 rfl) ?_
    refine xb_get (v := .int (nI (xs_q (xs_sg σ u (xs_nx σ) (xs_lt σ)) 14).length)) hx hb hts xw_in_U hown hK (ci := xi_U) rfl 26 (by decide) (hts _ lk_U_126) rfl hX.1 rfl d_U_link_17 ?_
    refine lv_istore_n (lv' := [(2, .int (nI (xs_q (xs_sg σ u (xs_nx σ) (xs_lt σ)) 14).length)), (0, .ref o), (1, .int (xs_b u))]) hx hb d_U_link_20 rfl hl (by decide) rfl (fun ls hl => ?_)
    refine lv_aload_n hx hb d_U_link_21 rfl (lv_at hl 1 rfl) ?_
    refine lv_iconst (v := 0) hx hb d_U_link_22 (by decide) ?_
    have hO := hX.1
    have hA := hX.2.1
    have hR := hX.2.2.1
    refine uo_put (sc' := (0, nI n, 0, xs_b (xs_up (xs_sg σ u (xs_nx σ) (xs_lt σ))), xm_lall 6 0 (xs_sg σ u (xs_nx σ) (xs_lt σ)) 0, rp, xs_b (xs_lt (xs_sg σ u (xs_nx σ) (xs_lt σ))).isSome, t.1, t.2.1, t.2.2)) hx hb hts hown hK hO hA hS 26 (by decide) lk_U_126 rfl rfl rfl rfl rfl d_U_link_23 (fun H locs hO hA hS => ?_)
    have hX : xu_R g o (xm_clear (xs_sg σ u (xs_nx σ) (xs_lt σ)) 14) 0 rp n t a H := ⟨by rw [xu_num14]; exact hO, hA, xu_clr14 (σ := xs_sg σ u (xs_nx σ) (xs_lt σ)) hR, hX.2.2.2.1, hX.2.2.2.2⟩
    have hWt := hR.2.2.2.2.2
    have hL8 : (xs_q σ 14).length ≤ 8 := hWt.1
    have hut := c_1
    refine lv_iconst (v := 0) hx hb d_U_link_26 (by decide) ?_
    refine lv_istore_n (lv' := [(3, .int 0), (2, .int (nI (xs_q (xs_sg σ u (xs_nx σ) (xs_lt σ)) 14).length)), (0, .ref o), (1, .int (xs_b u))]) hx hb d_U_link_27 rfl hl (by decide) rfl (fun ls hl => ?_)
    have loop28 : ∀ (n9 j : Nat) (υ : xs_S) (rp9 : Int32) (t : xu_X) (b9 : xu_M) (H : Heap) (locs : List Loc) (ls : Array Slot), j + n9 = (xs_q σ 14).length → xu_R g o υ 0 rp9 n t b9 H → va_S (xu_W o) s.heap H locs → xu_K a b9 → lv_has ls 4 [(3, .int (nI j)), (2, .int (nI (xs_q (xs_sg σ u (xs_nx σ) (xs_lt σ)) 14).length)), (0, .ref o), (1, .int (xs_b u))] → xu_lk ((xs_q σ 14).drop j) υ = xu_lk (xs_q σ 14) (xm_clear (xs_sg σ u (xs_nx σ) (xs_lt σ)) 14) → xs_cn υ = xs_cn σ ∧ xs_up υ = u → W p l e R s m ([.ref o, .int (xs_b u)] : List Value).toArray below meth c H locs 0 0 (MQ below (xb_Q (fun v T => v = .int ((xp_link σ u).2.1) ∧ ∃ rp9 t9 b9, (fun _ _ => True) rp9 b9 ∧ uw_W g o ((xp_link σ u).2.2) (nI (xp_link σ u).1) rp9 n t9 b9 T) (xu_W o)) ([.ref o, .int (xs_b u)] : List Value).toArray s 0 0 (xu_W o)) (F0 m 28 ls []) := by
      intro n9
      induction n9 with
      | zero =>
        intro j υ rp9 t b9 H locs ls hi hX hS hF hl hres hcu
        have e9 : j = (xs_q σ 14).length := by omega
        refine lv_iload_n hx hb d_U_link_28 rfl (lv_at hl 0 rfl) ?_
        refine lv_iload_n hx hb d_U_link_29 rfl (lv_at hl 1 rfl) ?_
        refine lv_icmp_ge (tgt := 79) hx hb d_U_link_30 (by decide) (fun c_2 => ?_) (fun c_2 => absurd (nI_le (show (xs_q σ 14).length ≤ j by omega) (show j < 2 ^ 31 by omega)) c_2)
        refine lv_iload_n hx hb d_U_link_79 rfl (lv_at hl 1 rfl) ?_
        have e9 : xp_link σ u = (0, nI (xs_q (xs_sg σ u (xs_nx σ) (xs_lt σ)) 14).length, υ) := by unfold xp_link; rw [if_pos c_1, xu_lk_ok (σ := xp_link1 σ u) (xs_q σ 14) hwf.2.2 rfl, show xm_clear (xp_link1 σ u) 14 = xm_clear (xs_sg σ u (xs_nx σ) (xs_lt σ)) 14 from rfl, ← hres, List.drop_of_length_le (by omega)]; rfl
        exact ur_I (G := (fun _ _ => True)) (τ := (xp_link σ u).2.2) (r := (xp_link σ u).2.1) hC hK hX hS trivial (by rw [e9]) (by rw [e9]; rfl) rfl (by rw [e9]) d_U_link_80
      | succ n9 ihn9 =>
        intro j υ rp9 t b9 H locs ls hi hX hS hF hl hres hcu
        refine lv_iload_n hx hb d_U_link_28 rfl (lv_at hl 0 rfl) ?_
        refine lv_iload_n hx hb d_U_link_29 rfl (lv_at hl 1 rfl) ?_
        refine lv_icmp_ge (tgt := 79) hx hb d_U_link_30 (by decide) (fun c_3 => absurd c_3 (nI_ge (show j < (xs_q σ 14).length by omega) (show (xs_q σ 14).length < 2 ^ 31 by omega))) (fun c_3 => ?_)
        obtain ⟨z, hz, hdrop⟩ := xu_drop (l := (xs_q σ 14)) (j := j) (by omega)
        have hk9 := hWt.2 j z hz
        have hzm := List.mem_of_getElem? hz
        refine lv_aload_n hx hb d_U_link_33 rfl (lv_at hl 2 rfl) ?_
        refine lv_aload_n hx hb d_U_link_34 rfl (lv_at hl 2 rfl) ?_
        refine xb_get (v := .ref (o + 19)) hx hb hts xw_in_U hown hK (ci := xi_U) rfl 20 (by decide) (hts _ lk_U_65) rfl hX.1 rfl d_U_link_35 ?_
        refine lv_iload_n hx hb d_U_link_38 rfl (lv_at hl 0 rfl) ?_
        refine ug_i (v := z.1) hx hb hK hX.2.1 19 (by decide) (by decide) rfl rfl (vp_in_nI (show j < 8 by omega) (by decide)) (by rw [xs_ix_nI (show j < 2 ^ 31 by omega), hF 19 (by decide)]; exact hk9.1) d_U_link_39 ?_
        refine lv_aload_n hx hb d_U_link_40 rfl (lv_at hl 2 rfl) ?_
        refine xb_get (v := .ref (o + 20)) hx hb hts xw_in_U hown hK (ci := xi_U) rfl 21 (by decide) (hts _ lk_U_68) rfl hX.1 rfl d_U_link_41 ?_
        refine lv_iload_n hx hb d_U_link_44 rfl (lv_at hl 0 rfl) ?_
        refine ug_i (v := z.2.1) hx hb hK hX.2.1 20 (by decide) (by decide) rfl rfl (vp_in_nI (show j < 8 by omega) (by decide)) (by rw [xs_ix_nI (show j < 2 ^ 31 by omega), hF 20 (by decide)]; exact hk9.2.1) d_U_link_45 ?_
        refine lv_aload_n hx hb d_U_link_46 rfl (lv_at hl 2 rfl) ?_
        refine xb_get (v := .ref (o + 21)) hx hb hts xw_in_U hown hK (ci := xi_U) rfl 22 (by decide) (hts _ lk_U_71) rfl hX.1 rfl d_U_link_47 ?_
        refine lv_iload_n hx hb d_U_link_50 rfl (lv_at hl 0 rfl) ?_
        refine ug_i (v := z.2.2.2.2.1) hx hb hK hX.2.1 21 (by decide) (by decide) rfl rfl (vp_in_nI (show j < 8 by omega) (by decide)) (by rw [xs_ix_nI (show j < 2 ^ 31 by omega), hF 21 (by decide)]; exact hk9.2.2.1) d_U_link_51 ?_
        refine lv_aload_n hx hb d_U_link_52 rfl (lv_at hl 2 rfl) ?_
        refine xb_get (v := .ref (o + 22)) hx hb hts xw_in_U hown hK (ci := xi_U) rfl 23 (by decide) (hts _ lk_U_74) rfl hX.1 rfl d_U_link_53 ?_
        refine lv_iload_n hx hb d_U_link_56 rfl (lv_at hl 0 rfl) ?_
        refine ug_i (v := z.2.2.1) hx hb hK hX.2.1 22 (by decide) (by decide) rfl rfl (vp_in_nI (show j < 8 by omega) (by decide)) (by rw [xs_ix_nI (show j < 2 ^ 31 by omega), hF 22 (by decide)]; exact hk9.2.2.2.1) d_U_link_57 ?_
        refine lv_aload_n hx hb d_U_link_58 rfl (lv_at hl 2 rfl) ?_
        refine xb_get (v := .ref (o + 23)) hx hb hts xw_in_U hown hK (ci := xi_U) rfl 24 (by decide) (hts _ lk_U_77) rfl hX.1 rfl d_U_link_59 ?_
        refine lv_iload_n hx hb d_U_link_62 rfl (lv_at hl 0 rfl) ?_
        refine ug_i (v := z.2.2.2.1) hx hb hK hX.2.1 23 (by decide) (by decide) rfl rfl (vp_in_nI (show j < 8 by omega) (by decide)) (by rw [xs_ix_nI (show j < 2 ^ 31 by omega), hF 23 (by decide)]; exact hk9.2.2.2.2.1) d_U_link_63 ?_
        refine lv_aload_n hx hb d_U_link_64 rfl (lv_at hl 2 rfl) ?_
        refine xb_get (v := .ref (o + 24)) hx hb hts xw_in_U hown hK (ci := xi_U) rfl 25 (by decide) (hts _ lk_U_80) rfl hX.1 rfl d_U_link_65 ?_
        refine lv_iload_n hx hb d_U_link_68 rfl (lv_at hl 0 rfl) ?_
        refine ug_i (v := xu_tg z) hx hb hK hX.2.1 24 (by decide) (by decide) rfl rfl (vp_in_nI (show j < 8 by omega) (by decide)) (by rw [xs_ix_nI (show j < 2 ^ 31 by omega), hF 24 (by decide)]; exact hk9.2.2.2.2.2) d_U_link_69 ?_
        refine uk_iV (rest := []) (c_U_send l g o υ 0 rp9 n t b9 z.1 z.2.1 z.2.2.2.2.1 z.2.2.1 z.2.2.2.1 z.2.2.2.2.2 (xu_tg z) (hwf.2.2 z hzm).2 (hwf.2.2 z hzm).1 (hsh z hzm) (fun _ => by rw [hcu.1]; exact hcw) rfl) gd_U_U_send hd_U_send hC hK hX hS (fun _ h => h) (by omega) (by omega) (by omega) (by omega) hl.1 rfl (Nat.le_of_ble_eq_true rfl) d_U_link_70 (fun rp9 t b9 H locs hG9 hX hS _ _ => ?_)
        have hF := hF.tr (hG9 (hcu.2.trans hut))
        refine lv_iinc (v := nI (j + 1)) (lv' := [(3, .int (nI (j + 1))), (2, .int (nI (xs_q (xs_sg σ u (xs_nx σ) (xs_lt σ)) 14).length)), (0, .ref o), (1, .int (xs_b u))]) hx hb d_U_link_73 hl (k := 0) rfl (nI_1 _) (by decide) rfl (fun ls hl => ?_)
        refine lv_goto (tgt := 28) hx hb d_U_link_76 (by decide) ?_
        exact ihn9 (j + 1) (xm_send υ (z.1, z.2.1, z.2.2.1, z.2.2.2.1, z.2.2.2.2.1, z.2.2.2.2.2)) rp9 _ _ _ _ ls (by omega) hX hS hF (lv_sub hl [0, 1, 2, 3] rfl) (by rw [← hres, hdrop, ← xu_send_arr (xu_reach2 (hcu.2.trans hut))]; rfl) ⟨xs_cn_send.trans hcu.1, xm_same_send.2.2.1.trans hcu.2⟩
    exact loop28 ((xs_q σ 14).length) 0 (xm_clear (xs_sg σ u (xs_nx σ) (xs_lt σ)) 14) rp _ _ _ _ ls (by omega) hX hS hF (lv_sub hl [0, 1, 2, 3] rfl) rfl ⟨rfl, rfl⟩
  · have c_1 := xs_b0 c_1
    refine lv_iconst (v := 0) hx hb d_U_link_14 (by decide) ?_
    have e9 : xp_link σ u = (0, 0, xs_sg σ u (xs_nx σ) (xs_lt σ)) := by unfold xp_link; rw [if_neg (by rw [c_1]; decide)]; rfl
    exact ur_I (G := (fun _ _ => True)) (τ := (xp_link σ u).2.2) (r := (xp_link σ u).2.1) hC hK hX hS trivial (by rw [e9]) (by rw [e9]; rfl) rfl (by rw [e9]) d_U_link_15
