/-! The reference, by program. -/
set_option maxHeartbeats 4000000 in
set_option maxRecDepth 100000 in
theorem c_U_tell (l : Launch) (g : xw_G) (o : Nat) (σ : xs_S) (th rp : Int32) (n : Nat) (t : xu_X) (a : xu_M) (x : Int32) (i : Nat) (hvx : vp_in x 6) (hxi : xs_ix x = i) (k : Int32) (hvac : vp_in (xs_cn σ i).2.1 8) (hk : k = 2 ∨ k = 3) : uc_V l y_U_tell (Cond.code y_U_tell b_U_tell 5 none) g o σ th rp n t a (xm_stw 8 0 σ (xs_ix (xs_cn σ i).2.1) i k) th n (fun _ _ => True) [.ref o, .int x, .int k] 5 133 := by
  refine uh_V (own := R_U) (by decide) rfl (Nat.le_of_ble_eq_true rfl) ?_
  intro p e R s m below meth c ls hRf hRl hC hK hX hl
  obtain ⟨hx, hb, hml, hr, hown, hts, hlk⟩ := id hC
  have hS : va_S (xu_W o) s.heap s.heap [] := va_S.rf
  have hl : lv_has ls 5 [(0, .ref o), (1, .int x), (2, .int k)] := hl
  refine lv_aload_n hx hb d_U_tell_0 rfl (lv_at hl 0 rfl) ?_
  refine xb_get (v := .ref (o + 5)) hx hb hts xw_in_U hown hK (ci := xi_U) rfl 5 (by decide) (hts _ lk_U_23) rfl hX.1 rfl d_U_tell_1 ?_
  refine lv_iload_n hx hb d_U_tell_4 rfl (lv_at hl 1 rfl) ?_
  refine ug_i (v := (xs_cn σ i).2.1) hx hb hK hX.2.1 5 (by decide) (by decide) rfl rfl hvx ((by rw [hxi]; exact (hX.2.2.1.2.2.1 i (hxi ▸ xs_ixl hvx)).2.1)) d_U_tell_5 ?_
  refine lv_istore_n (lv' := [(3, .int ((xs_cn σ i).2.1)), (0, .ref o), (1, .int x), (2, .int k)]) hx hb d_U_tell_6 rfl hl (by decide) rfl (fun ls hl => ?_)
  refine lv_iconst (v := 0) hx hb d_U_tell_7 (by decide) ?_
  refine lv_istore (lv' := [(4, .int 0), (3, .int ((xs_cn σ i).2.1)), (0, .ref o), (1, .int x), (2, .int k)]) hx hb d_U_tell_8 hl (by decide) rfl (fun ls hl => ?_)
  have loop10 : ∀ (n9 j : Nat) (τ : xs_S) (rp9 : Int32) (t : xu_X) (b9 : xu_M) (H : Heap) (locs : List Loc) (ls : Array Slot), j + n9 = 8 → xu_R g o τ th rp9 n t b9 H → va_S (xu_W o) s.heap H locs → lv_has ls 5 [(4, .int (nI j)), (3, .int ((xs_cn σ i).2.1)), (0, .ref o), (1, .int x), (2, .int k)] → xm_stw n9 j τ (xs_ix (xs_cn σ i).2.1) i k = xm_stw 8 0 σ (xs_ix (xs_cn σ i).2.1) i k → xs_cn τ = xs_cn σ → W p l e R s m ([.ref o, .int x, .int k] : List Value).toArray below meth c H locs 0 0 (MQ below (xb_V (fun T => ∃ rp9 t9 b9, (fun _ _ => True) rp9 b9 ∧ uw_W g o (xm_stw 8 0 σ (xs_ix (xs_cn σ i).2.1) i k) th rp9 n t9 b9 T) (xu_W o)) ([.ref o, .int x, .int k] : List Value).toArray s 0 0 (xu_W o)) (F0 m 10 ls []) := by
    intro n9
    induction n9 with
    | zero =>
      intro j τ rp9 t b9 H locs ls hi hX hS hl hres hcn
      have e9 : j = 8 := by omega
      refine lv_iload hx hb d_U_tell_10 (lv_at hl 0 rfl) ?_
      refine lv_bipush (v := 8) hx hb d_U_tell_12 (by decide) ?_
      refine lv_icmp_ge (tgt := 64) hx hb d_U_tell_14 (by decide) (fun c_1 => ?_) (fun c_1 => absurd (nI_le (show 8 ≤ j by omega) (show j < 2 ^ 31 by omega)) c_1)
      exact ur_V (G := (fun _ _ => True)) (τ := xm_stw 8 0 σ (xs_ix (xs_cn σ i).2.1) i k) hC hK hX hS trivial hres rfl rfl d_U_tell_64
    | succ n9 ihn9 =>
      intro j τ rp9 t b9 H locs ls hi hX hS hl hres hcn
      refine lv_iload hx hb d_U_tell_10 (lv_at hl 0 rfl) ?_
      refine lv_bipush (v := 8) hx hb d_U_tell_12 (by decide) ?_
      refine lv_icmp_ge (tgt := 64) hx hb d_U_tell_14 (by decide) (fun c_2 => absurd c_2 (nI_ge (show j < 8 by omega) (by decide))) (fun c_2 => ?_)
      refine lv_aload_n hx hb d_U_tell_17 rfl (lv_at hl 2 rfl) ?_
      refine lv_iload_n hx hb d_U_tell_18 rfl (lv_at hl 1 rfl) ?_
      refine lv_iload hx hb d_U_tell_19 (lv_at hl 0 rfl) ?_
      refine lv_iconst (v := 2) hx hb d_U_tell_21 (by decide) ?_
      refine uk_iQ (rest := []) (c_U_marked l g o τ th rp9 n t b9 ((xs_cn σ i).2.1) (xs_ix ((xs_cn σ i).2.1)) hvac rfl (nI j) j (vp_in_nI (show j < 8 by omega) (by decide)) (xs_ix_nI (show j < 2 ^ 31 by omega)) 2) gd_U_U_marked hd_U_marked hC hK hX hS (fun _ h => h) (by omega) (by omega) (by omega) (by omega) hl.1 rfl (Nat.le_of_ble_eq_true rfl) d_U_tell_22 (fun rp9 t b9 H locs hG9 hX hS _ _ => ?_)
      refine lv_if_eq (tgt := 58) hx hb d_U_tell_25 (by decide) (fun c_3 => ?_) (fun c_3 => ?_)
      · have c_3 := xs_b0 c_3
        refine lv_iinc (v := nI (j + 1)) (lv' := [(4, .int (nI (j + 1))), (3, .int ((xs_cn σ i).2.1)), (0, .ref o), (1, .int x), (2, .int k)]) hx hb d_U_tell_58 hl (k := 0) rfl (nI_1 _) (by decide) rfl (fun ls hl => ?_)
        refine lv_goto (tgt := 10) hx hb d_U_tell_61 (by decide) ?_
        exact ihn9 (j + 1) τ rp9 _ _ _ _ ls (by omega) hX hS (lv_sub hl [0, 1, 2, 3, 4] rfl) (by rw [← hres]; simp only [xm_stw, xm_pres, hcn, c_3, if_true, if_false, reduceIte, Bool.false_eq_true, Bool.true_eq_false, and_true, true_and, and_false, false_and, or_true, true_or, or_false, false_or, not_true_eq_false, not_false_eq_true] <;> rfl) hcn
      · have c_3 := xs_b1 c_3
        refine lv_aload_n hx hb d_U_tell_28 rfl (lv_at hl 2 rfl) ?_
        refine lv_iload_n hx hb d_U_tell_29 rfl (lv_at hl 4 rfl) ?_
        refine lv_iload_n hx hb d_U_tell_30 rfl (lv_at hl 1 rfl) ?_
        refine lv_iload hx hb d_U_tell_31 (lv_at hl 0 rfl) ?_
        refine lv_aload_n hx hb d_U_tell_33 rfl (lv_at hl 2 rfl) ?_
        refine xb_get (v := .ref (o + 6)) hx hb hts xw_in_U hown hK (ci := xi_U) rfl 6 (by decide) (hts _ lk_U_26) rfl hX.1 rfl d_U_tell_34 ?_
        refine lv_iload_n hx hb d_U_tell_37 rfl (lv_at hl 3 rfl) ?_
        refine ug_i (v := (xs_cn τ i).2.2.1) hx hb hK hX.2.1 6 (by decide) (by decide) rfl rfl hvx ((by rw [hxi]; exact (hX.2.2.1.2.2.1 i (hxi ▸ xs_ixl hvx)).2.2.1)) d_U_tell_38 ?_
        refine lv_iload_n hx hb d_U_tell_39 rfl (lv_at hl 4 rfl) ?_
        refine lv_iconst (v := 2) hx hb d_U_tell_40 (by decide) ?_
        refine lv_icmp_ne (tgt := 53) hx hb d_U_tell_41 (by decide) (fun c_4 => ?_) (fun c_4 => ?_)
        · refine lv_iconst (v := 0) hx hb d_U_tell_53 (by decide) ?_
          refine lv_iconst (v := (-1)) hx hb d_U_tell_54 (by decide) ?_
          refine uk_iV (rest := []) (c_U_send l g o τ th rp9 n t b9 k ((xs_cn σ i).2.1) (nI j) ((xs_cn τ i).2.2.1) 0 (-1) (-1) (vp_in_nI (show j < 8 by omega) (by decide)) hvac (xu_sh23 hk) (fun h => absurd h (xu_n1 hk)) (xu_tgn (xu_n1 hk))) gd_U_U_send hd_U_send hC hK hX hS (fun _ h => h) (by omega) (by omega) (by omega) (by omega) hl.1 rfl (Nat.le_of_ble_eq_true rfl) d_U_tell_55 (fun rp9 t b9 H locs hG9 hX hS _ _ => ?_)
          refine lv_iinc (v := nI (j + 1)) (lv' := [(4, .int (nI (j + 1))), (3, .int ((xs_cn σ i).2.1)), (0, .ref o), (1, .int x), (2, .int k)]) hx hb d_U_tell_58 hl (k := 0) rfl (nI_1 _) (by decide) rfl (fun ls hl => ?_)
          refine lv_goto (tgt := 10) hx hb d_U_tell_61 (by decide) ?_
          exact ihn9 (j + 1) (xm_send τ (k, ((xs_cn σ i).2.1), ((xs_cn τ i).2.2.1), 0, (nI j), (-1))) rp9 _ _ _ _ ls (by omega) hX hS (lv_sub hl [0, 1, 2, 3, 4] rfl) (by rw [← hres]; simp only [xm_stw, xm_pres, hcn, c_3, c_4, if_true, if_false, reduceIte, Bool.false_eq_true, Bool.true_eq_false, and_true, true_and, and_false, false_and, or_true, true_or, or_false, false_or, not_true_eq_false, not_false_eq_true] <;> rfl) (xs_cn_send.trans hcn)
        · refine lv_aload_n hx hb d_U_tell_44 rfl (lv_at hl 2 rfl) ?_
          refine xb_get (v := .ref (o + 8)) hx hb hts xw_in_U hown hK (ci := xi_U) rfl 8 (by decide) (hts _ lk_U_32) rfl hX.1 rfl d_U_tell_45 ?_
          refine lv_iload_n hx hb d_U_tell_48 rfl (lv_at hl 3 rfl) ?_
          refine ug_i (v := (xs_cn τ i).2.2.2.1) hx hb hK hX.2.1 8 (by decide) (by decide) rfl rfl hvx ((by rw [hxi]; exact (hX.2.2.1.2.2.1 i (hxi ▸ xs_ixl hvx)).2.2.2.2.1)) d_U_tell_49 ?_
          refine lv_goto (tgt := 54) hx hb d_U_tell_50 (by decide) ?_
          refine lv_iconst (v := (-1)) hx hb d_U_tell_54 (by decide) ?_
          refine uk_iV (rest := []) (c_U_send l g o τ th rp9 n t b9 k ((xs_cn σ i).2.1) (nI j) ((xs_cn τ i).2.2.1) ((xs_cn τ i).2.2.2.1) (-1) (-1) (vp_in_nI (show j < 8 by omega) (by decide)) hvac (xu_sh23 hk) (fun h => absurd h (xu_n1 hk)) (xu_tgn (xu_n1 hk))) gd_U_U_send hd_U_send hC hK hX hS (fun _ h => h) (by omega) (by omega) (by omega) (by omega) hl.1 rfl (Nat.le_of_ble_eq_true rfl) d_U_tell_55 (fun rp9 t b9 H locs hG9 hX hS _ _ => ?_)
          refine lv_iinc (v := nI (j + 1)) (lv' := [(4, .int (nI (j + 1))), (3, .int ((xs_cn σ i).2.1)), (0, .ref o), (1, .int x), (2, .int k)]) hx hb d_U_tell_58 hl (k := 0) rfl (nI_1 _) (by decide) rfl (fun ls hl => ?_)
          refine lv_goto (tgt := 10) hx hb d_U_tell_61 (by decide) ?_
          exact ihn9 (j + 1) (xm_send τ (k, ((xs_cn σ i).2.1), ((xs_cn τ i).2.2.1), ((xs_cn τ i).2.2.2.1), (nI j), (-1))) rp9 _ _ _ _ ls (by omega) hX hS (lv_sub hl [0, 1, 2, 3, 4] rfl) (by rw [← hres]; simp only [xm_stw, xm_pres, hcn, c_3, c_4, if_true, if_false, reduceIte, Bool.false_eq_true, Bool.true_eq_false, and_true, true_and, and_false, false_and, or_true, true_or, or_false, false_or, not_true_eq_false, not_false_eq_true] <;> rfl) (xs_cn_send.trans hcn)
  exact loop10 8 0 σ rp _ _ _ _ ls (by omega) hX hS (lv_sub hl [0, 1, 2, 3, 4] rfl) rfl rfl
set_option maxHeartbeats 4000000 in
set_option maxRecDepth 100000 in
theorem c_U_shut (l : Launch) (g : xw_G) (o : Nat) (σ : xs_S) (th rp : Int32) (n : Nat) (t : xu_X) (a : xu_M) (x : Int32) (i : Nat) (hvx : vp_in x 6) (hxi : xs_ix x = i) (hvac : (xs_cn σ i).2.2.2.2.2 = true → vp_in (xs_cn σ i).2.1 8) : uc_V l y_U_shut (Cond.code y_U_shut b_U_shut 2 none) g o σ th rp n t a (xm_shut σ i) th n (fun _ _ => True) [.ref o, .int x] 6 157 := by
  refine uh_V (own := R_U) (by decide) rfl (Nat.le_of_ble_eq_true rfl) ?_
  intro p e R s m below meth c ls hRf hRl hC hK hX hl
  obtain ⟨hx, hb, hml, hr, hown, hts, hlk⟩ := id hC
  have hS : va_S (xu_W o) s.heap s.heap [] := va_S.rf
  have hl : lv_has ls 2 [(0, .ref o), (1, .int x)] := hl
  refine lv_aload_n hx hb d_U_shut_0 rfl (lv_at hl 0 rfl) ?_
  refine xb_get (v := .ref (o + 7)) hx hb hts xw_in_U hown hK (ci := xi_U) rfl 7 (by decide) (hts _ lk_U_29) rfl hX.1 rfl d_U_shut_1 ?_
  refine lv_iload_n hx hb d_U_shut_4 rfl (lv_at hl 1 rfl) ?_
  refine ug_z (v := xs_b (xs_cn σ i).2.2.2.2.2) hx hb hK hX.2.1 7 (by decide) (by decide) rfl rfl hvx ((by rw [hxi]; exact (hX.2.2.1.2.2.1 i (hxi ▸ xs_ixl hvx)).2.2.2.1)) d_U_shut_5 ?_
  refine lv_if_eq (tgt := 22) hx hb d_U_shut_6 (by decide) (fun c_1 => ?_) (fun c_1 => ?_)
  · have c_1 := xs_b0 c_1
    refine lv_aload_n hx hb d_U_shut_22 rfl (lv_at hl 0 rfl) ?_
    refine xb_get (v := .ref (o + 4)) hx hb hts xw_in_U hown hK (ci := xi_U) rfl 4 (by decide) (hts _ lk_U_20) rfl hX.1 rfl d_U_shut_23 ?_
    refine lv_iload_n hx hb d_U_shut_26 rfl (lv_at hl 1 rfl) ?_
    refine lv_iconst (v := 0) hx hb d_U_shut_27 (by decide) ?_
    refine up_i (σ' := xm_sst σ i 0) hx hb hK hX hS 4 (by decide) (by decide) rfl rfl hvx d_U_shut_28 ((by rw [hxi]; exact hX.2.2.1.st (hxi ▸ xs_ixl hvx))) rfl rfl rfl (fun b9 H locs hF9 hX hS => ?_)
    refine lv_aload_n hx hb d_U_shut_29 rfl (lv_at hl 0 rfl) ?_
    refine xb_get (v := .ref (o + 5)) hx hb hts xw_in_U hown hK (ci := xi_U) rfl 5 (by decide) (hts _ lk_U_23) rfl hX.1 rfl d_U_shut_30 ?_
    refine lv_iload_n hx hb d_U_shut_33 rfl (lv_at hl 1 rfl) ?_
    refine lv_iconst (v := (-1)) hx hb d_U_shut_34 (by decide) ?_
    refine up_i (σ' := xm_sacc (xm_sst σ i 0) i (-1)) hx hb hK hX hS 5 (by decide) (by decide) rfl rfl hvx d_U_shut_35 ((by rw [hxi]; exact hX.2.2.1.acc (hxi ▸ xs_ixl hvx))) rfl rfl rfl (fun b9 H locs hF9 hX hS => ?_)
    refine lv_aload_n hx hb d_U_shut_36 rfl (lv_at hl 0 rfl) ?_
    refine xb_get (v := .ref (o + 6)) hx hb hts xw_in_U hown hK (ci := xi_U) rfl 6 (by decide) (hts _ lk_U_26) rfl hX.1 rfl d_U_shut_37 ?_
    refine lv_iload_n hx hb d_U_shut_40 rfl (lv_at hl 1 rfl) ?_
    refine lv_iconst (v := (-1)) hx hb d_U_shut_41 (by decide) ?_
    refine up_i (σ' := xm_srs (xm_sacc (xm_sst σ i 0) i (-1)) i (-1)) hx hb hK hX hS 6 (by decide) (by decide) rfl rfl hvx d_U_shut_42 ((by rw [hxi]; exact hX.2.2.1.rs (hxi ▸ xs_ixl hvx))) rfl rfl rfl (fun b9 H locs hF9 hX hS => ?_)
    exact ur_V (G := (fun _ _ => True)) (τ := xm_shut σ i) hC hK hX hS trivial (by simp only [xm_shut, xm_quiet, xm_sav_ac, c_1, if_true, if_false, reduceIte, Bool.false_eq_true, Bool.true_eq_false, and_true, true_and, and_false, false_and, or_true, true_or, or_false, false_or, not_true_eq_false, not_false_eq_true] <;> rfl) rfl rfl d_U_shut_43
  · have c_1 := xs_b1 c_1
    refine lv_aload_n hx hb d_U_shut_9 rfl (lv_at hl 0 rfl) ?_
    refine xb_get (v := .ref (o + 7)) hx hb hts xw_in_U hown hK (ci := xi_U) rfl 7 (by decide) (hts _ lk_U_29) rfl hX.1 rfl d_U_shut_10 ?_
    refine lv_iload_n hx hb d_U_shut_13 rfl (lv_at hl 1 rfl) ?_
    refine lv_iconst (v := 0) hx hb d_U_shut_14 (by decide) ?_
    refine up_z (v := false) (σ' := xm_sav σ i false) hx hb hK hX hS 7 (by decide) (by decide) rfl rfl hvx d_U_shut_15 ((by rw [hxi]; exact hX.2.2.1.av (hxi ▸ xs_ixl hvx))) rfl rfl rfl (fun b9 H locs hF9 hX hS => ?_)
    refine lv_aload_n hx hb d_U_shut_16 rfl (lv_at hl 0 rfl) ?_
    refine lv_iload_n hx hb d_U_shut_17 rfl (lv_at hl 1 rfl) ?_
    refine lv_iconst (v := 3) hx hb d_U_shut_18 (by decide) ?_
    refine uk_iV (rest := []) (c_U_tell l g o (xm_sav σ i false) th rp n t b9 x i hvx hxi 3 (by rw [xm_sav_ac]; exact hvac c_1) (Or.inr rfl)) gd_U_U_tell hd_U_tell hC hK hX hS (fun _ h => h) (by omega) (by omega) (by omega) (by omega) hl.1 rfl (Nat.le_of_ble_eq_true rfl) d_U_shut_19 (fun rp9 t b9 H locs hG9 hX hS _ _ => ?_)
    refine lv_aload_n hx hb d_U_shut_22 rfl (lv_at hl 0 rfl) ?_
    refine xb_get (v := .ref (o + 4)) hx hb hts xw_in_U hown hK (ci := xi_U) rfl 4 (by decide) (hts _ lk_U_20) rfl hX.1 rfl d_U_shut_23 ?_
    refine lv_iload_n hx hb d_U_shut_26 rfl (lv_at hl 1 rfl) ?_
    refine lv_iconst (v := 0) hx hb d_U_shut_27 (by decide) ?_
    refine up_i (σ' := xm_sst (xm_stw 8 0 (xm_sav σ i false) (xs_ix (xs_cn (xm_sav σ i false) i).2.1) i 3) i 0) hx hb hK hX hS 4 (by decide) (by decide) rfl rfl hvx d_U_shut_28 ((by rw [hxi]; exact hX.2.2.1.st (hxi ▸ xs_ixl hvx))) rfl rfl rfl (fun b9 H locs hF9 hX hS => ?_)
    refine lv_aload_n hx hb d_U_shut_29 rfl (lv_at hl 0 rfl) ?_
    refine xb_get (v := .ref (o + 5)) hx hb hts xw_in_U hown hK (ci := xi_U) rfl 5 (by decide) (hts _ lk_U_23) rfl hX.1 rfl d_U_shut_30 ?_
    refine lv_iload_n hx hb d_U_shut_33 rfl (lv_at hl 1 rfl) ?_
    refine lv_iconst (v := (-1)) hx hb d_U_shut_34 (by decide) ?_
    refine up_i (σ' := xm_sacc (xm_sst (xm_stw 8 0 (xm_sav σ i false) (xs_ix (xs_cn (xm_sav σ i false) i).2.1) i 3) i 0) i (-1)) hx hb hK hX hS 5 (by decide) (by decide) rfl rfl hvx d_U_shut_35 ((by rw [hxi]; exact hX.2.2.1.acc (hxi ▸ xs_ixl hvx))) rfl rfl rfl (fun b9 H locs hF9 hX hS => ?_)
    refine lv_aload_n hx hb d_U_shut_36 rfl (lv_at hl 0 rfl) ?_
    refine xb_get (v := .ref (o + 6)) hx hb hts xw_in_U hown hK (ci := xi_U) rfl 6 (by decide) (hts _ lk_U_26) rfl hX.1 rfl d_U_shut_37 ?_
    refine lv_iload_n hx hb d_U_shut_40 rfl (lv_at hl 1 rfl) ?_
    refine lv_iconst (v := (-1)) hx hb d_U_shut_41 (by decide) ?_
    refine up_i (σ' := xm_srs (xm_sacc (xm_sst (xm_stw 8 0 (xm_sav σ i false) (xs_ix (xs_cn (xm_sav σ i false) i).2.1) i 3) i 0) i (-1)) i (-1)) hx hb hK hX hS 6 (by decide) (by decide) rfl rfl hvx d_U_shut_42 ((by rw [hxi]; exact hX.2.2.1.rs (hxi ▸ xs_ixl hvx))) rfl rfl rfl (fun b9 H locs hF9 hX hS => ?_)
    exact ur_V (G := (fun _ _ => True)) (τ := xm_shut σ i) hC hK hX hS trivial (by simp only [xm_shut, xm_quiet, xm_sav_ac, c_1, if_true, if_false, reduceIte, Bool.false_eq_true, Bool.true_eq_false, and_true, true_and, and_false, false_and, or_true, true_or, or_false, false_or, not_true_eq_false, not_false_eq_true] <;> rfl) rfl rfl d_U_shut_43
set_option maxHeartbeats 4000000 in
set_option maxRecDepth 100000 in
theorem c_U_show (l : Launch) (g : xw_G) (o : Nat) (σ : xs_S) (th rp : Int32) (n : Nat) (t : xu_X) (a : xu_M) (x y k : Int32) (hvx : vp_in x 8) (hvy : vp_in y 8) (hk : k = 2 ∨ k = 3) : uc_V l y_U_show (Cond.code y_U_show b_U_show 5 none) g o σ th rp n t a (xm_sp 6 0 σ x y k) th n (fun _ _ => True) [.ref o, .int x, .int y, .int k] 5 133 := by
  refine uh_V (own := R_U) (by decide) rfl (Nat.le_of_ble_eq_true rfl) ?_
  intro p e R s m below meth c ls hRf hRl hC hK hX hl
  obtain ⟨hx, hb, hml, hr, hown, hts, hlk⟩ := id hC
  have hS : va_S (xu_W o) s.heap s.heap [] := va_S.rf
  have hl : lv_has ls 5 [(0, .ref o), (1, .int x), (2, .int y), (3, .int k)] := hl
  refine lv_iconst (v := 0) hx hb d_U_show_0 (by decide) ?_
  refine lv_istore (lv' := [(4, .int 0), (0, .ref o), (1, .int x), (2, .int y), (3, .int k)]) hx hb d_U_show_1 hl (by decide) rfl (fun ls hl => ?_)
  have loop3 : ∀ (n9 i : Nat) (τ : xs_S) (rp9 : Int32) (t : xu_X) (b9 : xu_M) (H : Heap) (locs : List Loc) (ls : Array Slot), i + n9 = 6 → xu_R g o τ th rp9 n t b9 H → va_S (xu_W o) s.heap H locs → lv_has ls 5 [(4, .int (nI i)), (0, .ref o), (1, .int x), (2, .int y), (3, .int k)] → xm_sp n9 i τ x y k = xm_sp 6 0 σ x y k → W p l e R s m ([.ref o, .int x, .int y, .int k] : List Value).toArray below meth c H locs 0 0 (MQ below (xb_V (fun T => ∃ rp9 t9 b9, (fun _ _ => True) rp9 b9 ∧ uw_W g o (xm_sp 6 0 σ x y k) th rp9 n t9 b9 T) (xu_W o)) ([.ref o, .int x, .int y, .int k] : List Value).toArray s 0 0 (xu_W o)) (F0 m 3 ls []) := by
    intro n9
    induction n9 with
    | zero =>
      intro i τ rp9 t b9 H locs ls hi hX hS hl hres 
      have e9 : i = 6 := by omega
      refine lv_iload hx hb d_U_show_3 (lv_at hl 0 rfl) ?_
      refine lv_bipush (v := 6) hx hb d_U_show_5 (by decide) ?_
      refine lv_icmp_ge (tgt := 68) hx hb d_U_show_7 (by decide) (fun c_1 => ?_) (fun c_1 => absurd (nI_le (show 6 ≤ i by omega) (show i < 2 ^ 31 by omega)) c_1)
      exact ur_V (G := (fun _ _ => True)) (τ := xm_sp 6 0 σ x y k) hC hK hX hS trivial hres rfl rfl d_U_show_68
    | succ n9 ihn9 =>
      intro i τ rp9 t b9 H locs ls hi hX hS hl hres 
      refine lv_iload hx hb d_U_show_3 (lv_at hl 0 rfl) ?_
      refine lv_bipush (v := 6) hx hb d_U_show_5 (by decide) ?_
      refine lv_icmp_ge (tgt := 68) hx hb d_U_show_7 (by decide) (fun c_2 => absurd c_2 (nI_ge (show i < 6 by omega) (by decide))) (fun c_2 => ?_)
      refine lv_aload_n hx hb d_U_show_10 rfl (lv_at hl 1 rfl) ?_
      refine xb_get (v := .ref (o + 7)) hx hb hts xw_in_U hown hK (ci := xi_U) rfl 7 (by decide) (hts _ lk_U_29) rfl hX.1 rfl d_U_show_11 ?_
      refine lv_iload hx hb d_U_show_14 (lv_at hl 0 rfl) ?_
      refine ug_z (v := xs_b (xs_cn τ i).2.2.2.2.2) hx hb hK hX.2.1 7 (by decide) (by decide) rfl rfl (vp_in_nI (show i < 6 by omega) (by decide)) ((by rw [(xs_ix_nI (show i < 2 ^ 31 by omega))]; exact (hX.2.2.1.2.2.1 i ((xs_ix_nI (show i < 2 ^ 31 by omega)) ▸ xs_ixl (vp_in_nI (show i < 6 by omega) (by decide)))).2.2.2.1)) d_U_show_16 ?_
      refine lv_if_eq (tgt := 62) hx hb d_U_show_17 (by decide) (fun c_3 => ?_) (fun c_3 => ?_)
      · have c_3 := xs_b0 c_3
        refine lv_iinc (v := nI (i + 1)) (lv' := [(4, .int (nI (i + 1))), (0, .ref o), (1, .int x), (2, .int y), (3, .int k)]) hx hb d_U_show_62 hl (k := 0) rfl (nI_1 _) (by decide) rfl (fun ls hl => ?_)
        refine lv_goto (tgt := 3) hx hb d_U_show_65 (by decide) ?_
        exact ihn9 (i + 1) τ rp9 _ _ _ _ ls (by omega) hX hS (lv_sub hl [0, 1, 2, 3, 4] rfl) (by rw [← hres]; simp only [xm_sp, xm_pres, xm_av, xs_b, Bool.true_and, Bool.false_and, decide_true, decide_false, c_3, if_true, if_false, reduceIte, Bool.false_eq_true, Bool.true_eq_false, and_true, true_and, and_false, false_and, or_true, true_or, or_false, false_or, not_true_eq_false, not_false_eq_true] <;> rfl) 
      · have c_3 := xs_b1 c_3
        refine lv_aload_n hx hb d_U_show_20 rfl (lv_at hl 1 rfl) ?_
        refine xb_get (v := .ref (o + 5)) hx hb hts xw_in_U hown hK (ci := xi_U) rfl 5 (by decide) (hts _ lk_U_23) rfl hX.1 rfl d_U_show_21 ?_
        refine lv_iload hx hb d_U_show_24 (lv_at hl 0 rfl) ?_
        refine ug_i (v := (xs_cn τ i).2.1) hx hb hK hX.2.1 5 (by decide) (by decide) rfl rfl (vp_in_nI (show i < 6 by omega) (by decide)) ((by rw [(xs_ix_nI (show i < 2 ^ 31 by omega))]; exact (hX.2.2.1.2.2.1 i ((xs_ix_nI (show i < 2 ^ 31 by omega)) ▸ xs_ixl (vp_in_nI (show i < 6 by omega) (by decide)))).2.1)) d_U_show_26 ?_
        refine lv_iload_n hx hb d_U_show_27 rfl (lv_at hl 2 rfl) ?_
        refine lv_icmp_ne (tgt := 62) hx hb d_U_show_28 (by decide) (fun c_4 => ?_) (fun c_4 => ?_)
        · refine lv_iinc (v := nI (i + 1)) (lv' := [(4, .int (nI (i + 1))), (0, .ref o), (1, .int x), (2, .int y), (3, .int k)]) hx hb d_U_show_62 hl (k := 0) rfl (nI_1 _) (by decide) rfl (fun ls hl => ?_)
          refine lv_goto (tgt := 3) hx hb d_U_show_65 (by decide) ?_
          exact ihn9 (i + 1) τ rp9 _ _ _ _ ls (by omega) hX hS (lv_sub hl [0, 1, 2, 3, 4] rfl) (by rw [← hres]; simp only [xm_sp, xm_pres, xm_av, xs_b, Bool.true_and, Bool.false_and, decide_true, decide_false, c_3, c_4, if_true, if_false, reduceIte, Bool.false_eq_true, Bool.true_eq_false, and_true, true_and, and_false, false_and, or_true, true_or, or_false, false_or, not_true_eq_false, not_false_eq_true] <;> rfl) 
        · refine lv_aload_n hx hb d_U_show_31 rfl (lv_at hl 1 rfl) ?_
          refine lv_iload_n hx hb d_U_show_32 rfl (lv_at hl 4 rfl) ?_
          refine lv_iload_n hx hb d_U_show_33 rfl (lv_at hl 2 rfl) ?_
          refine lv_iload_n hx hb d_U_show_34 rfl (lv_at hl 3 rfl) ?_
          refine lv_aload_n hx hb d_U_show_35 rfl (lv_at hl 1 rfl) ?_
          refine xb_get (v := .ref (o + 6)) hx hb hts xw_in_U hown hK (ci := xi_U) rfl 6 (by decide) (hts _ lk_U_26) rfl hX.1 rfl d_U_show_36 ?_
          refine lv_iload hx hb d_U_show_39 (lv_at hl 0 rfl) ?_
          refine ug_i (v := (xs_cn τ i).2.2.1) hx hb hK hX.2.1 6 (by decide) (by decide) rfl rfl (vp_in_nI (show i < 6 by omega) (by decide)) ((by rw [(xs_ix_nI (show i < 2 ^ 31 by omega))]; exact (hX.2.2.1.2.2.1 i ((xs_ix_nI (show i < 2 ^ 31 by omega)) ▸ xs_ixl (vp_in_nI (show i < 6 by omega) (by decide)))).2.2.1)) d_U_show_41 ?_
          refine lv_iload_n hx hb d_U_show_42 rfl (lv_at hl 4 rfl) ?_
          refine lv_iconst (v := 2) hx hb d_U_show_43 (by decide) ?_
          refine lv_icmp_ne (tgt := 57) hx hb d_U_show_44 (by decide) (fun c_5 => ?_) (fun c_5 => ?_)
          · refine lv_iconst (v := 0) hx hb d_U_show_57 (by decide) ?_
            refine lv_iconst (v := (-1)) hx hb d_U_show_58 (by decide) ?_
            refine uk_iV (rest := []) (c_U_send l g o τ th rp9 n t b9 k x y ((xs_cn τ i).2.2.1) 0 (-1) (-1) hvy hvx (xu_sh23 hk) (fun h => absurd h (xu_n1 hk)) (xu_tgn (xu_n1 hk))) gd_U_U_send hd_U_send hC hK hX hS (fun _ h => h) (by omega) (by omega) (by omega) (by omega) hl.1 rfl (Nat.le_of_ble_eq_true rfl) d_U_show_59 (fun rp9 t b9 H locs hG9 hX hS _ _ => ?_)
            refine lv_iinc (v := nI (i + 1)) (lv' := [(4, .int (nI (i + 1))), (0, .ref o), (1, .int x), (2, .int y), (3, .int k)]) hx hb d_U_show_62 hl (k := 0) rfl (nI_1 _) (by decide) rfl (fun ls hl => ?_)
            refine lv_goto (tgt := 3) hx hb d_U_show_65 (by decide) ?_
            exact ihn9 (i + 1) (xm_send τ (k, x, ((xs_cn τ i).2.2.1), 0, y, (-1))) rp9 _ _ _ _ ls (by omega) hX hS (lv_sub hl [0, 1, 2, 3, 4] rfl) (by rw [← hres]; simp only [xm_sp, xm_pres, xm_av, xs_b, Bool.true_and, Bool.false_and, decide_true, decide_false, c_3, c_4, c_5, if_true, if_false, reduceIte, Bool.false_eq_true, Bool.true_eq_false, and_true, true_and, and_false, false_and, or_true, true_or, or_false, false_or, not_true_eq_false, not_false_eq_true] <;> rfl) 
          · refine lv_aload_n hx hb d_U_show_47 rfl (lv_at hl 1 rfl) ?_
            refine xb_get (v := .ref (o + 8)) hx hb hts xw_in_U hown hK (ci := xi_U) rfl 8 (by decide) (hts _ lk_U_32) rfl hX.1 rfl d_U_show_48 ?_
            refine lv_iload hx hb d_U_show_51 (lv_at hl 0 rfl) ?_
            refine ug_i (v := (xs_cn τ i).2.2.2.1) hx hb hK hX.2.1 8 (by decide) (by decide) rfl rfl (vp_in_nI (show i < 6 by omega) (by decide)) ((by rw [(xs_ix_nI (show i < 2 ^ 31 by omega))]; exact (hX.2.2.1.2.2.1 i ((xs_ix_nI (show i < 2 ^ 31 by omega)) ▸ xs_ixl (vp_in_nI (show i < 6 by omega) (by decide)))).2.2.2.2.1)) d_U_show_53 ?_
            refine lv_goto (tgt := 58) hx hb d_U_show_54 (by decide) ?_
            refine lv_iconst (v := (-1)) hx hb d_U_show_58 (by decide) ?_
            refine uk_iV (rest := []) (c_U_send l g o τ th rp9 n t b9 k x y ((xs_cn τ i).2.2.1) ((xs_cn τ i).2.2.2.1) (-1) (-1) hvy hvx (xu_sh23 hk) (fun h => absurd h (xu_n1 hk)) (xu_tgn (xu_n1 hk))) gd_U_U_send hd_U_send hC hK hX hS (fun _ h => h) (by omega) (by omega) (by omega) (by omega) hl.1 rfl (Nat.le_of_ble_eq_true rfl) d_U_show_59 (fun rp9 t b9 H locs hG9 hX hS _ _ => ?_)
            refine lv_iinc (v := nI (i + 1)) (lv' := [(4, .int (nI (i + 1))), (0, .ref o), (1, .int x), (2, .int y), (3, .int k)]) hx hb d_U_show_62 hl (k := 0) rfl (nI_1 _) (by decide) rfl (fun ls hl => ?_)
            refine lv_goto (tgt := 3) hx hb d_U_show_65 (by decide) ?_
            exact ihn9 (i + 1) (xm_send τ (k, x, ((xs_cn τ i).2.2.1), ((xs_cn τ i).2.2.2.1), y, (-1))) rp9 _ _ _ _ ls (by omega) hX hS (lv_sub hl [0, 1, 2, 3, 4] rfl) (by rw [← hres]; simp only [xm_sp, xm_pres, xm_av, xs_b, Bool.true_and, Bool.false_and, decide_true, decide_false, c_3, c_4, c_5, if_true, if_false, reduceIte, Bool.false_eq_true, Bool.true_eq_false, and_true, true_and, and_false, false_and, or_true, true_or, or_false, false_or, not_true_eq_false, not_false_eq_true] <;> rfl) 
  exact loop3 6 0 σ rp _ _ _ _ ls (by omega) hX hS (lv_sub hl [0, 1, 2, 3, 4] rfl) rfl 
set_option maxHeartbeats 4000000 in
set_option maxRecDepth 100000 in
theorem c_U_welcome (l : Launch) (g : xw_G) (o : Nat) (σ : xs_S) (th rp : Int32) (n : Nat) (t : xu_X) (a : xu_M) (x : Int32) (i : Nat) (hvx : vp_in x 6) (hxi : xs_ix x = i) (hvac : vp_in (xs_cn σ i).2.1 8) : uc_V l y_U_welcome (Cond.code y_U_welcome b_U_welcome 5 none) g o σ th rp n t a (xu_wel σ i) th n (fun _ _ => True) [.ref o, .int x] 1 26 := by
  refine uh_V (own := R_U) (by decide) rfl (Nat.le_of_ble_eq_true rfl) ?_
  intro p e R s m below meth c ls hRf hRl hC hK hX hl
  obtain ⟨hx, hb, hml, hr, hown, hts, hlk⟩ := id hC
  have hS : va_S (xu_W o) s.heap s.heap [] := va_S.rf
  have hl : lv_has ls 5 [(0, .ref o), (1, .int x)] := hl
  refine lv_aload_n hx hb d_U_welcome_0 rfl (lv_at hl 0 rfl) ?_
  refine xb_get (v := .ref (o + 5)) hx hb hts xw_in_U hown hK (ci := xi_U) rfl 5 (by decide) (hts _ lk_U_23) rfl hX.1 rfl d_U_welcome_1 ?_
  refine lv_iload_n hx hb d_U_welcome_4 rfl (lv_at hl 1 rfl) ?_
  refine ug_i (v := (xs_cn σ i).2.1) hx hb hK hX.2.1 5 (by decide) (by decide) rfl rfl hvx ((by rw [hxi]; exact (hX.2.2.1.2.2.1 i (hxi ▸ xs_ixl hvx)).2.1)) d_U_welcome_5 ?_
  refine lv_istore_n (lv' := [(2, .int ((xs_cn σ i).2.1)), (0, .ref o), (1, .int x)]) hx hb d_U_welcome_6 rfl hl (by decide) rfl (fun ls hl => ?_)
  refine lv_iconst (v := 0) hx hb d_U_welcome_7 (by decide) ?_
  refine lv_istore_n (lv' := [(3, .int 0), (2, .int ((xs_cn σ i).2.1)), (0, .ref o), (1, .int x)]) hx hb d_U_welcome_8 rfl hl (by decide) rfl (fun ls hl => ?_)
  have loop9 : ∀ (n9 j : Nat) (τ : xs_S) (rp9 : Int32) (t : xu_X) (b9 : xu_M) (H : Heap) (locs : List Loc) (ls : Array Slot), j + n9 = 8 → xu_R g o τ th rp9 n t b9 H → va_S (xu_W o) s.heap H locs → lv_has ls 5 [(3, .int (nI j)), (2, .int ((xs_cn σ i).2.1)), (0, .ref o), (1, .int x)] → xm_so n9 j τ (xs_ix (xs_cn σ i).2.1) i = xm_so 8 0 σ (xs_ix (xs_cn σ i).2.1) i → xs_cn τ = xs_cn σ → W p l e R s m ([.ref o, .int x] : List Value).toArray below meth c H locs 0 0 (MQ below (xb_V (fun T => ∃ rp9 t9 b9, (fun _ _ => True) rp9 b9 ∧ uw_W g o (xu_wel σ i) th rp9 n t9 b9 T) (xu_W o)) ([.ref o, .int x] : List Value).toArray s 0 0 (xu_W o)) (F0 m 9 ls []) := by
    intro n9
    induction n9 with
    | zero =>
      intro j τ rp9 t b9 H locs ls hi hX hS hl hres hcn
      have e9 : j = 8 := by omega
      refine lv_iload_n hx hb d_U_welcome_9 rfl (lv_at hl 0 rfl) ?_
      refine lv_bipush (v := 8) hx hb d_U_welcome_10 (by decide) ?_
      refine lv_icmp_ge (tgt := 108) hx hb d_U_welcome_12 (by decide) (fun c_1 => ?_) (fun c_1 => absurd (nI_le (show 8 ≤ j by omega) (show j < 2 ^ 31 by omega)) c_1)
      refine lv_aload_n hx hb d_U_welcome_108 rfl (lv_at hl 2 rfl) ?_
      refine xb_get (v := .ref (o + 8)) hx hb hts xw_in_U hown hK (ci := xi_U) rfl 8 (by decide) (hts _ lk_U_32) rfl hX.1 rfl d_U_welcome_109 ?_
      refine lv_iload_n hx hb d_U_welcome_112 rfl (lv_at hl 3 rfl) ?_
      refine ug_i (v := (xs_cn τ i).2.2.2.1) hx hb hK hX.2.1 8 (by decide) (by decide) rfl rfl hvx ((by rw [hxi]; exact (hX.2.2.1.2.2.1 i (hxi ▸ xs_ixl hvx)).2.2.2.2.1)) d_U_welcome_113 ?_
      refine lv_if_ge (tgt := 118) hx hb d_U_welcome_114 (by decide) (fun c_2 => ?_) (fun c_2 => ?_)
      · refine lv_iconst (v := 4) hx hb d_U_welcome_118 (by decide) ?_
        refine lv_iload_n hx hb d_U_welcome_119 rfl (lv_at hl 1 rfl) ?_
        refine lv_imul hx hb d_U_welcome_120 ?_
        refine lv_istore_n (lv' := [(3, .int (4 * ((xs_cn σ i).2.1))), (2, .int ((xs_cn σ i).2.1)), (0, .ref o), (1, .int x)]) hx hb d_U_welcome_121 rfl hl (by decide) rfl (fun ls hl => ?_)
        have hA8 : (xs_ix (xs_cn σ i).2.1) < 8 := xs_ixl hvac
        have hlen := (hX.2.2.1.2.2.2.2.1 (xs_ix (xs_cn σ i).2.1) hA8).2.1
        have e4 : 4 * (xs_cn σ i).2.1 = nI (4 * (xs_ix (xs_cn σ i).2.1) + 0) := by obtain ⟨q9, q1, q2, q3⟩ := xu_of hvac; rw [q3, xs_ix_nI q2]; exact nI_mul 4 q9
        have loopL : ∀ (n9 j : Nat) (υ : xs_S) (rp9 : Int32) (t : xu_X) (b9 : xu_M) (H : Heap) (locs : List Loc) (ls : Array Slot), j + n9 = (xs_q τ (xs_ix (xs_cn σ i).2.1)).length → xu_R g o υ th rp9 n t b9 H → va_S (xu_W o) s.heap H locs → lv_has ls 5 [(3, .int (nI (4 * (xs_ix (xs_cn σ i).2.1) + j))), (0, .ref o), (1, .int x), (2, .int ((xs_cn σ i).2.1))] → xu_adds ((xs_q τ (xs_ix (xs_cn σ i).2.1)).drop j) υ i = xu_adds (xs_q τ (xs_ix (xs_cn σ i).2.1)) τ i → xs_q υ (xs_ix (xs_cn σ i).2.1) = xs_q τ (xs_ix (xs_cn σ i).2.1) → W p l e R s m ([.ref o, .int x] : List Value).toArray below meth c H locs 0 0 (MQ below (xb_V (fun T => ∃ rp9 t9 b9, (fun _ _ => True) rp9 b9 ∧ uw_W g o (xu_wel σ i) th rp9 n t9 b9 T) (xu_W o)) ([.ref o, .int x] : List Value).toArray s 0 0 (xu_W o)) (F0 m 122 ls []) := by
          intro n9
          induction n9 with
          | zero =>
            intro j υ rp9 t b9 H locs ls hi hX hS hl hresL hqL
            have e5 : 4 * (xs_cn σ i).2.1 + nI (xs_q υ (xs_ix (xs_cn σ i).2.1)).length = nI (4 * (xs_ix (xs_cn σ i).2.1) + (xs_q τ (xs_ix (xs_cn σ i).2.1)).length) := by rw [e4, hqL, nI_add]; rfl
            refine lv_iload_n hx hb d_U_welcome_122 rfl (lv_at hl 0 rfl) ?_
            refine lv_iconst (v := 4) hx hb d_U_welcome_123 (by decide) ?_
            refine lv_iload_n hx hb d_U_welcome_124 rfl (lv_at hl 3 rfl) ?_
            refine lv_imul hx hb d_U_welcome_125 ?_
            refine lv_aload_n hx hb d_U_welcome_126 rfl (lv_at hl 1 rfl) ?_
            refine xb_get (v := .ref (o + 18)) hx hb hts xw_in_U hown hK (ci := xi_U) rfl 19 (by decide) (hts _ lk_U_62) rfl hX.1 rfl d_U_welcome_127 ?_
            refine lv_iload_n hx hb d_U_welcome_130 rfl (lv_at hl 3 rfl) ?_
            refine ug_i (v := nI (xs_q υ (xs_ix ((xs_cn σ i).2.1))).length) hx hb hK hX.2.1 18 (by decide) (by decide) rfl rfl hvac ((hX.2.2.1.2.2.2.2.1 (xs_ix ((xs_cn σ i).2.1)) (xs_ixl hvac)).1) d_U_welcome_131 ?_
            refine lv_iadd hx hb d_U_welcome_132 ?_
            refine lv_icmp_ge (tgt := 166) hx hb d_U_welcome_133 (by decide) (fun c_3 => ?_) (fun c_3 => absurd (by rw [e5]; exact nI_le (by omega) (by omega)) c_3)
            refine lv_aload_n hx hb d_U_welcome_166 rfl (lv_at hl 1 rfl) ?_
            refine xb_get (v := .ref (o + 18)) hx hb hts xw_in_U hown hK (ci := xi_U) rfl 19 (by decide) (hts _ lk_U_62) rfl hX.1 rfl d_U_welcome_167 ?_
            refine lv_iload_n hx hb d_U_welcome_170 rfl (lv_at hl 3 rfl) ?_
            refine lv_iconst (v := 0) hx hb d_U_welcome_171 (by decide) ?_
            refine up_i (σ' := xm_clear υ (xs_ix ((xs_cn σ i).2.1))) hx hb hK hX hS 18 (by decide) (by decide) rfl rfl hvac d_U_welcome_172 (xu_clearK hX.2.2.1 (xs_ixl hvac)) (xu_clrn (by have := (xs_ixl hvac); omega)) rfl rfl (fun b9 H locs hF9 hX hS => ?_)
            exact ur_V (G := (fun _ _ => True)) (τ := xu_wel σ i) hC hK hX hS trivial (by unfold xu_wel; rw [if_neg (by rw [← hcn]; exact Int32.not_lt.mpr c_2), ← hres, show xm_so 0 _ τ _ i = τ from rfl, xu_hk_ok _ (xs_ixl hvac) rfl, ← hresL, List.drop_of_length_le (by omega)]; rfl) rfl rfl d_U_welcome_173
          | succ n9 ihn9 =>
            intro j υ rp9 t b9 H locs ls hi hX hS hl hresL hqL
            have e5 : 4 * (xs_cn σ i).2.1 + nI (xs_q υ (xs_ix (xs_cn σ i).2.1)).length = nI (4 * (xs_ix (xs_cn σ i).2.1) + (xs_q τ (xs_ix (xs_cn σ i).2.1)).length) := by rw [e4, hqL, nI_add]; rfl
            obtain ⟨z, hz, hdrop⟩ := xu_drop (l := xs_q τ (xs_ix (xs_cn σ i).2.1)) (j := j) (by omega)
            have hk9 := (hX.2.2.1.2.2.2.2.1 (xs_ix (xs_cn σ i).2.1) hA8).2.2 j z (by rw [hqL]; exact hz)
            refine lv_iload_n hx hb d_U_welcome_122 rfl (lv_at hl 0 rfl) ?_
            refine lv_iconst (v := 4) hx hb d_U_welcome_123 (by decide) ?_
            refine lv_iload_n hx hb d_U_welcome_124 rfl (lv_at hl 3 rfl) ?_
            refine lv_imul hx hb d_U_welcome_125 ?_
            refine lv_aload_n hx hb d_U_welcome_126 rfl (lv_at hl 1 rfl) ?_
            refine xb_get (v := .ref (o + 18)) hx hb hts xw_in_U hown hK (ci := xi_U) rfl 19 (by decide) (hts _ lk_U_62) rfl hX.1 rfl d_U_welcome_127 ?_
            refine lv_iload_n hx hb d_U_welcome_130 rfl (lv_at hl 3 rfl) ?_
            refine ug_i (v := nI (xs_q υ (xs_ix ((xs_cn σ i).2.1))).length) hx hb hK hX.2.1 18 (by decide) (by decide) rfl rfl hvac ((hX.2.2.1.2.2.2.2.1 (xs_ix ((xs_cn σ i).2.1)) (xs_ixl hvac)).1) d_U_welcome_131 ?_
            refine lv_iadd hx hb d_U_welcome_132 ?_
            refine lv_icmp_ge (tgt := 166) hx hb d_U_welcome_133 (by decide) (fun c_4 => absurd c_4 (by rw [e5]; exact nI_ge (by omega) (by omega))) (fun c_4 => ?_)
            refine lv_aload_n hx hb d_U_welcome_136 rfl (lv_at hl 1 rfl) ?_
            refine lv_iload_n hx hb d_U_welcome_137 rfl (lv_at hl 2 rfl) ?_
            refine lv_iconst (v := 1) hx hb d_U_welcome_138 (by decide) ?_
            refine lv_aload_n hx hb d_U_welcome_139 rfl (lv_at hl 1 rfl) ?_
            refine xb_get (v := .ref (o + 15)) hx hb hts xw_in_U hown hK (ci := xi_U) rfl 16 (by decide) (hts _ lk_U_53) rfl hX.1 rfl d_U_welcome_140 ?_
            refine lv_iload_n hx hb d_U_welcome_143 rfl (lv_at hl 0 rfl) ?_
            refine ug_i (v := z.2.1) hx hb hK hX.2.1 15 (by decide) (by decide) rfl rfl (vp_in_nI (show 4 * (xs_ix (xs_cn σ i).2.1) + j < 32 by omega) (by decide)) (by rw [xs_ix_nI (show 4 * (xs_ix (xs_cn σ i).2.1) + j < 2 ^ 31 by omega)]; exact hk9.2.1) d_U_welcome_144 ?_
            refine lv_aload_n hx hb d_U_welcome_145 rfl (lv_at hl 1 rfl) ?_
            refine xb_get (v := .ref (o + 16)) hx hb hts xw_in_U hown hK (ci := xi_U) rfl 17 (by decide) (hts _ lk_U_56) rfl hX.1 rfl d_U_welcome_146 ?_
            refine lv_iload_n hx hb d_U_welcome_149 rfl (lv_at hl 0 rfl) ?_
            refine ug_i (v := z.2.2.1) hx hb hK hX.2.1 16 (by decide) (by decide) rfl rfl (vp_in_nI (show 4 * (xs_ix (xs_cn σ i).2.1) + j < 32 by omega) (by decide)) (by rw [xs_ix_nI (show 4 * (xs_ix (xs_cn σ i).2.1) + j < 2 ^ 31 by omega)]; exact hk9.2.2.1) d_U_welcome_150 ?_
            refine lv_aload_n hx hb d_U_welcome_151 rfl (lv_at hl 1 rfl) ?_
            refine xb_get (v := .ref (o + 17)) hx hb hts xw_in_U hown hK (ci := xi_U) rfl 18 (by decide) (hts _ lk_U_59) rfl hX.1 rfl d_U_welcome_152 ?_
            refine lv_iload_n hx hb d_U_welcome_155 rfl (lv_at hl 0 rfl) ?_
            refine ug_i (v := z.2.2.2.1) hx hb hK hX.2.1 17 (by decide) (by decide) rfl rfl (vp_in_nI (show 4 * (xs_ix (xs_cn σ i).2.1) + j < 32 by omega) (by decide)) (by rw [xs_ix_nI (show 4 * (xs_ix (xs_cn σ i).2.1) + j < 2 ^ 31 by omega)]; exact hk9.2.2.2) d_U_welcome_156 ?_
            refine uk_iV (rest := []) (c_U_put l g o υ th rp9 n t b9 x i hvx hxi (1, z.2.1, z.2.2.1, z.2.2.2.1, z.2.2.2.2.1, z.2.2.2.2.2)) gd_U_U_put hd_U_put hC hK hX hS (fun _ h => h) (by omega) (by omega) (by omega) (by omega) hl.1 rfl (Nat.le_of_ble_eq_true rfl) d_U_welcome_157 (fun rp9 t b9 H locs hG9 hX hS _ _ => ?_)
            refine lv_iinc (v := nI (4 * (xs_ix (xs_cn σ i).2.1) + j + 1)) (lv' := [(3, .int (nI (4 * (xs_ix (xs_cn σ i).2.1) + j + 1))), (0, .ref o), (1, .int x), (2, .int ((xs_cn σ i).2.1))]) hx hb d_U_welcome_160 hl (k := 0) rfl (nI_1 _) (by decide) rfl (fun ls hl => ?_)
            refine lv_goto (tgt := 122) hx hb d_U_welcome_163 (by decide) ?_
            have hl : lv_has ls 5 [(3, .int (nI (4 * (xs_ix (xs_cn σ i).2.1) + (j + 1)))), (0, .ref o), (1, .int x), (2, .int ((xs_cn σ i).2.1))] := lv_sub hl [0, 1, 2, 3] rfl
            exact ihn9 (j + 1) _ rp9 _ _ _ _ ls (by omega) hX hS hl (by rw [xu_z1 hk9.1, ← hresL, hdrop]; rfl) (by rw [xm_q_add_ne (by have := xs_ixl hvac; omega)]; exact hqL)
        rw [e4] at hl
        exact loopL (xs_q τ (xs_ix (xs_cn σ i).2.1)).length 0 τ rp9 _ _ _ _ ls (by omega) hX hS (lv_sub hl [0, 2, 3, 1] rfl) rfl rfl
      · exact ur_V (G := (fun _ _ => True)) (τ := xu_wel σ i) hC hK hX hS trivial (by unfold xu_wel; rw [if_pos (by rw [← hcn]; exact Int32.not_le.mp c_2)]; exact hres) rfl rfl d_U_welcome_117
    | succ n9 ihn9 =>
      intro j τ rp9 t b9 H locs ls hi hX hS hl hres hcn
      refine lv_iload_n hx hb d_U_welcome_9 rfl (lv_at hl 0 rfl) ?_
      refine lv_bipush (v := 8) hx hb d_U_welcome_10 (by decide) ?_
      refine lv_icmp_ge (tgt := 108) hx hb d_U_welcome_12 (by decide) (fun c_5 => absurd c_5 (nI_ge (show j < 8 by omega) (by decide))) (fun c_5 => ?_)
      refine lv_aload_n hx hb d_U_welcome_15 rfl (lv_at hl 2 rfl) ?_
      refine lv_iload_n hx hb d_U_welcome_16 rfl (lv_at hl 1 rfl) ?_
      refine lv_iload_n hx hb d_U_welcome_17 rfl (lv_at hl 0 rfl) ?_
      refine lv_iconst (v := 1) hx hb d_U_welcome_18 (by decide) ?_
      refine uk_iQ (rest := []) (c_U_marked l g o τ th rp9 n t b9 ((xs_cn σ i).2.1) (xs_ix ((xs_cn σ i).2.1)) hvac rfl (nI j) j (vp_in_nI (show j < 8 by omega) (by decide)) (xs_ix_nI (show j < 2 ^ 31 by omega)) 1) gd_U_U_marked hd_U_marked hC hK hX hS (fun _ h => h) (by omega) (by omega) (by omega) (by omega) hl.1 rfl (Nat.le_of_ble_eq_true rfl) d_U_welcome_19 (fun rp9 t b9 H locs hG9 hX hS _ _ => ?_)
      refine lv_if_eq (tgt := 102) hx hb d_U_welcome_22 (by decide) (fun c_6 => ?_) (fun c_6 => ?_)
      · have c_6 := xs_b0 c_6
        refine lv_iinc (v := nI (j + 1)) (lv' := [(3, .int (nI (j + 1))), (2, .int ((xs_cn σ i).2.1)), (0, .ref o), (1, .int x)]) hx hb d_U_welcome_102 hl (k := 0) rfl (nI_1 _) (by decide) rfl (fun ls hl => ?_)
        refine lv_goto (tgt := 9) hx hb d_U_welcome_105 (by decide) ?_
        exact ihn9 (j + 1) τ rp9 _ _ _ _ ls (by omega) hX hS (lv_sub hl [0, 1, 2, 3] rfl) (by rw [← hres]; simp only [xm_so, c_6, if_true, if_false, reduceIte, Bool.false_eq_true, Bool.true_eq_false, and_true, true_and, and_false, false_and, or_true, true_or, or_false, false_or, not_true_eq_false, not_false_eq_true] <;> rfl) hcn
      · have c_6 := xs_b1 c_6
        refine lv_iload_n hx hb d_U_welcome_25 rfl (lv_at hl 1 rfl) ?_
        refine lv_iconst (v := 4) hx hb d_U_welcome_26 (by decide) ?_
        refine lv_idiv hx hb d_U_welcome_27 (by decide) ?_
        refine lv_iload_n hx hb d_U_welcome_28 rfl (lv_at hl 0 rfl) ?_
        refine lv_iconst (v := 4) hx hb d_U_welcome_29 (by decide) ?_
        refine lv_idiv hx hb d_U_welcome_30 (by decide) ?_
        refine lv_icmp_eq (tgt := 44) hx hb d_U_welcome_31 (by decide) (fun c_7 => ?_) (fun c_7 => ?_)
        · have hre : xm_reach τ (xs_cn τ i).2.1 (nI j) = true := by rw [hcn]; exact xu_reach1 hvac (vp_in_nI (show j < 8 by omega) (by decide)) c_7
          refine lv_iconst (v := 0) hx hb d_U_welcome_44 (by decide) ?_
          refine lv_istore (lv' := [(4, .int 0), (3, .int (nI j)), (2, .int ((xs_cn σ i).2.1)), (0, .ref o), (1, .int x)]) hx hb d_U_welcome_45 hl (by decide) rfl (fun ls hl => ?_)
          have loop47 : ∀ (m9 d : Nat) (υ : xs_S) (rp9 : Int32) (t : xu_X) (b9 : xu_M) (H : Heap) (locs : List Loc) (ls : Array Slot), d + m9 = 6 → xu_R g o υ th rp9 n t b9 H → va_S (xu_W o) s.heap H locs → lv_has ls 5 [(4, .int (nI d)), (3, .int (nI j)), (2, .int ((xs_cn σ i).2.1)), (0, .ref o), (1, .int x)] → xm_sco m9 d υ (nI j) i = xm_sco 6 0 τ (nI j) i → xs_cn υ = xs_cn σ → W p l e R s m ([.ref o, .int x] : List Value).toArray below meth c H locs 0 0 (MQ below (xb_V (fun T => ∃ rp9 t9 b9, (fun _ _ => True) rp9 b9 ∧ uw_W g o (xu_wel σ i) th rp9 n t9 b9 T) (xu_W o)) ([.ref o, .int x] : List Value).toArray s 0 0 (xu_W o)) (F0 m 47 ls []) := by
            intro m9
            induction m9 with
            | zero =>
              intro d υ rp9 t b9 H locs ls hi hX hS hl hresI hcnI
              have e9 : d = 6 := by omega
              refine lv_iload hx hb d_U_welcome_47 (lv_at hl 0 rfl) ?_
              refine lv_bipush (v := 6) hx hb d_U_welcome_49 (by decide) ?_
              refine lv_icmp_ge (tgt := 102) hx hb d_U_welcome_51 (by decide) (fun c_8 => ?_) (fun c_8 => absurd (nI_le (show 6 ≤ d by omega) (show d < 2 ^ 31 by omega)) c_8)
              refine lv_iinc (v := nI (j + 1)) (lv' := [(3, .int (nI (j + 1))), (4, .int (nI d)), (2, .int ((xs_cn σ i).2.1)), (0, .ref o), (1, .int x)]) hx hb d_U_welcome_102 hl (k := 1) rfl (nI_1 _) (by decide) rfl (fun ls hl => ?_)
              refine lv_goto (tgt := 9) hx hb d_U_welcome_105 (by decide) ?_
              exact ihn9 (j + 1) υ rp9 _ _ _ _ ls (by omega) hX hS (lv_sub hl [0, 2, 3, 4] rfl) (by rw [← hres]; simp only [xm_so, c_6, c_7, hre, ← hresI, if_true, if_false, reduceIte, Bool.false_eq_true, Bool.true_eq_false, and_true, true_and, and_false, false_and, or_true, true_or, or_false, false_or, not_true_eq_false, not_false_eq_true] <;> rfl) hcnI
            | succ m9 ihm9 =>
              intro d υ rp9 t b9 H locs ls hi hX hS hl hresI hcnI
              refine lv_iload hx hb d_U_welcome_47 (lv_at hl 0 rfl) ?_
              refine lv_bipush (v := 6) hx hb d_U_welcome_49 (by decide) ?_
              refine lv_icmp_ge (tgt := 102) hx hb d_U_welcome_51 (by decide) (fun c_9 => absurd c_9 (nI_ge (show d < 6 by omega) (by decide))) (fun c_9 => ?_)
              refine lv_aload_n hx hb d_U_welcome_54 rfl (lv_at hl 3 rfl) ?_
              refine xb_get (v := .ref (o + 7)) hx hb hts xw_in_U hown hK (ci := xi_U) rfl 7 (by decide) (hts _ lk_U_29) rfl hX.1 rfl d_U_welcome_55 ?_
              refine lv_iload hx hb d_U_welcome_58 (lv_at hl 0 rfl) ?_
              refine ug_z (v := xs_b (xs_cn υ d).2.2.2.2.2) hx hb hK hX.2.1 7 (by decide) (by decide) rfl rfl (vp_in_nI (show d < 6 by omega) (by decide)) ((by rw [(xs_ix_nI (show d < 2 ^ 31 by omega))]; exact (hX.2.2.1.2.2.1 d ((xs_ix_nI (show d < 2 ^ 31 by omega)) ▸ xs_ixl (vp_in_nI (show d < 6 by omega) (by decide)))).2.2.2.1)) d_U_welcome_60 ?_
              refine lv_if_eq (tgt := 96) hx hb d_U_welcome_61 (by decide) (fun c_10 => ?_) (fun c_10 => ?_)
              · have c_10 := xs_b0 c_10
                refine lv_iinc (v := nI (d + 1)) (lv' := [(4, .int (nI (d + 1))), (3, .int (nI j)), (2, .int ((xs_cn σ i).2.1)), (0, .ref o), (1, .int x)]) hx hb d_U_welcome_96 hl (k := 0) rfl (nI_1 _) (by decide) rfl (fun ls hl => ?_)
                refine lv_goto (tgt := 47) hx hb d_U_welcome_99 (by decide) ?_
                exact ihm9 (d + 1) υ rp9 _ _ _ _ ls (by omega) hX hS (lv_sub hl [0, 1, 2, 3, 4] rfl) (by rw [← hresI]; simp only [xm_sco, xm_pres, xm_av, xs_b, Bool.true_and, Bool.false_and, decide_true, decide_false, c_10, if_true, if_false, reduceIte, Bool.false_eq_true, Bool.true_eq_false, and_true, true_and, and_false, false_and, or_true, true_or, or_false, false_or, not_true_eq_false, not_false_eq_true] <;> rfl) hcnI
              · have c_10 := xs_b1 c_10
                refine lv_aload_n hx hb d_U_welcome_64 rfl (lv_at hl 3 rfl) ?_
                refine xb_get (v := .ref (o + 5)) hx hb hts xw_in_U hown hK (ci := xi_U) rfl 5 (by decide) (hts _ lk_U_23) rfl hX.1 rfl d_U_welcome_65 ?_
                refine lv_iload hx hb d_U_welcome_68 (lv_at hl 0 rfl) ?_
                refine ug_i (v := (xs_cn υ d).2.1) hx hb hK hX.2.1 5 (by decide) (by decide) rfl rfl (vp_in_nI (show d < 6 by omega) (by decide)) ((by rw [(xs_ix_nI (show d < 2 ^ 31 by omega))]; exact (hX.2.2.1.2.2.1 d ((xs_ix_nI (show d < 2 ^ 31 by omega)) ▸ xs_ixl (vp_in_nI (show d < 6 by omega) (by decide)))).2.1)) d_U_welcome_70 ?_
                refine lv_iload_n hx hb d_U_welcome_71 rfl (lv_at hl 1 rfl) ?_
                refine lv_icmp_ne (tgt := 96) hx hb d_U_welcome_72 (by decide) (fun c_11 => ?_) (fun c_11 => ?_)
                · refine lv_iinc (v := nI (d + 1)) (lv' := [(4, .int (nI (d + 1))), (3, .int (nI j)), (2, .int ((xs_cn σ i).2.1)), (0, .ref o), (1, .int x)]) hx hb d_U_welcome_96 hl (k := 0) rfl (nI_1 _) (by decide) rfl (fun ls hl => ?_)
                  refine lv_goto (tgt := 47) hx hb d_U_welcome_99 (by decide) ?_
                  exact ihm9 (d + 1) υ rp9 _ _ _ _ ls (by omega) hX hS (lv_sub hl [0, 1, 2, 3, 4] rfl) (by rw [← hresI]; simp only [xm_sco, xm_pres, xm_av, xs_b, Bool.true_and, Bool.false_and, decide_true, decide_false, c_10, c_11, if_true, if_false, reduceIte, Bool.false_eq_true, Bool.true_eq_false, and_true, true_and, and_false, false_and, or_true, true_or, or_false, false_or, not_true_eq_false, not_false_eq_true] <;> rfl) hcnI
                · refine lv_aload_n hx hb d_U_welcome_75 rfl (lv_at hl 3 rfl) ?_
                  refine lv_iload_n hx hb d_U_welcome_76 rfl (lv_at hl 4 rfl) ?_
                  refine lv_iconst (v := 2) hx hb d_U_welcome_77 (by decide) ?_
                  refine lv_iload_n hx hb d_U_welcome_78 rfl (lv_at hl 1 rfl) ?_
                  refine lv_aload_n hx hb d_U_welcome_79 rfl (lv_at hl 3 rfl) ?_
                  refine xb_get (v := .ref (o + 6)) hx hb hts xw_in_U hown hK (ci := xi_U) rfl 6 (by decide) (hts _ lk_U_26) rfl hX.1 rfl d_U_welcome_80 ?_
                  refine lv_iload hx hb d_U_welcome_83 (lv_at hl 0 rfl) ?_
                  refine ug_i (v := (xs_cn υ d).2.2.1) hx hb hK hX.2.1 6 (by decide) (by decide) rfl rfl (vp_in_nI (show d < 6 by omega) (by decide)) ((by rw [(xs_ix_nI (show d < 2 ^ 31 by omega))]; exact (hX.2.2.1.2.2.1 d ((xs_ix_nI (show d < 2 ^ 31 by omega)) ▸ xs_ixl (vp_in_nI (show d < 6 by omega) (by decide)))).2.2.1)) d_U_welcome_85 ?_
                  refine lv_aload_n hx hb d_U_welcome_86 rfl (lv_at hl 3 rfl) ?_
                  refine xb_get (v := .ref (o + 8)) hx hb hts xw_in_U hown hK (ci := xi_U) rfl 8 (by decide) (hts _ lk_U_32) rfl hX.1 rfl d_U_welcome_87 ?_
                  refine lv_iload hx hb d_U_welcome_90 (lv_at hl 0 rfl) ?_
                  refine ug_i (v := (xs_cn υ d).2.2.2.1) hx hb hK hX.2.1 8 (by decide) (by decide) rfl rfl (vp_in_nI (show d < 6 by omega) (by decide)) ((by rw [(xs_ix_nI (show d < 2 ^ 31 by omega))]; exact (hX.2.2.1.2.2.1 d ((xs_ix_nI (show d < 2 ^ 31 by omega)) ▸ xs_ixl (vp_in_nI (show d < 6 by omega) (by decide)))).2.2.2.2.1)) d_U_welcome_92 ?_
                  refine uk_iV (rest := []) (c_U_put l g o υ th rp9 n t b9 x i hvx hxi (2, nI j, (xs_cn υ d).2.2.1, (xs_cn υ d).2.2.2.1, (xs_cn υ i).2.1, -1)) gd_U_U_put hd_U_put hC hK hX hS (fun _ h => h) (by omega) (by omega) (by omega) (by omega) hl.1 rfl (Nat.le_of_ble_eq_true rfl) d_U_welcome_93 (fun rp9 t b9 H locs hG9 hX hS _ _ => ?_)
                  refine lv_iinc (v := nI (d + 1)) (lv' := [(4, .int (nI (d + 1))), (3, .int (nI j)), (2, .int ((xs_cn σ i).2.1)), (0, .ref o), (1, .int x)]) hx hb d_U_welcome_96 hl (k := 0) rfl (nI_1 _) (by decide) rfl (fun ls hl => ?_)
                  refine lv_goto (tgt := 47) hx hb d_U_welcome_99 (by decide) ?_
                  exact ihm9 (d + 1) (xm_add υ (8 + i) (2, nI j, (xs_cn υ d).2.2.1, (xs_cn υ d).2.2.2.1, (xs_cn υ i).2.1, -1)) rp9 _ _ _ _ ls (by omega) hX hS (lv_sub hl [0, 1, 2, 3, 4] rfl) (by rw [← hresI]; simp only [xm_sco, xm_pres, xm_av, xs_b, Bool.true_and, Bool.false_and, decide_true, decide_false, c_10, c_11, if_true, if_false, reduceIte, Bool.false_eq_true, Bool.true_eq_false, and_true, true_and, and_false, false_and, or_true, true_or, or_false, false_or, not_true_eq_false, not_false_eq_true] <;> rfl) (xm_same_add.2.1.trans hcnI)
          exact loop47 6 0 τ rp9 _ _ _ _ ls (by omega) hX hS (lv_sub hl [0, 1, 2, 3, 4] rfl) rfl hcn
        · refine lv_aload_n hx hb d_U_welcome_34 rfl (lv_at hl 2 rfl) ?_
          refine xb_get (v := .int (xs_b (xs_up τ))) hx hb hts xw_in_U hown hK (ci := xi_U) rfl 27 (by decide) (hts _ lk_U_83) rfl hX.1 rfl d_U_welcome_35 ?_
          refine lv_if_ne (tgt := 44) hx hb d_U_welcome_38 (by decide) (fun c_12 => ?_) (fun c_12 => ?_)
          · have c_12 := xs_b1 c_12
            have hre : xm_reach τ (xs_cn τ i).2.1 (nI j) = true := xu_reach2 c_12
            refine lv_iconst (v := 0) hx hb d_U_welcome_44 (by decide) ?_
            refine lv_istore (lv' := [(4, .int 0), (3, .int (nI j)), (2, .int ((xs_cn σ i).2.1)), (0, .ref o), (1, .int x)]) hx hb d_U_welcome_45 hl (by decide) rfl (fun ls hl => ?_)
            have loop47 : ∀ (m9 d : Nat) (υ : xs_S) (rp9 : Int32) (t : xu_X) (b9 : xu_M) (H : Heap) (locs : List Loc) (ls : Array Slot), d + m9 = 6 → xu_R g o υ th rp9 n t b9 H → va_S (xu_W o) s.heap H locs → lv_has ls 5 [(4, .int (nI d)), (3, .int (nI j)), (2, .int ((xs_cn σ i).2.1)), (0, .ref o), (1, .int x)] → xm_sco m9 d υ (nI j) i = xm_sco 6 0 τ (nI j) i → xs_cn υ = xs_cn σ → W p l e R s m ([.ref o, .int x] : List Value).toArray below meth c H locs 0 0 (MQ below (xb_V (fun T => ∃ rp9 t9 b9, (fun _ _ => True) rp9 b9 ∧ uw_W g o (xu_wel σ i) th rp9 n t9 b9 T) (xu_W o)) ([.ref o, .int x] : List Value).toArray s 0 0 (xu_W o)) (F0 m 47 ls []) := by
              intro m9
              induction m9 with
              | zero =>
                intro d υ rp9 t b9 H locs ls hi hX hS hl hresI hcnI
                have e9 : d = 6 := by omega
                refine lv_iload hx hb d_U_welcome_47 (lv_at hl 0 rfl) ?_
                refine lv_bipush (v := 6) hx hb d_U_welcome_49 (by decide) ?_
                refine lv_icmp_ge (tgt := 102) hx hb d_U_welcome_51 (by decide) (fun c_13 => ?_) (fun c_13 => absurd (nI_le (show 6 ≤ d by omega) (show d < 2 ^ 31 by omega)) c_13)
                refine lv_iinc (v := nI (j + 1)) (lv' := [(3, .int (nI (j + 1))), (4, .int (nI d)), (2, .int ((xs_cn σ i).2.1)), (0, .ref o), (1, .int x)]) hx hb d_U_welcome_102 hl (k := 1) rfl (nI_1 _) (by decide) rfl (fun ls hl => ?_)
                refine lv_goto (tgt := 9) hx hb d_U_welcome_105 (by decide) ?_
                exact ihn9 (j + 1) υ rp9 _ _ _ _ ls (by omega) hX hS (lv_sub hl [0, 2, 3, 4] rfl) (by rw [← hres]; simp only [xm_so, c_6, c_7, c_12, hre, ← hresI, if_true, if_false, reduceIte, Bool.false_eq_true, Bool.true_eq_false, and_true, true_and, and_false, false_and, or_true, true_or, or_false, false_or, not_true_eq_false, not_false_eq_true] <;> rfl) hcnI
              | succ m9 ihm9 =>
                intro d υ rp9 t b9 H locs ls hi hX hS hl hresI hcnI
                refine lv_iload hx hb d_U_welcome_47 (lv_at hl 0 rfl) ?_
                refine lv_bipush (v := 6) hx hb d_U_welcome_49 (by decide) ?_
                refine lv_icmp_ge (tgt := 102) hx hb d_U_welcome_51 (by decide) (fun c_14 => absurd c_14 (nI_ge (show d < 6 by omega) (by decide))) (fun c_14 => ?_)
                refine lv_aload_n hx hb d_U_welcome_54 rfl (lv_at hl 3 rfl) ?_
                refine xb_get (v := .ref (o + 7)) hx hb hts xw_in_U hown hK (ci := xi_U) rfl 7 (by decide) (hts _ lk_U_29) rfl hX.1 rfl d_U_welcome_55 ?_
                refine lv_iload hx hb d_U_welcome_58 (lv_at hl 0 rfl) ?_
                refine ug_z (v := xs_b (xs_cn υ d).2.2.2.2.2) hx hb hK hX.2.1 7 (by decide) (by decide) rfl rfl (vp_in_nI (show d < 6 by omega) (by decide)) ((by rw [(xs_ix_nI (show d < 2 ^ 31 by omega))]; exact (hX.2.2.1.2.2.1 d ((xs_ix_nI (show d < 2 ^ 31 by omega)) ▸ xs_ixl (vp_in_nI (show d < 6 by omega) (by decide)))).2.2.2.1)) d_U_welcome_60 ?_
                refine lv_if_eq (tgt := 96) hx hb d_U_welcome_61 (by decide) (fun c_15 => ?_) (fun c_15 => ?_)
                · have c_15 := xs_b0 c_15
                  refine lv_iinc (v := nI (d + 1)) (lv' := [(4, .int (nI (d + 1))), (3, .int (nI j)), (2, .int ((xs_cn σ i).2.1)), (0, .ref o), (1, .int x)]) hx hb d_U_welcome_96 hl (k := 0) rfl (nI_1 _) (by decide) rfl (fun ls hl => ?_)
                  refine lv_goto (tgt := 47) hx hb d_U_welcome_99 (by decide) ?_
                  exact ihm9 (d + 1) υ rp9 _ _ _ _ ls (by omega) hX hS (lv_sub hl [0, 1, 2, 3, 4] rfl) (by rw [← hresI]; simp only [xm_sco, xm_pres, xm_av, xs_b, Bool.true_and, Bool.false_and, decide_true, decide_false, c_15, if_true, if_false, reduceIte, Bool.false_eq_true, Bool.true_eq_false, and_true, true_and, and_false, false_and, or_true, true_or, or_false, false_or, not_true_eq_false, not_false_eq_true] <;> rfl) hcnI
                · have c_15 := xs_b1 c_15
                  refine lv_aload_n hx hb d_U_welcome_64 rfl (lv_at hl 3 rfl) ?_
                  refine xb_get (v := .ref (o + 5)) hx hb hts xw_in_U hown hK (ci := xi_U) rfl 5 (by decide) (hts _ lk_U_23) rfl hX.1 rfl d_U_welcome_65 ?_
                  refine lv_iload hx hb d_U_welcome_68 (lv_at hl 0 rfl) ?_
                  refine ug_i (v := (xs_cn υ d).2.1) hx hb hK hX.2.1 5 (by decide) (by decide) rfl rfl (vp_in_nI (show d < 6 by omega) (by decide)) ((by rw [(xs_ix_nI (show d < 2 ^ 31 by omega))]; exact (hX.2.2.1.2.2.1 d ((xs_ix_nI (show d < 2 ^ 31 by omega)) ▸ xs_ixl (vp_in_nI (show d < 6 by omega) (by decide)))).2.1)) d_U_welcome_70 ?_
                  refine lv_iload_n hx hb d_U_welcome_71 rfl (lv_at hl 1 rfl) ?_
                  refine lv_icmp_ne (tgt := 96) hx hb d_U_welcome_72 (by decide) (fun c_16 => ?_) (fun c_16 => ?_)
                  · refine lv_iinc (v := nI (d + 1)) (lv' := [(4, .int (nI (d + 1))), (3, .int (nI j)), (2, .int ((xs_cn σ i).2.1)), (0, .ref o), (1, .int x)]) hx hb d_U_welcome_96 hl (k := 0) rfl (nI_1 _) (by decide) rfl (fun ls hl => ?_)
                    refine lv_goto (tgt := 47) hx hb d_U_welcome_99 (by decide) ?_
                    exact ihm9 (d + 1) υ rp9 _ _ _ _ ls (by omega) hX hS (lv_sub hl [0, 1, 2, 3, 4] rfl) (by rw [← hresI]; simp only [xm_sco, xm_pres, xm_av, xs_b, Bool.true_and, Bool.false_and, decide_true, decide_false, c_15, c_16, if_true, if_false, reduceIte, Bool.false_eq_true, Bool.true_eq_false, and_true, true_and, and_false, false_and, or_true, true_or, or_false, false_or, not_true_eq_false, not_false_eq_true] <;> rfl) hcnI
                  · refine lv_aload_n hx hb d_U_welcome_75 rfl (lv_at hl 3 rfl) ?_
                    refine lv_iload_n hx hb d_U_welcome_76 rfl (lv_at hl 4 rfl) ?_
                    refine lv_iconst (v := 2) hx hb d_U_welcome_77 (by decide) ?_
                    refine lv_iload_n hx hb d_U_welcome_78 rfl (lv_at hl 1 rfl) ?_
                    refine lv_aload_n hx hb d_U_welcome_79 rfl (lv_at hl 3 rfl) ?_
                    refine xb_get (v := .ref (o + 6)) hx hb hts xw_in_U hown hK (ci := xi_U) rfl 6 (by decide) (hts _ lk_U_26) rfl hX.1 rfl d_U_welcome_80 ?_
                    refine lv_iload hx hb d_U_welcome_83 (lv_at hl 0 rfl) ?_
                    refine ug_i (v := (xs_cn υ d).2.2.1) hx hb hK hX.2.1 6 (by decide) (by decide) rfl rfl (vp_in_nI (show d < 6 by omega) (by decide)) ((by rw [(xs_ix_nI (show d < 2 ^ 31 by omega))]; exact (hX.2.2.1.2.2.1 d ((xs_ix_nI (show d < 2 ^ 31 by omega)) ▸ xs_ixl (vp_in_nI (show d < 6 by omega) (by decide)))).2.2.1)) d_U_welcome_85 ?_
                    refine lv_aload_n hx hb d_U_welcome_86 rfl (lv_at hl 3 rfl) ?_
                    refine xb_get (v := .ref (o + 8)) hx hb hts xw_in_U hown hK (ci := xi_U) rfl 8 (by decide) (hts _ lk_U_32) rfl hX.1 rfl d_U_welcome_87 ?_
                    refine lv_iload hx hb d_U_welcome_90 (lv_at hl 0 rfl) ?_
                    refine ug_i (v := (xs_cn υ d).2.2.2.1) hx hb hK hX.2.1 8 (by decide) (by decide) rfl rfl (vp_in_nI (show d < 6 by omega) (by decide)) ((by rw [(xs_ix_nI (show d < 2 ^ 31 by omega))]; exact (hX.2.2.1.2.2.1 d ((xs_ix_nI (show d < 2 ^ 31 by omega)) ▸ xs_ixl (vp_in_nI (show d < 6 by omega) (by decide)))).2.2.2.2.1)) d_U_welcome_92 ?_
                    refine uk_iV (rest := []) (c_U_put l g o υ th rp9 n t b9 x i hvx hxi (2, nI j, (xs_cn υ d).2.2.1, (xs_cn υ d).2.2.2.1, (xs_cn υ i).2.1, -1)) gd_U_U_put hd_U_put hC hK hX hS (fun _ h => h) (by omega) (by omega) (by omega) (by omega) hl.1 rfl (Nat.le_of_ble_eq_true rfl) d_U_welcome_93 (fun rp9 t b9 H locs hG9 hX hS _ _ => ?_)
                    refine lv_iinc (v := nI (d + 1)) (lv' := [(4, .int (nI (d + 1))), (3, .int (nI j)), (2, .int ((xs_cn σ i).2.1)), (0, .ref o), (1, .int x)]) hx hb d_U_welcome_96 hl (k := 0) rfl (nI_1 _) (by decide) rfl (fun ls hl => ?_)
                    refine lv_goto (tgt := 47) hx hb d_U_welcome_99 (by decide) ?_
                    exact ihm9 (d + 1) (xm_add υ (8 + i) (2, nI j, (xs_cn υ d).2.2.1, (xs_cn υ d).2.2.2.1, (xs_cn υ i).2.1, -1)) rp9 _ _ _ _ ls (by omega) hX hS (lv_sub hl [0, 1, 2, 3, 4] rfl) (by rw [← hresI]; simp only [xm_sco, xm_pres, xm_av, xs_b, Bool.true_and, Bool.false_and, decide_true, decide_false, c_15, c_16, if_true, if_false, reduceIte, Bool.false_eq_true, Bool.true_eq_false, and_true, true_and, and_false, false_and, or_true, true_or, or_false, false_or, not_true_eq_false, not_false_eq_true] <;> rfl) (xm_same_add.2.1.trans hcnI)
            exact loop47 6 0 τ rp9 _ _ _ _ ls (by omega) hX hS (lv_sub hl [0, 1, 2, 3, 4] rfl) rfl hcn
          · have c_12 := xs_b0 c_12
            have hre : xm_reach τ (xs_cn τ i).2.1 (nI j) = false := by rw [hcn]; exact xu_reach3 hvac (vp_in_nI (show j < 8 by omega) (by decide)) c_7 c_12
            refine lv_goto (tgt := 102) hx hb d_U_welcome_41 (by decide) ?_
            refine lv_iinc (v := nI (j + 1)) (lv' := [(3, .int (nI (j + 1))), (2, .int ((xs_cn σ i).2.1)), (0, .ref o), (1, .int x)]) hx hb d_U_welcome_102 hl (k := 0) rfl (nI_1 _) (by decide) rfl (fun ls hl => ?_)
            refine lv_goto (tgt := 9) hx hb d_U_welcome_105 (by decide) ?_
            exact ihn9 (j + 1) τ rp9 _ _ _ _ ls (by omega) hX hS (lv_sub hl [0, 1, 2, 3] rfl) (by rw [← hres]; simp only [xm_so, c_6, c_7, c_12, hre, if_true, if_false, reduceIte, Bool.false_eq_true, Bool.true_eq_false, and_true, true_and, and_false, false_and, or_true, true_or, or_false, false_or, not_true_eq_false, not_false_eq_true] <;> rfl) hcn
  exact loop9 8 0 σ rp _ _ _ _ ls (by omega) hX hS (lv_sub hl [0, 1, 2, 3] rfl) rfl rfl
