/-! The reference, by program. -/
set_option maxHeartbeats 4000000 in
set_option maxRecDepth 100000 in
theorem c_U_thrown (l : Launch) (g : xw_G) (o : Nat) (σ : xs_S) (th rp : Int32) (n : Nat) (t : xu_X) (a : xu_M) : uc_Q l y_U_thrown (Cond.code y_U_thrown b_U_thrown 1 (some .int)) g o σ th rp n t a th σ th n (fun rp9 b9 => rp9 = rp ∧ xu_K a b9) [.ref o] 0 0 := by
  refine uh_Q (own := R_U) (by decide) rfl (Nat.le_of_ble_eq_true rfl) ?_
  intro p e R s m below meth c ls hRf hRl hC hK hX hl
  obtain ⟨hx, hb, hml, hr, hown, hts, hlk⟩ := id hC
  have hS : va_S (xu_W o) s.heap s.heap [] := va_S.rf
  have hF : xu_K a a := xu_K.rf
  have hl : lv_has ls 1 [(0, .ref o)] := hl
  refine lv_aload_n hx hb d_U_thrown_0 rfl (lv_at hl 0 rfl) ?_
  refine xb_get (v := .int th) hx hb hts xw_in_U hown hK (ci := xi_U) rfl 0 (by decide) (hts _ lk_U_87) rfl hX.1 rfl d_U_thrown_1 ?_
  exact ur_I (G := (fun rp9 b9 => rp9 = rp ∧ xu_K a b9)) (τ := σ) (r := th) hC hK hX hS ⟨rfl, hF⟩ rfl rfl rfl rfl d_U_thrown_4
set_option maxHeartbeats 4000000 in
set_option maxRecDepth 100000 in
theorem c_U_raise (l : Launch) (g : xw_G) (o : Nat) (σ : xs_S) (th rp : Int32) (n : Nat) (t : xu_X) (a : xu_M) (x : Int32) : uc_Q l y_U_raise (Cond.code y_U_raise b_U_raise 2 (some .int)) g o σ th rp n t a 0 σ x n (fun rp9 b9 => rp9 = rp ∧ xu_K a b9) [.ref o, .int x] 0 0 := by
  refine uh_Q (own := R_U) (by decide) rfl (Nat.le_of_ble_eq_true rfl) ?_
  intro p e R s m below meth c ls hRf hRl hC hK hX hl
  obtain ⟨hx, hb, hml, hr, hown, hts, hlk⟩ := id hC
  have hS : va_S (xu_W o) s.heap s.heap [] := va_S.rf
  have hF : xu_K a a := xu_K.rf
  have hl : lv_has ls 2 [(0, .ref o), (1, .int x)] := hl
  refine lv_aload_n hx hb d_U_raise_0 rfl (lv_at hl 0 rfl) ?_
  refine lv_iload_n hx hb d_U_raise_1 rfl (lv_at hl 1 rfl) ?_
  refine uo_put (sc' := xu_num σ x rp n t) hx hb hts hown hK hX.1 hX.2.1 hS 0 (by decide) lk_U_87 rfl rfl rfl rfl rfl d_U_raise_2 (fun H locs hO hA hS => ?_)
  have hX : xu_R g o σ x rp n t a H := ⟨hO, hA, hX.2.2.1, hX.2.2.2.1, hX.2.2.2.2⟩
  refine lv_iconst (v := 0) hx hb d_U_raise_5 (by decide) ?_
  exact ur_I (G := (fun rp9 b9 => rp9 = rp ∧ xu_K a b9)) (τ := σ) (r := 0) hC hK hX hS ⟨rfl, hF⟩ rfl rfl rfl rfl d_U_raise_6
set_option maxHeartbeats 4000000 in
set_option maxRecDepth 100000 in
theorem c_U_in (l : Launch) (g : xw_G) (o : Nat) (σ : xs_S) (th rp : Int32) (n : Nat) (t : xu_X) (a : xu_M) (x y z : Int32) : uc_Q l y_U_in (Cond.code y_U_in b_U_in 3 (some .boolean)) g o σ th rp n t a (xs_b (xu_i x y z)) σ th n (fun rp9 b9 => rp9 = rp ∧ xu_K a b9) [.int x, .int y, .int z] 0 0 := by
  refine uh_Q (own := R_U) (by decide) rfl (Nat.le_of_ble_eq_true rfl) ?_
  intro p e R s m below meth c ls hRf hRl hC hK hX hl
  obtain ⟨hx, hb, hml, hr, hown, hts, hlk⟩ := id hC
  have hS : va_S (xu_W o) s.heap s.heap [] := va_S.rf
  have hF : xu_K a a := xu_K.rf
  have hl : lv_has ls 3 [(0, .int x), (1, .int y), (2, .int z)] := hl
  refine lv_iload_n hx hb d_U_in_0 rfl (lv_at hl 0 rfl) ?_
  refine lv_iload_n hx hb d_U_in_1 rfl (lv_at hl 1 rfl) ?_
  refine lv_icmp_lt (tgt := 14) hx hb d_U_in_2 (by decide) (fun c_1 => ?_) (fun c_1 => ?_)
  · refine lv_iconst (v := 0) hx hb d_U_in_14 (by decide) ?_
    exact ur_Z (G := (fun rp9 b9 => rp9 = rp ∧ xu_K a b9)) (τ := σ) (r := xs_b (xu_i x y z)) hC hK hX hS ⟨rfl, hF⟩ rfl rfl rfl rfl (by simp only [xu_i, xs_b, Bool.true_and, Bool.false_and, decide_true, decide_false, c_1, if_true, if_false, reduceIte, Bool.false_eq_true, Bool.true_eq_false, and_true, true_and, and_false, false_and, or_true, true_or, or_false, false_or, not_true_eq_false, not_false_eq_true] <;> rfl) d_U_in_15
  · refine lv_iload_n hx hb d_U_in_5 rfl (lv_at hl 0 rfl) ?_
    refine lv_iload_n hx hb d_U_in_6 rfl (lv_at hl 2 rfl) ?_
    refine lv_icmp_gt (tgt := 14) hx hb d_U_in_7 (by decide) (fun c_2 => ?_) (fun c_2 => ?_)
    · refine lv_iconst (v := 0) hx hb d_U_in_14 (by decide) ?_
      exact ur_Z (G := (fun rp9 b9 => rp9 = rp ∧ xu_K a b9)) (τ := σ) (r := xs_b (xu_i x y z)) hC hK hX hS ⟨rfl, hF⟩ rfl rfl rfl rfl (by simp only [xu_i, xs_b, Bool.true_and, Bool.false_and, decide_true, decide_false, c_1, c_2, if_true, if_false, reduceIte, Bool.false_eq_true, Bool.true_eq_false, and_true, true_and, and_false, false_and, or_true, true_or, or_false, false_or, not_true_eq_false, not_false_eq_true] <;> rfl) d_U_in_15
    · refine lv_iconst (v := 1) hx hb d_U_in_10 (by decide) ?_
      refine lv_goto (tgt := 15) hx hb d_U_in_11 (by decide) ?_
      exact ur_Z (G := (fun rp9 b9 => rp9 = rp ∧ xu_K a b9)) (τ := σ) (r := xs_b (xu_i x y z)) hC hK hX hS ⟨rfl, hF⟩ rfl rfl rfl rfl (by simp only [xu_i, xs_b, Bool.true_and, Bool.false_and, decide_true, decide_false, c_1, c_2, if_true, if_false, reduceIte, Bool.false_eq_true, Bool.true_eq_false, and_true, true_and, and_false, false_and, or_true, true_or, or_false, false_or, not_true_eq_false, not_false_eq_true] <;> rfl) d_U_in_15
set_option maxHeartbeats 4000000 in
set_option maxRecDepth 100000 in
theorem c_U_isConnection (l : Launch) (g : xw_G) (o : Nat) (σ : xs_S) (th rp : Int32) (n : Nat) (t : xu_X) (a : xu_M) (x : Int32) : uc_Q l y_U_isConnection (Cond.code y_U_isConnection b_U_isConnection 1 (some .boolean)) g o σ th rp n t a (xs_b (xm_in6 x)) σ th n (fun rp9 b9 => rp9 = rp ∧ xu_K a b9) [.int x] 1 22 := by
  refine uh_Q (own := R_U) (by decide) rfl (Nat.le_of_ble_eq_true rfl) ?_
  intro p e R s m below meth c ls hRf hRl hC hK hX hl
  obtain ⟨hx, hb, hml, hr, hown, hts, hlk⟩ := id hC
  have hS : va_S (xu_W o) s.heap s.heap [] := va_S.rf
  have hF : xu_K a a := xu_K.rf
  have hl : lv_has ls 1 [(0, .int x)] := hl
  refine lv_iload_n hx hb d_U_isConnection_0 rfl (lv_at hl 0 rfl) ?_
  refine lv_iconst (v := 0) hx hb d_U_isConnection_1 (by decide) ?_
  refine lv_iconst (v := 5) hx hb d_U_isConnection_2 (by decide) ?_
  refine uk_sQ (rest := []) (c_U_in l g o σ th rp n t a x 0 5) gd_U_U_in hd_U_in hC hK hX hS (fun _ h => h) (by omega) (by omega) (by omega) (by omega) hl.1 rfl (Nat.le_of_ble_eq_true rfl) d_U_isConnection_3 (fun rp9 t b9 H locs hG9 hX hS _ _ => ?_)
  rw [hG9.1] at hX
  have hF := hF.tr hG9.2
  exact ur_Z (G := (fun rp9 b9 => rp9 = rp ∧ xu_K a b9)) (τ := σ) (r := xs_b (xm_in6 x)) hC hK hX hS ⟨rfl, hF⟩ rfl rfl rfl (xs_bn _) (congrArg xs_b xu_i6) d_U_isConnection_6
set_option maxHeartbeats 4000000 in
set_option maxRecDepth 100000 in
theorem c_U_isAccount (l : Launch) (g : xw_G) (o : Nat) (σ : xs_S) (th rp : Int32) (n : Nat) (t : xu_X) (a : xu_M) (x : Int32) : uc_Q l y_U_isAccount (Cond.code y_U_isAccount b_U_isAccount 1 (some .boolean)) g o σ th rp n t a (xs_b (xm_in8 x)) σ th n (fun rp9 b9 => rp9 = rp ∧ xu_K a b9) [.int x] 1 22 := by
  refine uh_Q (own := R_U) (by decide) rfl (Nat.le_of_ble_eq_true rfl) ?_
  intro p e R s m below meth c ls hRf hRl hC hK hX hl
  obtain ⟨hx, hb, hml, hr, hown, hts, hlk⟩ := id hC
  have hS : va_S (xu_W o) s.heap s.heap [] := va_S.rf
  have hF : xu_K a a := xu_K.rf
  have hl : lv_has ls 1 [(0, .int x)] := hl
  refine lv_iload_n hx hb d_U_isAccount_0 rfl (lv_at hl 0 rfl) ?_
  refine lv_iconst (v := 0) hx hb d_U_isAccount_1 (by decide) ?_
  refine lv_bipush (v := 7) hx hb d_U_isAccount_2 (by decide) ?_
  refine uk_sQ (rest := []) (c_U_in l g o σ th rp n t a x 0 7) gd_U_U_in hd_U_in hC hK hX hS (fun _ h => h) (by omega) (by omega) (by omega) (by omega) hl.1 rfl (Nat.le_of_ble_eq_true rfl) d_U_isAccount_4 (fun rp9 t b9 H locs hG9 hX hS _ _ => ?_)
  rw [hG9.1] at hX
  have hF := hF.tr hG9.2
  exact ur_Z (G := (fun rp9 b9 => rp9 = rp ∧ xu_K a b9)) (τ := σ) (r := xs_b (xm_in8 x)) hC hK hX hS ⟨rfl, hF⟩ rfl rfl rfl (xs_bn _) (congrArg xs_b xu_i8) d_U_isAccount_7
set_option maxHeartbeats 4000000 in
set_option maxRecDepth 100000 in
theorem c_U_marked (l : Launch) (g : xw_G) (o : Nat) (σ : xs_S) (th rp : Int32) (n : Nat) (t : xu_X) (a : xu_M) (x : Int32) (i : Nat) (hvx : vp_in x 8) (hxi : xs_ix x = i) (y : Int32) (j : Nat) (hvy : vp_in y 8) (hyj : xs_ix y = j) (k : Int32) : uc_Q l y_U_marked (Cond.code y_U_marked b_U_marked 4 (some .boolean)) g o σ th rp n t a (xs_b (xm_has σ i j k)) σ th n (fun rp9 b9 => rp9 = rp ∧ xu_K a b9) [.ref o, .int x, .int y, .int k] 0 0 := by
  refine uh_Q (own := R_U) (by decide) rfl (Nat.le_of_ble_eq_true rfl) ?_
  intro p e R s m below meth c ls hRf hRl hC hK hX hl
  obtain ⟨hx, hb, hml, hr, hown, hts, hlk⟩ := id hC
  have hS : va_S (xu_W o) s.heap s.heap [] := va_S.rf
  have hF : xu_K a a := xu_K.rf
  have hl : lv_has ls 4 [(0, .ref o), (1, .int x), (2, .int y), (3, .int k)] := hl
  have hm := xu_ix8 hvx hvy
  rw [hxi, hyj] at hm
  have hi8 : i < 8 := hxi ▸ xs_ixl hvx
  have hj8 : j < 8 := hyj ▸ xs_ixl hvy
  refine lv_aload_n hx hb d_U_marked_0 rfl (lv_at hl 0 rfl) ?_
  refine xb_get (v := .ref (o + 3)) hx hb hts xw_in_U hown hK (ci := xi_U) rfl 3 (by decide) (hts _ lk_U_17) rfl hX.1 rfl d_U_marked_1 ?_
  refine lv_bipush (v := 8) hx hb d_U_marked_4 (by decide) ?_
  refine lv_iload_n hx hb d_U_marked_6 rfl (lv_at hl 1 rfl) ?_
  refine lv_imul hx hb d_U_marked_7 ?_
  refine lv_iload_n hx hb d_U_marked_8 rfl (lv_at hl 2 rfl) ?_
  refine lv_iadd hx hb d_U_marked_9 ?_
  refine ug_i (v := xs_mk σ i j) hx hb hK hX.2.1 3 (by decide) (by decide) rfl rfl hm.1 ((by rw [hm.2]; exact hX.2.2.1.2.1 _ _ hi8 hj8)) d_U_marked_10 ?_
  refine lv_iload_n hx hb d_U_marked_11 rfl (lv_at hl 3 rfl) ?_
  refine lv_iand hx hb d_U_marked_12 ?_
  refine lv_if_eq (tgt := 20) hx hb d_U_marked_13 (by decide) (fun c_1 => ?_) (fun c_1 => ?_)
  · refine lv_iconst (v := 0) hx hb d_U_marked_20 (by decide) ?_
    exact ur_Z (G := (fun rp9 b9 => rp9 = rp ∧ xu_K a b9)) (τ := σ) (r := xs_b (xm_has σ i j k)) hC hK hX hS ⟨rfl, hF⟩ rfl rfl rfl rfl (by simp only [xm_has, xs_b, Bool.true_and, Bool.false_and, decide_true, decide_false, c_1, if_true, if_false, reduceIte, Bool.false_eq_true, Bool.true_eq_false, and_true, true_and, and_false, false_and, or_true, true_or, or_false, false_or, not_true_eq_false, not_false_eq_true] <;> rfl) d_U_marked_21
  · refine lv_iconst (v := 1) hx hb d_U_marked_16 (by decide) ?_
    refine lv_goto (tgt := 21) hx hb d_U_marked_17 (by decide) ?_
    exact ur_Z (G := (fun rp9 b9 => rp9 = rp ∧ xu_K a b9)) (τ := σ) (r := xs_b (xm_has σ i j k)) hC hK hX hS ⟨rfl, hF⟩ rfl rfl rfl rfl (by simp only [xm_has, xs_b, Bool.true_and, Bool.false_and, decide_true, decide_false, c_1, if_true, if_false, reduceIte, Bool.false_eq_true, Bool.true_eq_false, and_true, true_and, and_false, false_and, or_true, true_or, or_false, false_or, not_true_eq_false, not_false_eq_true] <;> rfl) d_U_marked_21
set_option maxHeartbeats 4000000 in
set_option maxRecDepth 100000 in
theorem c_U_mark (l : Launch) (g : xw_G) (o : Nat) (σ : xs_S) (th rp : Int32) (n : Nat) (t : xu_X) (a : xu_M) (x : Int32) (i : Nat) (hvx : vp_in x 8) (hxi : xs_ix x = i) (y : Int32) (j : Nat) (hvy : vp_in y 8) (hyj : xs_ix y = j) (k : Int32) : uc_V l y_U_mark (Cond.code y_U_mark b_U_mark 4 none) g o σ th rp n t a (xm_mark σ i j k) th n (fun rp9 b9 => rp9 = rp ∧ xu_K a b9) [.ref o, .int x, .int y, .int k] 0 0 := by
  refine uh_V (own := R_U) (by decide) rfl (Nat.le_of_ble_eq_true rfl) ?_
  intro p e R s m below meth c ls hRf hRl hC hK hX hl
  obtain ⟨hx, hb, hml, hr, hown, hts, hlk⟩ := id hC
  have hS : va_S (xu_W o) s.heap s.heap [] := va_S.rf
  have hF : xu_K a a := xu_K.rf
  have hl : lv_has ls 4 [(0, .ref o), (1, .int x), (2, .int y), (3, .int k)] := hl
  have hm := xu_ix8 hvx hvy
  rw [hxi, hyj] at hm
  have hi8 : i < 8 := hxi ▸ xs_ixl hvx
  have hj8 : j < 8 := hyj ▸ xs_ixl hvy
  refine lv_aload_n hx hb d_U_mark_0 rfl (lv_at hl 0 rfl) ?_
  refine xb_get (v := .ref (o + 3)) hx hb hts xw_in_U hown hK (ci := xi_U) rfl 3 (by decide) (hts _ lk_U_17) rfl hX.1 rfl d_U_mark_1 ?_
  refine lv_bipush (v := 8) hx hb d_U_mark_4 (by decide) ?_
  refine lv_iload_n hx hb d_U_mark_6 rfl (lv_at hl 1 rfl) ?_
  refine lv_imul hx hb d_U_mark_7 ?_
  refine lv_iload_n hx hb d_U_mark_8 rfl (lv_at hl 2 rfl) ?_
  refine lv_iadd hx hb d_U_mark_9 ?_
  refine lv_dup2_11 hx hb d_U_mark_10 rfl rfl ?_
  refine ug_i (v := xs_mk σ i j) hx hb hK hX.2.1 3 (by decide) (by decide) rfl rfl hm.1 ((by rw [hm.2]; exact hX.2.2.1.2.1 _ _ hi8 hj8)) d_U_mark_11 ?_
  refine lv_iload_n hx hb d_U_mark_12 rfl (lv_at hl 3 rfl) ?_
  refine lv_ior hx hb d_U_mark_13 ?_
  refine up_i (σ' := xs_smk σ i j ((xs_mk σ i j) ||| k)) hx hb hK hX hS 3 (by decide) (by decide) rfl rfl hm.1 d_U_mark_14 ((by rw [hm.2]; exact hX.2.2.1.mk hj8)) rfl rfl rfl (fun b9 H locs hF9 hX hS => ?_)
  have hF := hF.tr hF9
  exact ur_V (G := (fun rp9 b9 => rp9 = rp ∧ xu_K a b9)) (τ := xm_mark σ i j k) hC hK hX hS ⟨rfl, hF⟩ rfl rfl rfl d_U_mark_15
set_option maxHeartbeats 4000000 in
set_option maxRecDepth 100000 in
theorem c_U_unmark (l : Launch) (g : xw_G) (o : Nat) (σ : xs_S) (th rp : Int32) (n : Nat) (t : xu_X) (a : xu_M) (x : Int32) (i : Nat) (hvx : vp_in x 8) (hxi : xs_ix x = i) (y : Int32) (j : Nat) (hvy : vp_in y 8) (hyj : xs_ix y = j) (k : Int32) : uc_V l y_U_unmark (Cond.code y_U_unmark b_U_unmark 4 none) g o σ th rp n t a (xm_drop σ i j k) th n (fun rp9 b9 => rp9 = rp ∧ xu_K a b9) [.ref o, .int x, .int y, .int k] 0 0 := by
  refine uh_V (own := R_U) (by decide) rfl (Nat.le_of_ble_eq_true rfl) ?_
  intro p e R s m below meth c ls hRf hRl hC hK hX hl
  obtain ⟨hx, hb, hml, hr, hown, hts, hlk⟩ := id hC
  have hS : va_S (xu_W o) s.heap s.heap [] := va_S.rf
  have hF : xu_K a a := xu_K.rf
  have hl : lv_has ls 4 [(0, .ref o), (1, .int x), (2, .int y), (3, .int k)] := hl
  have hm := xu_ix8 hvx hvy
  rw [hxi, hyj] at hm
  have hi8 : i < 8 := hxi ▸ xs_ixl hvx
  have hj8 : j < 8 := hyj ▸ xs_ixl hvy
  refine lv_aload_n hx hb d_U_unmark_0 rfl (lv_at hl 0 rfl) ?_
  refine xb_get (v := .ref (o + 3)) hx hb hts xw_in_U hown hK (ci := xi_U) rfl 3 (by decide) (hts _ lk_U_17) rfl hX.1 rfl d_U_unmark_1 ?_
  refine lv_bipush (v := 8) hx hb d_U_unmark_4 (by decide) ?_
  refine lv_iload_n hx hb d_U_unmark_6 rfl (lv_at hl 1 rfl) ?_
  refine lv_imul hx hb d_U_unmark_7 ?_
  refine lv_iload_n hx hb d_U_unmark_8 rfl (lv_at hl 2 rfl) ?_
  refine lv_iadd hx hb d_U_unmark_9 ?_
  refine lv_dup2_11 hx hb d_U_unmark_10 rfl rfl ?_
  refine ug_i (v := xs_mk σ i j) hx hb hK hX.2.1 3 (by decide) (by decide) rfl rfl hm.1 ((by rw [hm.2]; exact hX.2.2.1.2.1 _ _ hi8 hj8)) d_U_unmark_11 ?_
  refine lv_iload_n hx hb d_U_unmark_12 rfl (lv_at hl 3 rfl) ?_
  refine lv_iconst (v := (-1)) hx hb d_U_unmark_13 (by decide) ?_
  refine lv_ixor hx hb d_U_unmark_14 ?_
  refine lv_iand hx hb d_U_unmark_15 ?_
  refine up_i (σ' := xs_smk σ i j ((xs_mk σ i j) &&& (k ^^^ (-1)))) hx hb hK hX hS 3 (by decide) (by decide) rfl rfl hm.1 d_U_unmark_16 ((by rw [hm.2]; exact hX.2.2.1.mk hj8)) rfl rfl rfl (fun b9 H locs hF9 hX hS => ?_)
  have hF := hF.tr hF9
  exact ur_V (G := (fun rp9 b9 => rp9 = rp ∧ xu_K a b9)) (τ := xm_drop σ i j k) hC hK hX hS ⟨rfl, hF⟩ rfl rfl rfl d_U_unmark_17
set_option maxHeartbeats 4000000 in
set_option maxRecDepth 100000 in
theorem c_U_put (l : Launch) (g : xw_G) (o : Nat) (σ : xs_S) (th rp : Int32) (n : Nat) (t : xu_X) (a : xu_M) (x : Int32) (i : Nat) (hvx : vp_in x 6) (hxi : xs_ix x = i) (z : xs_Z) : uc_V l y_U_put (Cond.code y_U_put b_U_put 7 none) g o σ th rp n t a (xm_add σ (8 + i) z) th n (fun rp9 b9 => rp9 = rp ∧ xu_K a b9) [.ref o, .int x, .int z.1, .int z.2.1, .int z.2.2.1, .int z.2.2.2.1] 0 0 := by
  refine uh_V (own := R_U) (by decide) rfl (Nat.le_of_ble_eq_true rfl) ?_
  intro p e R s m below meth c ls hRf hRl hC hK hX hl
  obtain ⟨hx, hb, hml, hr, hown, hts, hlk⟩ := id hC
  have hS : va_S (xu_W o) s.heap s.heap [] := va_S.rf
  have hF : xu_K a a := xu_K.rf
  have hl : lv_has ls 7 [(0, .ref o), (1, .int x), (2, .int z.1), (3, .int z.2.1), (4, .int z.2.2.1), (5, .int z.2.2.2.1)] := hl
  have hi6 : i < 6 := hxi ▸ xs_ixl hvx
  have hlen := (hX.2.2.1.2.2.2.1 i hi6).2.1
  refine lv_aload_n hx hb d_U_put_0 rfl (lv_at hl 0 rfl) ?_
  refine xb_get (v := .ref (o + 14)) hx hb hts xw_in_U hown hK (ci := xi_U) rfl 15 (by decide) (hts _ lk_U_50) rfl hX.1 rfl d_U_put_1 ?_
  refine lv_iload_n hx hb d_U_put_4 rfl (lv_at hl 1 rfl) ?_
  refine ug_i (v := nI (xs_q σ (8 + i)).length) hx hb hK hX.2.1 14 (by decide) (by decide) rfl rfl hvx ((by rw [hxi]; exact (hX.2.2.1.2.2.2.1 i (hxi ▸ xs_ixl hvx)).1)) d_U_put_5 ?_
  refine lv_bipush (v := 10) hx hb d_U_put_6 (by decide) ?_
  refine lv_icmp_ne (tgt := 22) hx hb d_U_put_8 (by decide) (fun c_1 => ?_) (fun c_1 => ?_)
  · have hlt : (xs_q σ (8 + i)).length < 10 := xu_ne10 hlen c_1
    have hm := xu_ix10 hvx hlt
    rw [hxi] at hm
    refine lv_bipush (v := 10) hx hb d_U_put_22 (by decide) ?_
    refine lv_iload_n hx hb d_U_put_24 rfl (lv_at hl 1 rfl) ?_
    refine lv_imul hx hb d_U_put_25 ?_
    refine lv_aload_n hx hb d_U_put_26 rfl (lv_at hl 0 rfl) ?_
    refine xb_get (v := .ref (o + 14)) hx hb hts xw_in_U hown hK (ci := xi_U) rfl 15 (by decide) (hts _ lk_U_50) rfl hX.1 rfl d_U_put_27 ?_
    refine lv_iload_n hx hb d_U_put_30 rfl (lv_at hl 1 rfl) ?_
    refine ug_i (v := nI (xs_q σ (8 + i)).length) hx hb hK hX.2.1 14 (by decide) (by decide) rfl rfl hvx ((by rw [hxi]; exact (hX.2.2.1.2.2.2.1 i (hxi ▸ xs_ixl hvx)).1)) d_U_put_31 ?_
    refine lv_iadd hx hb d_U_put_32 ?_
    refine lv_istore (lv' := [(6, .int ((10 * x) + (nI (xs_q σ (8 + i)).length))), (0, .ref o), (1, .int x), (2, .int z.1), (3, .int z.2.1), (4, .int z.2.2.1), (5, .int z.2.2.2.1)]) hx hb d_U_put_33 hl (by decide) rfl (fun ls hl => ?_)
    refine lv_aload_n hx hb d_U_put_35 rfl (lv_at hl 1 rfl) ?_
    refine xb_get (v := .ref (o + 10)) hx hb hts xw_in_U hown hK (ci := xi_U) rfl 11 (by decide) (hts _ lk_U_38) rfl hX.1 rfl d_U_put_36 ?_
    refine lv_iload hx hb d_U_put_39 (lv_at hl 0 rfl) ?_
    refine lv_iload_n hx hb d_U_put_41 rfl (lv_at hl 3 rfl) ?_
    have hO := hX.1
    have hA := hX.2.1
    have hR := hX.2.2.1
    refine uq_i hx hb hK hO hA hS 10 (by decide) (by decide) rfl rfl hm.1 d_U_put_42 (fun H locs hO hA hS => ?_)
    rw [hm.2] at hA
    refine lv_aload_n hx hb d_U_put_43 rfl (lv_at hl 1 rfl) ?_
    refine xb_get (v := .ref (o + 11)) hx hb hts xw_in_U hown hK (ci := xi_U) rfl 12 (by decide) (hts _ lk_U_41) rfl hO rfl d_U_put_44 ?_
    refine lv_iload hx hb d_U_put_47 (lv_at hl 0 rfl) ?_
    refine lv_iload_n hx hb d_U_put_49 rfl (lv_at hl 4 rfl) ?_
    refine uq_i hx hb hK hO hA hS 11 (by decide) (by decide) rfl rfl hm.1 d_U_put_50 (fun H locs hO hA hS => ?_)
    rw [hm.2] at hA
    refine lv_aload_n hx hb d_U_put_51 rfl (lv_at hl 1 rfl) ?_
    refine xb_get (v := .ref (o + 12)) hx hb hts xw_in_U hown hK (ci := xi_U) rfl 13 (by decide) (hts _ lk_U_44) rfl hO rfl d_U_put_52 ?_
    refine lv_iload hx hb d_U_put_55 (lv_at hl 0 rfl) ?_
    refine lv_iload hx hb d_U_put_57 (lv_at hl 5 rfl) ?_
    refine uq_i hx hb hK hO hA hS 12 (by decide) (by decide) rfl rfl hm.1 d_U_put_59 (fun H locs hO hA hS => ?_)
    rw [hm.2] at hA
    refine lv_aload_n hx hb d_U_put_60 rfl (lv_at hl 1 rfl) ?_
    refine xb_get (v := .ref (o + 13)) hx hb hts xw_in_U hown hK (ci := xi_U) rfl 14 (by decide) (hts _ lk_U_47) rfl hO rfl d_U_put_61 ?_
    refine lv_iload hx hb d_U_put_64 (lv_at hl 0 rfl) ?_
    refine lv_iload hx hb d_U_put_66 (lv_at hl 6 rfl) ?_
    refine uq_i hx hb hK hO hA hS 13 (by decide) (by decide) rfl rfl hm.1 d_U_put_68 (fun H locs hO hA hS => ?_)
    rw [hm.2] at hA
    refine lv_aload_n hx hb d_U_put_69 rfl (lv_at hl 1 rfl) ?_
    refine xb_get (v := .ref (o + 14)) hx hb hts xw_in_U hown hK (ci := xi_U) rfl 15 (by decide) (hts _ lk_U_50) rfl hO rfl d_U_put_70 ?_
    refine lv_iload_n hx hb d_U_put_73 rfl (lv_at hl 2 rfl) ?_
    refine lv_dup2_11 hx hb d_U_put_74 rfl rfl ?_
    refine ug_i (v := nI (xs_q σ (8 + i)).length) hx hb hK hA 14 (by decide) (by decide) rfl rfl hvx (by rw [hxi]; simp only [xu_set_ne (by decide : (14 : Nat) ≠ 13), xu_set_ne (by decide : (14 : Nat) ≠ 12), xu_set_ne (by decide : (14 : Nat) ≠ 11), xu_set_ne (by decide : (14 : Nat) ≠ 10)]; exact (hR.2.2.2.1 i hi6).1) d_U_put_75 ?_
    refine lv_iconst (v := 1) hx hb d_U_put_76 (by decide) ?_
    refine lv_iadd hx hb d_U_put_77 ?_
    refine uq_i hx hb hK hO hA hS 14 (by decide) (by decide) rfl rfl hvx d_U_put_78 (fun H locs hO hA hS => ?_)
    rw [hxi] at hA
    have hX : xu_R g o (xm_add σ (8 + i) z) th rp n t (xu_set (xu_set (xu_set (xu_set (xu_set a 10 (10 * i + (xs_q σ (8 + i)).length) z.1) 11 (10 * i + (xs_q σ (8 + i)).length) z.2.1) 12 (10 * i + (xs_q σ (8 + i)).length) z.2.2.1) 13 (10 * i + (xs_q σ (8 + i)).length) z.2.2.2.1) 14 i ((nI (xs_q σ (8 + i)).length) + 1)) H := ⟨by rw [show xu_num (xm_add σ (8 + i) z) th rp n t = xu_num σ th rp n t from xu_num_add1 hi6 hlt]; exact hO, hA, xu_put1 hR hi6 hlt, xu_tk_add hX.2.2.2.1, xu_nx_add hX.2.2.2.2⟩
    exact ur_V (G := (fun rp9 b9 => rp9 = rp ∧ xu_K a b9)) (τ := xm_add σ (8 + i) z) hC hK hX hS ⟨rfl, ((((hF.set (by decide)).set (by decide)).set (by decide)).set (by decide)).set (by decide)⟩ rfl rfl rfl d_U_put_79
  · refine lv_aload_n hx hb d_U_put_11 rfl (lv_at hl 0 rfl) ?_
    refine lv_dup hx hb d_U_put_12 rfl ?_
    refine xb_get (v := .int (xm_lall 6 0 σ 0)) hx hb hts xw_in_U hown hK (ci := xi_U) rfl 28 (by decide) (hts _ lk_U_95) rfl hX.1 rfl d_U_put_13 ?_
    refine lv_iconst (v := 1) hx hb d_U_put_16 (by decide) ?_
    refine lv_iadd hx hb d_U_put_17 ?_
    have hO := hX.1
    have hA := hX.2.1
    have hR := hX.2.2.1
    refine uo_put (sc' := (th, nI n, nI (xs_q σ 14).length, xs_b (xs_up σ), (xm_lall 6 0 σ 0) + 1, rp, xs_b (xs_lt σ).isSome, t.1, t.2.1, t.2.2)) hx hb hts hown hK hO hA hS 28 (by decide) lk_U_95 rfl rfl rfl rfl rfl d_U_put_18 (fun H locs hO hA hS => ?_)
    have hl10 : (xs_q σ (8 + i)).length = 10 := xu_eq10 hlen c_1
    have hX : xu_R g o (xm_add σ (8 + i) z) th rp n t a H := ⟨by rw [show xu_num (xm_add σ (8 + i) z) th rp n t = (th, nI n, nI (xs_q σ 14).length, xs_b (xs_up σ), xm_lall 6 0 σ 0 + 1, rp, xs_b (xs_lt σ).isSome, t.1, t.2.1, t.2.2) from xu_num_add2 hi6 hl10]; exact hO, hA, xu_put2 hR hi6 hl10, xu_tk_add hX.2.2.2.1, xu_nx_add hX.2.2.2.2⟩
    exact ur_V (G := (fun rp9 b9 => rp9 = rp ∧ xu_K a b9)) (τ := xm_add σ (8 + i) z) hC hK hX hS ⟨rfl, hF⟩ rfl rfl rfl d_U_put_21
set_option maxHeartbeats 4000000 in
set_option maxRecDepth 100000 in
theorem c_U_putAll (l : Launch) (g : xw_G) (o : Nat) (σ : xs_S) (th rp : Int32) (n : Nat) (t : xu_X) (a : xu_M) (z : xs_Z) : uc_V l y_U_putAll (Cond.code y_U_putAll b_U_putAll 7 none) g o σ th rp n t a (xm_give 6 0 σ z) th n (fun rp9 b9 => rp9 = rp ∧ xu_K a b9) [.ref o, .int z.2.2.2.2.1, .int z.1, .int z.2.1, .int z.2.2.1, .int z.2.2.2.1] 1 26 := by
  refine uh_V (own := R_U) (by decide) rfl (Nat.le_of_ble_eq_true rfl) ?_
  intro p e R s m below meth c ls hRf hRl hC hK hX hl
  obtain ⟨hx, hb, hml, hr, hown, hts, hlk⟩ := id hC
  have hS : va_S (xu_W o) s.heap s.heap [] := va_S.rf
  have hF : xu_K a a := xu_K.rf
  have hl : lv_has ls 7 [(0, .ref o), (1, .int z.2.2.2.2.1), (2, .int z.1), (3, .int z.2.1), (4, .int z.2.2.1), (5, .int z.2.2.2.1)] := hl
  refine lv_iconst (v := 0) hx hb d_U_putAll_0 (by decide) ?_
  refine lv_istore (lv' := [(6, .int 0), (0, .ref o), (1, .int z.2.2.2.2.1), (2, .int z.1), (3, .int z.2.1), (4, .int z.2.2.1), (5, .int z.2.2.2.1)]) hx hb d_U_putAll_1 hl (by decide) rfl (fun ls hl => ?_)
  have loop3 : ∀ (n9 i : Nat) (τ : xs_S) (rp9 : Int32) (t : xu_X) (b9 : xu_M) (H : Heap) (locs : List Loc) (ls : Array Slot), i + n9 = 6 → xu_R g o τ th rp n t b9 H → va_S (xu_W o) s.heap H locs → xu_K a b9 → lv_has ls 7 [(6, .int (nI i)), (0, .ref o), (1, .int z.2.2.2.2.1), (2, .int z.1), (3, .int z.2.1), (4, .int z.2.2.1), (5, .int z.2.2.2.1)] → xm_give n9 i τ z = xm_give 6 0 σ z → W p l e R s m ([.ref o, .int z.2.2.2.2.1, .int z.1, .int z.2.1, .int z.2.2.1, .int z.2.2.2.1] : List Value).toArray below meth c H locs 0 0 (MQ below (xb_V (fun T => ∃ rp9 t9 b9, (fun rp9 b9 => rp9 = rp ∧ xu_K a b9) rp9 b9 ∧ uw_W g o (xm_give 6 0 σ z) th rp9 n t9 b9 T) (xu_W o)) ([.ref o, .int z.2.2.2.2.1, .int z.1, .int z.2.1, .int z.2.2.1, .int z.2.2.2.1] : List Value).toArray s 0 0 (xu_W o)) (F0 m 3 ls []) := by
    intro n9
    induction n9 with
    | zero =>
      intro i τ rp9 t b9 H locs ls hi hX hS hF hl hres 
      have e9 : i = 6 := by omega
      refine lv_iload hx hb d_U_putAll_3 (lv_at hl 0 rfl) ?_
      refine lv_bipush (v := 6) hx hb d_U_putAll_5 (by decide) ?_
      refine lv_icmp_ge (tgt := 49) hx hb d_U_putAll_7 (by decide) (fun c_1 => ?_) (fun c_1 => absurd (nI_le (show 6 ≤ i by omega) (show i < 2 ^ 31 by omega)) c_1)
      exact ur_V (G := (fun rp9 b9 => rp9 = rp ∧ xu_K a b9)) (τ := xm_give 6 0 σ z) hC hK hX hS ⟨rfl, hF⟩ hres rfl rfl d_U_putAll_49
    | succ n9 ihn9 =>
      intro i τ rp9 t b9 H locs ls hi hX hS hF hl hres 
      refine lv_iload hx hb d_U_putAll_3 (lv_at hl 0 rfl) ?_
      refine lv_bipush (v := 6) hx hb d_U_putAll_5 (by decide) ?_
      refine lv_icmp_ge (tgt := 49) hx hb d_U_putAll_7 (by decide) (fun c_2 => absurd c_2 (nI_ge (show i < 6 by omega) (by decide))) (fun c_2 => ?_)
      refine lv_aload_n hx hb d_U_putAll_10 rfl (lv_at hl 1 rfl) ?_
      refine xb_get (v := .ref (o + 7)) hx hb hts xw_in_U hown hK (ci := xi_U) rfl 7 (by decide) (hts _ lk_U_29) rfl hX.1 rfl d_U_putAll_11 ?_
      refine lv_iload hx hb d_U_putAll_14 (lv_at hl 0 rfl) ?_
      refine ug_z (v := xs_b (xs_cn τ i).2.2.2.2.2) hx hb hK hX.2.1 7 (by decide) (by decide) rfl rfl (vp_in_nI (show i < 6 by omega) (by decide)) ((by rw [(xs_ix_nI (show i < 2 ^ 31 by omega))]; exact (hX.2.2.1.2.2.1 i ((xs_ix_nI (show i < 2 ^ 31 by omega)) ▸ xs_ixl (vp_in_nI (show i < 6 by omega) (by decide)))).2.2.2.1)) d_U_putAll_16 ?_
      refine lv_if_eq (tgt := 43) hx hb d_U_putAll_17 (by decide) (fun c_3 => ?_) (fun c_3 => ?_)
      · have c_3 := xs_b0 c_3
        refine lv_iinc (v := nI (i + 1)) (lv' := [(6, .int (nI (i + 1))), (0, .ref o), (1, .int z.2.2.2.2.1), (2, .int z.1), (3, .int z.2.1), (4, .int z.2.2.1), (5, .int z.2.2.2.1)]) hx hb d_U_putAll_43 hl (k := 0) rfl (nI_1 _) (by decide) rfl (fun ls hl => ?_)
        refine lv_goto (tgt := 3) hx hb d_U_putAll_46 (by decide) ?_
        exact ihn9 (i + 1) τ rp _ _ _ _ ls (by omega) hX hS hF (lv_sub hl [0, 1, 2, 3, 4, 5, 6] rfl) (by rw [← hres]; simp only [xm_give, xm_av, xs_b, Bool.true_and, Bool.false_and, decide_true, decide_false, c_3, if_true, if_false, reduceIte, Bool.false_eq_true, Bool.true_eq_false, and_true, true_and, and_false, false_and, or_true, true_or, or_false, false_or, not_true_eq_false, not_false_eq_true] <;> rfl) 
      · have c_3 := xs_b1 c_3
        refine lv_aload_n hx hb d_U_putAll_20 rfl (lv_at hl 1 rfl) ?_
        refine xb_get (v := .ref (o + 5)) hx hb hts xw_in_U hown hK (ci := xi_U) rfl 5 (by decide) (hts _ lk_U_23) rfl hX.1 rfl d_U_putAll_21 ?_
        refine lv_iload hx hb d_U_putAll_24 (lv_at hl 0 rfl) ?_
        refine ug_i (v := (xs_cn τ i).2.1) hx hb hK hX.2.1 5 (by decide) (by decide) rfl rfl (vp_in_nI (show i < 6 by omega) (by decide)) ((by rw [(xs_ix_nI (show i < 2 ^ 31 by omega))]; exact (hX.2.2.1.2.2.1 i ((xs_ix_nI (show i < 2 ^ 31 by omega)) ▸ xs_ixl (vp_in_nI (show i < 6 by omega) (by decide)))).2.1)) d_U_putAll_26 ?_
        refine lv_iload_n hx hb d_U_putAll_27 rfl (lv_at hl 2 rfl) ?_
        refine lv_icmp_ne (tgt := 43) hx hb d_U_putAll_28 (by decide) (fun c_4 => ?_) (fun c_4 => ?_)
        · refine lv_iinc (v := nI (i + 1)) (lv' := [(6, .int (nI (i + 1))), (0, .ref o), (1, .int z.2.2.2.2.1), (2, .int z.1), (3, .int z.2.1), (4, .int z.2.2.1), (5, .int z.2.2.2.1)]) hx hb d_U_putAll_43 hl (k := 0) rfl (nI_1 _) (by decide) rfl (fun ls hl => ?_)
          refine lv_goto (tgt := 3) hx hb d_U_putAll_46 (by decide) ?_
          exact ihn9 (i + 1) τ rp _ _ _ _ ls (by omega) hX hS hF (lv_sub hl [0, 1, 2, 3, 4, 5, 6] rfl) (by rw [← hres]; simp only [xm_give, xm_av, xs_b, Bool.true_and, Bool.false_and, decide_true, decide_false, c_3, c_4, if_true, if_false, reduceIte, Bool.false_eq_true, Bool.true_eq_false, and_true, true_and, and_false, false_and, or_true, true_or, or_false, false_or, not_true_eq_false, not_false_eq_true] <;> rfl) 
        · refine lv_aload_n hx hb d_U_putAll_31 rfl (lv_at hl 1 rfl) ?_
          refine lv_iload hx hb d_U_putAll_32 (lv_at hl 0 rfl) ?_
          refine lv_iload_n hx hb d_U_putAll_34 rfl (lv_at hl 3 rfl) ?_
          refine lv_iload_n hx hb d_U_putAll_35 rfl (lv_at hl 4 rfl) ?_
          refine lv_iload hx hb d_U_putAll_36 (lv_at hl 5 rfl) ?_
          refine lv_iload hx hb d_U_putAll_38 (lv_at hl 6 rfl) ?_
          refine uk_iV (rest := []) (c_U_put l g o τ th rp n t b9 (nI i) i (vp_in_nI (show i < 6 by omega) (by decide)) (xs_ix_nI (show i < 2 ^ 31 by omega)) z) gd_U_U_put hd_U_put hC hK hX hS (fun _ h => h) (by omega) (by omega) (by omega) (by omega) hl.1 rfl (Nat.le_of_ble_eq_true rfl) d_U_putAll_40 (fun rp9 t b9 H locs hG9 hX hS _ _ => ?_)
          rw [hG9.1] at hX
          have hF := hF.tr hG9.2
          refine lv_iinc (v := nI (i + 1)) (lv' := [(6, .int (nI (i + 1))), (0, .ref o), (1, .int z.2.2.2.2.1), (2, .int z.1), (3, .int z.2.1), (4, .int z.2.2.1), (5, .int z.2.2.2.1)]) hx hb d_U_putAll_43 hl (k := 0) rfl (nI_1 _) (by decide) rfl (fun ls hl => ?_)
          refine lv_goto (tgt := 3) hx hb d_U_putAll_46 (by decide) ?_
          exact ihn9 (i + 1) (xm_add τ (8 + i) z) rp _ _ _ _ ls (by omega) hX hS hF (lv_sub hl [0, 1, 2, 3, 4, 5, 6] rfl) (by rw [← hres]; simp only [xm_give, xm_av, xs_b, Bool.true_and, Bool.false_and, decide_true, decide_false, c_3, c_4, if_true, if_false, reduceIte, Bool.false_eq_true, Bool.true_eq_false, and_true, true_and, and_false, false_and, or_true, true_or, or_false, false_or, not_true_eq_false, not_false_eq_true] <;> rfl) 
  exact loop3 6 0 σ rp _ _ _ _ ls (by omega) hX hS hF (lv_sub hl [0, 1, 2, 3, 4, 5, 6] rfl) rfl 
