/-! The methods, by program. -/
set_option maxHeartbeats 4000000 in
set_option maxRecDepth 100000 in
theorem c_Q_isFull (l : Launch) (g : xw_G) (B : Nat → Prop) (o lim : Nat) (σ : xs_S) (n : Nat) (hn : n < 15) : xc_Q l y_Q_isFull (Cond.code y_Q_isFull b_Q_isFull 1 (some .boolean)) g B o lim σ σ [.ref (o + xs_qo n)] (fun _ => True) (fun v _ => v = .int (xs_b (xm_full σ n))) 0 0 0 0 := by
  refine xh_Q (own := R_Q) (by decide) rfl (Nat.le_of_ble_eq_true rfl) ?_
  intro p e R s m below meth c ls hRf hRl hRc hRs hC hW hE hl
  obtain ⟨hx, hb, hml, hr, hown, hts, hlk⟩ := id hC
  have hX := hW.1
  have hK := hW.2.1
  have hS : va_S (xw_A o s.heap.size) s.heap s.heap [] := va_S.rf
  have hl : lv_has ls 1 [(0, .ref (o + xs_qo n))] := hl
  refine lv_aload_n hx hb d_Q_isFull_0 rfl (lv_at hl 0 rfl) ?_
  obtain ⟨f9, hq9, hl9, hz9⟩ := hX.2.2.2.2.2.2.1 n hn
  refine gf_Q_Q_size hx hb hts hown hK hq9.1 rfl d_Q_isFull_1 ?_
  refine lv_aload_n hx hb d_Q_isFull_4 rfl (lv_at hl 0 rfl) ?_
  obtain ⟨f9, hq9, hl9, hz9⟩ := hX.2.2.2.2.2.2.1 n hn
  refine gf_Q_Q_places hx hb hts hown hK hq9.1 rfl d_Q_isFull_5 ?_
  obtain ⟨f9, hq9, hl9, hz9⟩ := hX.2.2.2.2.2.2.1 n hn
  refine xb_alen hx hb hK 2 rfl hq9.2 d_Q_isFull_8 ?_
  refine lv_icmp_lt (tgt := 16) hx hb d_Q_isFull_9 (by decide) (fun c_1 => ?_) (fun c_1 => ?_)
  · refine lv_iconst (v := 0) hx hb d_Q_isFull_16 (by decide) ?_
    exact xr_Z (τ := σ) (val := (fun v _ => v = .int (xs_b (xm_full σ n)))) hC hW hX hS (by omega) (by omega) rfl rfl (by rw [xm_full_f hl9 c_1]; rfl) d_Q_isFull_17
  · refine lv_iconst (v := 1) hx hb d_Q_isFull_12 (by decide) ?_
    refine lv_goto (tgt := 17) hx hb d_Q_isFull_13 (by decide) ?_
    exact xr_Z (τ := σ) (val := (fun v _ => v = .int (xs_b (xm_full σ n)))) hC hW hX hS (by omega) (by omega) rfl rfl (by rw [xm_full_t hl9 c_1]; rfl) d_Q_isFull_17
set_option maxHeartbeats 4000000 in
set_option maxRecDepth 100000 in
theorem c_A_dropMarks (l : Launch) (g : xw_G) (B : Nat → Prop) (o lim : Nat) (σ : xs_S) (i : Nat) (hi : i < 8) (y : Int32) (j : Nat) (hvy : vp_in y 8) (hj : xs_ix y = j) (x : Int32) : xc_V l y_A_dropMarks (Cond.code y_A_dropMarks b_A_dropMarks 3 none) g B o lim σ (xm_drop σ i j x) [.ref (o + 3 + 4 * i), .int y, .int x] (fun _ => True) 0 0 0 0 := by
  refine xh_V (own := R_A) (by decide) rfl (Nat.le_of_ble_eq_true rfl) ?_
  intro p e R s m below meth c ls hRf hRl hRc hRs hC hW hE hl
  obtain ⟨hx, hb, hml, hr, hown, hts, hlk⟩ := id hC
  have hX := hW.1
  have hK := hW.2.1
  have hS : va_S (xw_A o s.heap.size) s.heap s.heap [] := va_S.rf
  have hl : lv_has ls 3 [(0, .ref (o + 3 + 4 * i)), (1, .int y), (2, .int x)] := hl
  subst hj
  refine lv_aload_n hx hb d_A_dropMarks_0 rfl (lv_at hl 0 rfl) ?_
  refine gf_A_A_marks hx hb hts hown hK (hX.2.2.2.1 i hi) rfl d_A_dropMarks_1 ?_
  refine lv_iload_n hx hb d_A_dropMarks_4 rfl (lv_at hl 1 rfl) ?_
  refine lv_dup2_11 hx hb d_A_dropMarks_5 rfl rfl ?_
  refine xb_iald hx hb hK 3 rfl (hX.2.2.2.2.1 i hi) hvy d_A_dropMarks_6 ?_
  refine lv_iload_n hx hb d_A_dropMarks_7 rfl (lv_at hl 2 rfl) ?_
  refine lv_iconst (v := (-1)) hx hb d_A_dropMarks_8 (by decide) ?_
  refine lv_ixor hx hb d_A_dropMarks_9 ?_
  refine lv_iand hx hb d_A_dropMarks_10 ?_
  refine pf_M hx hb hK hX hS hi hvy d_A_dropMarks_11 (fun H locs hX hS hF => ?_)
  exact xr_V (τ := xm_drop σ i (xs_ix y) x) hC hW hX hS (by omega) (by omega) rfl d_A_dropMarks_12
set_option maxHeartbeats 4000000 in
set_option maxRecDepth 100000 in
theorem c_A_addMark (l : Launch) (g : xw_G) (B : Nat → Prop) (o lim : Nat) (σ : xs_S) (i : Nat) (hi : i < 8) (y : Int32) (j : Nat) (hvy : vp_in y 8) (hj : xs_ix y = j) (x : Int32) : xc_V l y_A_addMark (Cond.code y_A_addMark b_A_addMark 3 none) g B o lim σ (xm_mark σ i j x) [.ref (o + 3 + 4 * i), .int y, .int x] (fun _ => True) 0 0 0 0 := by
  refine xh_V (own := R_A) (by decide) rfl (Nat.le_of_ble_eq_true rfl) ?_
  intro p e R s m below meth c ls hRf hRl hRc hRs hC hW hE hl
  obtain ⟨hx, hb, hml, hr, hown, hts, hlk⟩ := id hC
  have hX := hW.1
  have hK := hW.2.1
  have hS : va_S (xw_A o s.heap.size) s.heap s.heap [] := va_S.rf
  have hl : lv_has ls 3 [(0, .ref (o + 3 + 4 * i)), (1, .int y), (2, .int x)] := hl
  subst hj
  refine lv_aload_n hx hb d_A_addMark_0 rfl (lv_at hl 0 rfl) ?_
  refine gf_A_A_marks hx hb hts hown hK (hX.2.2.2.1 i hi) rfl d_A_addMark_1 ?_
  refine lv_iload_n hx hb d_A_addMark_4 rfl (lv_at hl 1 rfl) ?_
  refine lv_dup2_11 hx hb d_A_addMark_5 rfl rfl ?_
  refine xb_iald hx hb hK 3 rfl (hX.2.2.2.2.1 i hi) hvy d_A_addMark_6 ?_
  refine lv_iload_n hx hb d_A_addMark_7 rfl (lv_at hl 2 rfl) ?_
  refine lv_ior hx hb d_A_addMark_8 ?_
  refine pf_M hx hb hK hX hS hi hvy d_A_addMark_9 (fun H locs hX hS hF => ?_)
  exact xr_V (τ := xm_mark σ i (xs_ix y) x) hC hW hX hS (by omega) (by omega) rfl d_A_addMark_10
set_option maxHeartbeats 4000000 in
set_option maxRecDepth 100000 in
theorem c_A_hasAny (l : Launch) (g : xw_G) (B : Nat → Prop) (o lim : Nat) (σ : xs_S) (i : Nat) (hi : i < 8) (y : Int32) (j : Nat) (hvy : vp_in y 8) (hj : xs_ix y = j) (x : Int32) : xc_Q l y_A_hasAny (Cond.code y_A_hasAny b_A_hasAny 3 (some .boolean)) g B o lim σ σ [.ref (o + 3 + 4 * i), .int y, .int x] (fun _ => True) (fun v _ => v = .int (xs_b (xm_has σ i j x))) 0 0 0 0 := by
  refine xh_Q (own := R_A) (by decide) rfl (Nat.le_of_ble_eq_true rfl) ?_
  intro p e R s m below meth c ls hRf hRl hRc hRs hC hW hE hl
  obtain ⟨hx, hb, hml, hr, hown, hts, hlk⟩ := id hC
  have hX := hW.1
  have hK := hW.2.1
  have hS : va_S (xw_A o s.heap.size) s.heap s.heap [] := va_S.rf
  have hl : lv_has ls 3 [(0, .ref (o + 3 + 4 * i)), (1, .int y), (2, .int x)] := hl
  subst hj
  refine lv_aload_n hx hb d_A_hasAny_0 rfl (lv_at hl 0 rfl) ?_
  refine gf_A_A_marks hx hb hts hown hK (hX.2.2.2.1 i hi) rfl d_A_hasAny_1 ?_
  refine lv_iload_n hx hb d_A_hasAny_4 rfl (lv_at hl 1 rfl) ?_
  refine xb_iald hx hb hK 3 rfl (hX.2.2.2.2.1 i hi) hvy d_A_hasAny_5 ?_
  refine lv_iload_n hx hb d_A_hasAny_6 rfl (lv_at hl 2 rfl) ?_
  refine lv_iand hx hb d_A_hasAny_7 ?_
  refine lv_if_eq (tgt := 15) hx hb d_A_hasAny_8 (by decide) (fun c_1 => ?_) (fun c_1 => ?_)
  · refine lv_iconst (v := 0) hx hb d_A_hasAny_15 (by decide) ?_
    exact xr_Z (τ := σ) (val := (fun v _ => v = .int (xs_b (xm_has σ i (xs_ix y) x)))) hC hW hX hS (by omega) (by omega) rfl rfl (by simp only [xm_has, xs_b, xs_ix, c_1, decide_true, decide_false, if_true, if_false, reduceIte, Bool.false_eq_true, Bool.true_eq_false, and_true, true_and, and_false, false_and, or_true, true_or, or_false, false_or, not_true_eq_false, not_false_eq_true] <;> rfl) d_A_hasAny_16
  · refine lv_iconst (v := 1) hx hb d_A_hasAny_11 (by decide) ?_
    refine lv_goto (tgt := 16) hx hb d_A_hasAny_12 (by decide) ?_
    exact xr_Z (τ := σ) (val := (fun v _ => v = .int (xs_b (xm_has σ i (xs_ix y) x)))) hC hW hX hS (by omega) (by omega) rfl rfl (by simp only [xm_has, xs_b, xs_ix, c_1, decide_true, decide_false, if_true, if_false, reduceIte, Bool.false_eq_true, Bool.true_eq_false, and_true, true_and, and_false, false_and, or_true, true_or, or_false, false_or, not_true_eq_false, not_false_eq_true] <;> rfl) d_A_hasAny_16
set_option maxHeartbeats 4000000 in
set_option maxRecDepth 100000 in
theorem c_X_isAccount (l : Launch) (g : xw_G) (B : Nat → Prop) (o lim : Nat) (σ : xs_S) (x : Int32) : xc_Q l y_X_isAccount (Cond.code y_X_isAccount b_X_isAccount 1 (some .boolean)) g B o lim σ σ [.int x] (fun _ => True) (fun v _ => v = .int (xs_b (xm_in8 x))) 0 0 0 0 := by
  refine xh_Q (own := R_X) (by decide) rfl (Nat.le_of_ble_eq_true rfl) ?_
  intro p e R s m below meth c ls hRf hRl hRc hRs hC hW hE hl
  obtain ⟨hx, hb, hml, hr, hown, hts, hlk⟩ := id hC
  have hX := hW.1
  have hK := hW.2.1
  have hS : va_S (xw_A o s.heap.size) s.heap s.heap [] := va_S.rf
  have hl : lv_has ls 1 [(0, .int x)] := hl
  refine lv_iload_n hx hb d_X_isAccount_0 rfl (lv_at hl 0 rfl) ?_
  refine lv_if_lt (tgt := 14) hx hb d_X_isAccount_1 (by decide) (fun c_1 => ?_) (fun c_1 => ?_)
  · refine lv_iconst (v := 0) hx hb d_X_isAccount_14 (by decide) ?_
    exact xr_Z (τ := σ) (val := (fun v _ => v = .int (xs_b (xm_in8 x)))) hC hW hX hS (by omega) (by omega) rfl rfl (by simp only [xm_in8, xs_b, c_1, decide_true, decide_false, if_true, if_false, reduceIte, Bool.false_eq_true, Bool.true_eq_false, and_true, true_and, and_false, false_and, or_true, true_or, or_false, false_or, not_true_eq_false, not_false_eq_true] <;> rfl) d_X_isAccount_15
  · refine lv_iload_n hx hb d_X_isAccount_4 rfl (lv_at hl 0 rfl) ?_
    refine lv_bipush (v := 8) hx hb d_X_isAccount_5 (by decide) ?_
    refine lv_icmp_ge (tgt := 14) hx hb d_X_isAccount_7 (by decide) (fun c_2 => ?_) (fun c_2 => ?_)
    · refine lv_iconst (v := 0) hx hb d_X_isAccount_14 (by decide) ?_
      exact xr_Z (τ := σ) (val := (fun v _ => v = .int (xs_b (xm_in8 x)))) hC hW hX hS (by omega) (by omega) rfl rfl (by simp only [xm_in8, xs_b, c_1, c_2, decide_true, decide_false, if_true, if_false, reduceIte, Bool.false_eq_true, Bool.true_eq_false, and_true, true_and, and_false, false_and, or_true, true_or, or_false, false_or, not_true_eq_false, not_false_eq_true] <;> rfl) d_X_isAccount_15
    · refine lv_iconst (v := 1) hx hb d_X_isAccount_10 (by decide) ?_
      refine lv_goto (tgt := 15) hx hb d_X_isAccount_11 (by decide) ?_
      exact xr_Z (τ := σ) (val := (fun v _ => v = .int (xs_b (xm_in8 x)))) hC hW hX hS (by omega) (by omega) rfl rfl (by simp only [xm_in8, xs_b, c_1, c_2, decide_true, decide_false, if_true, if_false, reduceIte, Bool.false_eq_true, Bool.true_eq_false, and_true, true_and, and_false, false_and, or_true, true_or, or_false, false_or, not_true_eq_false, not_false_eq_true] <;> rfl) d_X_isAccount_15
set_option maxHeartbeats 4000000 in
set_option maxRecDepth 100000 in
theorem c_X_isConnection (l : Launch) (g : xw_G) (B : Nat → Prop) (o lim : Nat) (σ : xs_S) (x : Int32) : xc_Q l y_X_isConnection (Cond.code y_X_isConnection b_X_isConnection 1 (some .boolean)) g B o lim σ σ [.int x] (fun _ => True) (fun v _ => v = .int (xs_b (xm_in6 x))) 0 0 0 0 := by
  refine xh_Q (own := R_X) (by decide) rfl (Nat.le_of_ble_eq_true rfl) ?_
  intro p e R s m below meth c ls hRf hRl hRc hRs hC hW hE hl
  obtain ⟨hx, hb, hml, hr, hown, hts, hlk⟩ := id hC
  have hX := hW.1
  have hK := hW.2.1
  have hS : va_S (xw_A o s.heap.size) s.heap s.heap [] := va_S.rf
  have hl : lv_has ls 1 [(0, .int x)] := hl
  refine lv_iload_n hx hb d_X_isConnection_0 rfl (lv_at hl 0 rfl) ?_
  refine lv_if_lt (tgt := 14) hx hb d_X_isConnection_1 (by decide) (fun c_1 => ?_) (fun c_1 => ?_)
  · refine lv_iconst (v := 0) hx hb d_X_isConnection_14 (by decide) ?_
    exact xr_Z (τ := σ) (val := (fun v _ => v = .int (xs_b (xm_in6 x)))) hC hW hX hS (by omega) (by omega) rfl rfl (by simp only [xm_in6, xs_b, c_1, decide_true, decide_false, if_true, if_false, reduceIte, Bool.false_eq_true, Bool.true_eq_false, and_true, true_and, and_false, false_and, or_true, true_or, or_false, false_or, not_true_eq_false, not_false_eq_true] <;> rfl) d_X_isConnection_15
  · refine lv_iload_n hx hb d_X_isConnection_4 rfl (lv_at hl 0 rfl) ?_
    refine lv_bipush (v := 6) hx hb d_X_isConnection_5 (by decide) ?_
    refine lv_icmp_ge (tgt := 14) hx hb d_X_isConnection_7 (by decide) (fun c_2 => ?_) (fun c_2 => ?_)
    · refine lv_iconst (v := 0) hx hb d_X_isConnection_14 (by decide) ?_
      exact xr_Z (τ := σ) (val := (fun v _ => v = .int (xs_b (xm_in6 x)))) hC hW hX hS (by omega) (by omega) rfl rfl (by simp only [xm_in6, xs_b, c_1, c_2, decide_true, decide_false, if_true, if_false, reduceIte, Bool.false_eq_true, Bool.true_eq_false, and_true, true_and, and_false, false_and, or_true, true_or, or_false, false_or, not_true_eq_false, not_false_eq_true] <;> rfl) d_X_isConnection_15
    · refine lv_iconst (v := 1) hx hb d_X_isConnection_10 (by decide) ?_
      refine lv_goto (tgt := 15) hx hb d_X_isConnection_11 (by decide) ?_
      exact xr_Z (τ := σ) (val := (fun v _ => v = .int (xs_b (xm_in6 x)))) hC hW hX hS (by omega) (by omega) rfl rfl (by simp only [xm_in6, xs_b, c_1, c_2, decide_true, decide_false, if_true, if_false, reduceIte, Bool.false_eq_true, Bool.true_eq_false, and_true, true_and, and_false, false_and, or_true, true_or, or_false, false_or, not_true_eq_false, not_false_eq_true] <;> rfl) d_X_isConnection_15
set_option maxHeartbeats 4000000 in
set_option maxRecDepth 100000 in
theorem c_X_onOneServer (l : Launch) (g : xw_G) (B : Nat → Prop) (o lim : Nat) (σ : xs_S) (x y : Int32) : xc_Q l y_X_onOneServer (Cond.code y_X_onOneServer b_X_onOneServer 2 (some .boolean)) g B o lim σ σ [.int x, .int y] (fun _ => True) (fun v _ => v = .int (xs_b (xm_one x y))) 0 0 0 0 := by
  refine xh_Q (own := R_X) (by decide) rfl (Nat.le_of_ble_eq_true rfl) ?_
  intro p e R s m below meth c ls hRf hRl hRc hRs hC hW hE hl
  obtain ⟨hx, hb, hml, hr, hown, hts, hlk⟩ := id hC
  have hX := hW.1
  have hK := hW.2.1
  have hS : va_S (xw_A o s.heap.size) s.heap s.heap [] := va_S.rf
  have hl : lv_has ls 2 [(0, .int x), (1, .int y)] := hl
  refine lv_iload_n hx hb d_X_onOneServer_0 rfl (lv_at hl 0 rfl) ?_
  refine lv_iconst (v := 4) hx hb d_X_onOneServer_1 (by decide) ?_
  refine lv_icmp_ge (tgt := 9) hx hb d_X_onOneServer_2 (by decide) (fun c_1 => ?_) (fun c_1 => ?_)
  · refine lv_iconst (v := 0) hx hb d_X_onOneServer_9 (by decide) ?_
    refine lv_iload_n hx hb d_X_onOneServer_10 rfl (lv_at hl 1 rfl) ?_
    refine lv_iconst (v := 4) hx hb d_X_onOneServer_11 (by decide) ?_
    refine lv_icmp_ge (tgt := 19) hx hb d_X_onOneServer_12 (by decide) (fun c_2 => ?_) (fun c_2 => ?_)
    · refine lv_iconst (v := 0) hx hb d_X_onOneServer_19 (by decide) ?_
      refine lv_icmp_ne (tgt := 27) hx hb d_X_onOneServer_20 (by decide) (fun c_3 => (c_3 (by decide)).elim) (fun c_3 => ?_)
      refine lv_iconst (v := 1) hx hb d_X_onOneServer_23 (by decide) ?_
      refine lv_goto (tgt := 28) hx hb d_X_onOneServer_24 (by decide) ?_
      exact xr_Z (τ := σ) (val := (fun v _ => v = .int (xs_b (xm_one x y)))) hC hW hX hS (by omega) (by omega) rfl rfl (by simp only [xm_one, xs_b, c_1, c_2, decide_true, decide_false, if_true, if_false, reduceIte, Bool.false_eq_true, Bool.true_eq_false, and_true, true_and, and_false, false_and, or_true, true_or, or_false, false_or, not_true_eq_false, not_false_eq_true] <;> rfl) d_X_onOneServer_28
    · refine lv_iconst (v := 1) hx hb d_X_onOneServer_15 (by decide) ?_
      refine lv_goto (tgt := 20) hx hb d_X_onOneServer_16 (by decide) ?_
      refine lv_icmp_ne (tgt := 27) hx hb d_X_onOneServer_20 (by decide) (fun c_4 => ?_) (fun c_4 => absurd c_4 (by decide))
      refine lv_iconst (v := 0) hx hb d_X_onOneServer_27 (by decide) ?_
      exact xr_Z (τ := σ) (val := (fun v _ => v = .int (xs_b (xm_one x y)))) hC hW hX hS (by omega) (by omega) rfl rfl (by simp only [xm_one, xs_b, c_1, c_2, decide_true, decide_false, if_true, if_false, reduceIte, Bool.false_eq_true, Bool.true_eq_false, and_true, true_and, and_false, false_and, or_true, true_or, or_false, false_or, not_true_eq_false, not_false_eq_true] <;> rfl) d_X_onOneServer_28
  · refine lv_iconst (v := 1) hx hb d_X_onOneServer_5 (by decide) ?_
    refine lv_goto (tgt := 10) hx hb d_X_onOneServer_6 (by decide) ?_
    refine lv_iload_n hx hb d_X_onOneServer_10 rfl (lv_at hl 1 rfl) ?_
    refine lv_iconst (v := 4) hx hb d_X_onOneServer_11 (by decide) ?_
    refine lv_icmp_ge (tgt := 19) hx hb d_X_onOneServer_12 (by decide) (fun c_5 => ?_) (fun c_5 => ?_)
    · refine lv_iconst (v := 0) hx hb d_X_onOneServer_19 (by decide) ?_
      refine lv_icmp_ne (tgt := 27) hx hb d_X_onOneServer_20 (by decide) (fun c_6 => ?_) (fun c_6 => absurd c_6 (by decide))
      refine lv_iconst (v := 0) hx hb d_X_onOneServer_27 (by decide) ?_
      exact xr_Z (τ := σ) (val := (fun v _ => v = .int (xs_b (xm_one x y)))) hC hW hX hS (by omega) (by omega) rfl rfl (by simp only [xm_one, xs_b, c_1, c_5, decide_true, decide_false, if_true, if_false, reduceIte, Bool.false_eq_true, Bool.true_eq_false, and_true, true_and, and_false, false_and, or_true, true_or, or_false, false_or, not_true_eq_false, not_false_eq_true] <;> rfl) d_X_onOneServer_28
    · refine lv_iconst (v := 1) hx hb d_X_onOneServer_15 (by decide) ?_
      refine lv_goto (tgt := 20) hx hb d_X_onOneServer_16 (by decide) ?_
      refine lv_icmp_ne (tgt := 27) hx hb d_X_onOneServer_20 (by decide) (fun c_7 => (c_7 (by decide)).elim) (fun c_7 => ?_)
      refine lv_iconst (v := 1) hx hb d_X_onOneServer_23 (by decide) ?_
      refine lv_goto (tgt := 28) hx hb d_X_onOneServer_24 (by decide) ?_
      exact xr_Z (τ := σ) (val := (fun v _ => v = .int (xs_b (xm_one x y)))) hC hW hX hS (by omega) (by omega) rfl rfl (by simp only [xm_one, xs_b, c_1, c_5, decide_true, decide_false, if_true, if_false, reduceIte, Bool.false_eq_true, Bool.true_eq_false, and_true, true_and, and_false, false_and, or_true, true_or, or_false, false_or, not_true_eq_false, not_false_eq_true] <;> rfl) d_X_onOneServer_28
set_option maxHeartbeats 4000000 in
set_option maxRecDepth 100000 in
theorem c_X_canReach (l : Launch) (g : xw_G) (B : Nat → Prop) (o lim : Nat) (σ : xs_S) (x y : Int32) : xc_Q l y_X_canReach (Cond.code y_X_canReach b_X_canReach 3 (some .boolean)) g B o lim σ σ [.ref o, .int x, .int y] (fun _ => True) (fun v _ => v = .int (xs_b (xm_reach σ x y))) 1 21 0 0 := by
  refine xh_Q (own := R_X) (by decide) rfl (Nat.le_of_ble_eq_true rfl) ?_
  intro p e R s m below meth c ls hRf hRl hRc hRs hC hW hE hl
  obtain ⟨hx, hb, hml, hr, hown, hts, hlk⟩ := id hC
  have hX := hW.1
  have hK := hW.2.1
  have hS : va_S (xw_A o s.heap.size) s.heap s.heap [] := va_S.rf
  have hl : lv_has ls 3 [(0, .ref o), (1, .int x), (2, .int y)] := hl
  refine lv_aload_n hx hb d_X_canReach_0 rfl (lv_at hl 0 rfl) ?_
  obtain ⟨v9, hXo, hXl⟩ := hX.1
  refine gf_X_X_linkUp hx hb hts hown hK hXo rfl d_X_canReach_1 ?_
  refine lv_if_ne (tgt := 15) hx hb d_X_canReach_4 (by decide) (fun c_1 => ?_) (fun c_1 => ?_)
  · have c_1 := xs_b1 c_1
    refine lv_iconst (v := 1) hx hb d_X_canReach_15 (by decide) ?_
    refine lv_goto (tgt := 20) hx hb d_X_canReach_16 (by decide) ?_
    exact xr_Z (τ := σ) (val := (fun v _ => v = .int (xs_b (xm_reach σ x y)))) hC hW hX hS (by omega) (by omega) rfl rfl (by simp only [xm_reach, xs_b, c_1, Bool.true_or, Bool.false_or, if_true, if_false, reduceIte, Bool.false_eq_true, Bool.true_eq_false, and_true, true_and, and_false, false_and, or_true, true_or, or_false, false_or, not_true_eq_false, not_false_eq_true] <;> rfl) d_X_canReach_20
  · have c_1 := xs_b0 c_1
    refine lv_iload_n hx hb d_X_canReach_7 rfl (lv_at hl 1 rfl) ?_
    refine lv_iload_n hx hb d_X_canReach_8 rfl (lv_at hl 2 rfl) ?_
    refine xk_sQ (rest := []) (c_X_onOneServer l g B o lim σ x y) gd_X_X_onOneServer hd_X_onOneServer hC hW hX hS trivial (by omega) (by omega) (by omega) (by omega) hl.1 rfl (Nat.le_of_ble_eq_true rfl) d_X_canReach_9 (fun v8 H locs hv hX hS hF => ?_)
    obtain rfl := hv
    refine lv_if_eq (tgt := 19) hx hb d_X_canReach_12 (by decide) (fun c_2 => ?_) (fun c_2 => ?_)
    · have c_2 := xs_b0 c_2
      refine lv_iconst (v := 0) hx hb d_X_canReach_19 (by decide) ?_
      exact xr_Z (τ := σ) (val := (fun v _ => v = .int (xs_b (xm_reach σ x y)))) hC hW hX hS (by omega) (by omega) rfl rfl (by simp only [xm_reach, xs_b, c_1, c_2, Bool.true_or, Bool.false_or, if_true, if_false, reduceIte, Bool.false_eq_true, Bool.true_eq_false, and_true, true_and, and_false, false_and, or_true, true_or, or_false, false_or, not_true_eq_false, not_false_eq_true] <;> rfl) d_X_canReach_20
    · have c_2 := xs_b1 c_2
      refine lv_iconst (v := 1) hx hb d_X_canReach_15 (by decide) ?_
      refine lv_goto (tgt := 20) hx hb d_X_canReach_16 (by decide) ?_
      exact xr_Z (τ := σ) (val := (fun v _ => v = .int (xs_b (xm_reach σ x y)))) hC hW hX hS (by omega) (by omega) rfl rfl (by simp only [xm_reach, xs_b, c_1, c_2, Bool.true_or, Bool.false_or, if_true, if_false, reduceIte, Bool.false_eq_true, Bool.true_eq_false, and_true, true_and, and_false, false_and, or_true, true_or, or_false, false_or, not_true_eq_false, not_false_eq_true] <;> rfl) d_X_canReach_20
set_option maxHeartbeats 4000000 in
set_option maxRecDepth 100000 in
theorem c_C_isAvailableFor (l : Launch) (g : xw_G) (B : Nat → Prop) (o lim : Nat) (σ : xs_S) (i : Nat) (hi : i < 6) (x : Int32) : xc_Q l y_C_isAvailableFor (Cond.code y_C_isAvailableFor b_C_isAvailableFor 2 (some .boolean)) g B o lim σ σ [.ref (o + 36 + 3 * i), .int x] (fun _ => True) (fun v _ => v = .int (xs_b (xm_av σ i x))) 0 0 0 0 := by
  refine xh_Q (own := R_C) (by decide) rfl (Nat.le_of_ble_eq_true rfl) ?_
  intro p e R s m below meth c ls hRf hRl hRc hRs hC hW hE hl
  obtain ⟨hx, hb, hml, hr, hown, hts, hlk⟩ := id hC
  have hX := hW.1
  have hK := hW.2.1
  have hS : va_S (xw_A o s.heap.size) s.heap s.heap [] := va_S.rf
  have hl : lv_has ls 2 [(0, .ref (o + 36 + 3 * i)), (1, .int x)] := hl
  refine lv_aload_n hx hb d_C_isAvailableFor_0 rfl (lv_at hl 0 rfl) ?_
  refine gf_C_C_available hx hb hts hown hK (hX.2.2.2.2.2.1 i hi) rfl d_C_isAvailableFor_1 ?_
  refine lv_if_eq (tgt := 19) hx hb d_C_isAvailableFor_4 (by decide) (fun c_1 => ?_) (fun c_1 => ?_)
  · have c_1 := xs_b0 c_1
    refine lv_iconst (v := 0) hx hb d_C_isAvailableFor_19 (by decide) ?_
    exact xr_Z (τ := σ) (val := (fun v _ => v = .int (xs_b (xm_av σ i x)))) hC hW hX hS (by omega) (by omega) rfl rfl (by simp only [xm_av, xs_b, c_1, Bool.true_and, Bool.false_and, decide_true, decide_false, if_true, if_false, reduceIte, Bool.false_eq_true, Bool.true_eq_false, and_true, true_and, and_false, false_and, or_true, true_or, or_false, false_or, not_true_eq_false, not_false_eq_true] <;> rfl) d_C_isAvailableFor_20
  · have c_1 := xs_b1 c_1
    refine lv_aload_n hx hb d_C_isAvailableFor_7 rfl (lv_at hl 0 rfl) ?_
    refine gf_C_C_account hx hb hts hown hK (hX.2.2.2.2.2.1 i hi) rfl d_C_isAvailableFor_8 ?_
    refine lv_iload_n hx hb d_C_isAvailableFor_11 rfl (lv_at hl 1 rfl) ?_
    refine lv_icmp_ne (tgt := 19) hx hb d_C_isAvailableFor_12 (by decide) (fun c_2 => ?_) (fun c_2 => ?_)
    · refine lv_iconst (v := 0) hx hb d_C_isAvailableFor_19 (by decide) ?_
      exact xr_Z (τ := σ) (val := (fun v _ => v = .int (xs_b (xm_av σ i x)))) hC hW hX hS (by omega) (by omega) rfl rfl (by simp only [xm_av, xs_b, c_1, c_2, Bool.true_and, Bool.false_and, decide_true, decide_false, if_true, if_false, reduceIte, Bool.false_eq_true, Bool.true_eq_false, and_true, true_and, and_false, false_and, or_true, true_or, or_false, false_or, not_true_eq_false, not_false_eq_true] <;> rfl) d_C_isAvailableFor_20
    · refine lv_iconst (v := 1) hx hb d_C_isAvailableFor_15 (by decide) ?_
      refine lv_goto (tgt := 20) hx hb d_C_isAvailableFor_16 (by decide) ?_
      exact xr_Z (τ := σ) (val := (fun v _ => v = .int (xs_b (xm_av σ i x)))) hC hW hX hS (by omega) (by omega) rfl rfl (by simp only [xm_av, xs_b, c_1, c_2, Bool.true_and, Bool.false_and, decide_true, decide_false, if_true, if_false, reduceIte, Bool.false_eq_true, Bool.true_eq_false, and_true, true_and, and_false, false_and, or_true, true_or, or_false, false_or, not_true_eq_false, not_false_eq_true] <;> rfl) d_C_isAvailableFor_20
set_option maxHeartbeats 4000000 in
set_option maxRecDepth 100000 in
theorem c_X_isRightProof (l : Launch) (g : xw_G) (B : Nat → Prop) (o lim : Nat) (σ : xs_S) (i : Nat) (hi : i < 6) (x : Int32) (hvac : vp_in (xs_cn σ i).2.1 8) : xc_Q l y_X_isRightProof (Cond.code y_X_isRightProof b_X_isRightProof 4 (some .boolean)) g B o lim σ σ [.ref o, .ref (o + 36 + 3 * i), .int x] (fun _ => True) (fun v _ => v = .int (xs_b (xm_proof σ i x))) 0 0 0 0 := by
  refine xh_Q (own := R_X) (by decide) rfl (Nat.le_of_ble_eq_true rfl) ?_
  intro p e R s m below meth c ls hRf hRl hRc hRs hC hW hE hl
  obtain ⟨hx, hb, hml, hr, hown, hts, hlk⟩ := id hC
  have hX := hW.1
  have hK := hW.2.1
  have hS : va_S (xw_A o s.heap.size) s.heap s.heap [] := va_S.rf
  have hl : lv_has ls 4 [(0, .ref o), (1, .ref (o + 36 + 3 * i)), (2, .int x)] := hl
  refine lv_aload_n hx hb d_X_isRightProof_0 rfl (lv_at hl 0 rfl) ?_
  obtain ⟨v9, hXo, hXl⟩ := hX.1
  refine gf_X_X_accounts hx hb hts hown hK hXo rfl d_X_isRightProof_1 ?_
  refine lv_aload_n hx hb d_X_isRightProof_4 rfl (lv_at hl 1 rfl) ?_
  refine gf_X_C_account hx hb hts hown hK (hX.2.2.2.2.2.1 i hi) rfl d_X_isRightProof_5 ?_
  refine xb_aald (v := o + 3 + 4 * (xs_ix ((xs_cn σ i).2.1))) hx hb hK 0 rfl hX.2.1 hvac rfl d_X_isRightProof_8 ?_
  refine lv_astore_n (lv' := [(3, .ref (o + 3 + 4 * (xs_ix ((xs_cn σ i).2.1)))), (0, .ref o), (1, .ref (o + 36 + 3 * i)), (2, .int x)]) hx hb d_X_isRightProof_9 rfl hl (by decide) rfl (fun ls hl => ?_)
  refine lv_aload_n hx hb d_X_isRightProof_10 rfl (lv_at hl 0 rfl) ?_
  refine gf_X_A_registered hx hb hts hown hK (hX.2.2.2.1 (xs_ix ((xs_cn σ i).2.1)) (xs_ixl hvac)) rfl d_X_isRightProof_11 ?_
  refine lv_if_eq (tgt := 41) hx hb d_X_isRightProof_14 (by decide) (fun c_1 => ?_) (fun c_1 => ?_)
  · have c_1 := xs_b0 c_1
    refine lv_iconst (v := 0) hx hb d_X_isRightProof_41 (by decide) ?_
    exact xr_Z (τ := σ) (val := (fun v _ => v = .int (xs_b (xm_proof σ i x)))) hC hW hX hS (by omega) (by omega) rfl rfl (by simp only [xm_proof, xs_b, c_1, Bool.true_and, Bool.false_and, decide_true, decide_false, if_true, if_false, reduceIte, Bool.false_eq_true, Bool.true_eq_false, and_true, true_and, and_false, false_and, or_true, true_or, or_false, false_or, not_true_eq_false, not_false_eq_true] <;> rfl) d_X_isRightProof_42
  · have c_1 := xs_b1 c_1
    refine lv_iload_n hx hb d_X_isRightProof_17 rfl (lv_at hl 3 rfl) ?_
    refine lv_aload_n hx hb d_X_isRightProof_18 rfl (lv_at hl 0 rfl) ?_
    refine gf_X_A_password hx hb hts hown hK (hX.2.2.2.1 (xs_ix ((xs_cn σ i).2.1)) (xs_ixl hvac)) rfl d_X_isRightProof_19 ?_
    refine lv_bipush (v := 31) hx hb d_X_isRightProof_22 (by decide) ?_
    refine lv_imul hx hb d_X_isRightProof_24 ?_
    refine lv_aload_n hx hb d_X_isRightProof_25 rfl (lv_at hl 2 rfl) ?_
    refine gf_X_C_challenge hx hb hts hown hK (hX.2.2.2.2.2.1 i hi) rfl d_X_isRightProof_26 ?_
    refine lv_iadd hx hb d_X_isRightProof_29 ?_
    refine lv_sipush (v := 10007) hx hb d_X_isRightProof_30 (by decide) ?_
    refine lv_irem hx hb d_X_isRightProof_33 (by decide) ?_
    refine lv_icmp_ne (tgt := 41) hx hb d_X_isRightProof_34 (by decide) (fun c_2 => ?_) (fun c_2 => ?_)
    · refine lv_iconst (v := 0) hx hb d_X_isRightProof_41 (by decide) ?_
      exact xr_Z (τ := σ) (val := (fun v _ => v = .int (xs_b (xm_proof σ i x)))) hC hW hX hS (by omega) (by omega) rfl rfl (by simp only [xm_proof, xs_b, c_1, c_2, Bool.true_and, Bool.false_and, decide_true, decide_false, if_true, if_false, reduceIte, Bool.false_eq_true, Bool.true_eq_false, and_true, true_and, and_false, false_and, or_true, true_or, or_false, false_or, not_true_eq_false, not_false_eq_true] <;> rfl) d_X_isRightProof_42
    · refine lv_iconst (v := 1) hx hb d_X_isRightProof_37 (by decide) ?_
      refine lv_goto (tgt := 42) hx hb d_X_isRightProof_38 (by decide) ?_
      exact xr_Z (τ := σ) (val := (fun v _ => v = .int (xs_b (xm_proof σ i x)))) hC hW hX hS (by omega) (by omega) rfl rfl (by simp only [xm_proof, xs_b, c_1, c_2, Bool.true_and, Bool.false_and, decide_true, decide_false, if_true, if_false, reduceIte, Bool.false_eq_true, Bool.true_eq_false, and_true, true_and, and_false, false_and, or_true, true_or, or_false, false_or, not_true_eq_false, not_false_eq_true] <;> rfl) d_X_isRightProof_42
set_option maxHeartbeats 4000000 in
set_option maxRecDepth 100000 in
theorem c_X_boundWith (l : Launch) (g : xw_G) (B : Nat → Prop) (o lim : Nat) (σ : xs_S) (x y : Int32) : xc_Q l y_X_boundWith (Cond.code y_X_boundWith b_X_boundWith 7 (some (.object "XmppPair$Connection"))) g B o lim σ σ [.ref o, .int x, .int y] (fun _ => True) (fun v _ => xm_bwV o (xm_bw 6 0 σ x y) v) 0 0 0 0 := by
  refine xh_Q (own := R_X) (by decide) rfl (Nat.le_of_ble_eq_true rfl) ?_
  intro p e R s m below meth c ls hRf hRl hRc hRs hC hW hE hl
  obtain ⟨hx, hb, hml, hr, hown, hts, hlk⟩ := id hC
  have hX := hW.1
  have hK := hW.2.1
  have hS : va_S (xw_A o s.heap.size) s.heap s.heap [] := va_S.rf
  have hl : lv_has ls 7 [(0, .ref o), (1, .int x), (2, .int y)] := hl
  refine lv_aload_n hx hb d_X_boundWith_0 rfl (lv_at hl 0 rfl) ?_
  obtain ⟨v9, hXo, hXl⟩ := hX.1
  refine gf_X_X_connections hx hb hts hown hK hXo rfl d_X_boundWith_1 ?_
  refine lv_astore_n (lv' := [(3, .ref (o + 35)), (0, .ref o), (1, .int x), (2, .int y)]) hx hb d_X_boundWith_4 rfl hl (by decide) rfl (fun ls hl => ?_)
  refine lv_aload_n hx hb d_X_boundWith_5 rfl (lv_at hl 0 rfl) ?_
  refine xb_alen hx hb hK 1 rfl hX.2.2.1 d_X_boundWith_6 ?_
  refine lv_istore (lv' := [(4, .int (nI 6)), (3, .ref (o + 35)), (0, .ref o), (1, .int x), (2, .int y)]) hx hb d_X_boundWith_7 hl (by decide) rfl (fun ls hl => ?_)
  refine lv_iconst (v := 0) hx hb d_X_boundWith_9 (by decide) ?_
  refine lv_istore (lv' := [(5, .int 0), (4, .int (nI 6)), (3, .ref (o + 35)), (0, .ref o), (1, .int x), (2, .int y)]) hx hb d_X_boundWith_10 hl (by decide) rfl (fun ls hl => ?_)
  have loop : ∀ (n i : Nat)  (H : Heap) (locs : List Loc) (cells slots : Nat) (ls : Array Slot), i + n = 6 → xw_R g B o σ H → va_S (xw_A o s.heap.size) s.heap H locs → cells + n * 0 ≤ 0 → slots + n * 0 ≤ 0 → lv_has ls 7 [(5, .int (nI i)), (4, .int (nI 6)), (3, .ref (o + 35)), (0, .ref o), (1, .int x), (2, .int y)] → xm_bw n i σ x y = xm_bw 6 0 σ x y → W p l e R s m ([.ref o, .int x, .int y] : List Value).toArray below meth c H locs cells slots (MQ below (xb_Q (fun v t => (fun v _ => xm_bwV o (xm_bw 6 0 σ x y) v) v t.heap ∧ xw_W g B o lim σ t) (xw_A o s.heap.size)) ([.ref o, .int x, .int y] : List Value).toArray s 0 0 (xw_A o s.heap.size)) (F0 m 12 ls []) := by
    intro n
    induction n with
    | zero =>
      intro i  H locs cells slots ls hi hX hS  hc hs hl hres 
      obtain rfl : i = 6 := by omega
      refine lv_iload hx hb d_X_boundWith_12 (lv_at hl 0 rfl) ?_
      refine lv_iload hx hb d_X_boundWith_14 (lv_at hl 1 rfl) ?_
      refine lv_icmp_ge (tgt := 61) hx hb d_X_boundWith_16 (by decide) (fun c_1 => ?_) (fun c_1 => absurd (nI_le (Nat.le_refl 6) (by decide)) c_1)
      refine lv_null hx hb d_X_boundWith_61 ?_
      exact xr_R (τ := σ) (val := (fun v _ => xm_bwV o (xm_bw 6 0 σ x y) v)) hC hW hX hS (by omega) (by omega) rfl (Or.inl rfl) (by rw [← hres]; rfl) d_X_boundWith_62
    | succ n ih =>
      intro i  H locs cells slots ls hi hX hS  hc hs hl hres 
      refine lv_iload hx hb d_X_boundWith_12 (lv_at hl 0 rfl) ?_
      refine lv_iload hx hb d_X_boundWith_14 (lv_at hl 1 rfl) ?_
      refine lv_icmp_ge (tgt := 61) hx hb d_X_boundWith_16 (by decide) (fun c_2 => absurd c_2 (nI_ge (show i < 6 by omega) (by decide))) (fun c_2 => ?_)
      refine lv_aload_n hx hb d_X_boundWith_19 rfl (lv_at hl 2 rfl) ?_
      refine lv_iload hx hb d_X_boundWith_20 (lv_at hl 0 rfl) ?_
      refine xb_aald (v := o + 36 + 3 * i) hx hb hK 1 rfl hX.2.2.1 (vp_in_nI (show i < 6 by omega) (by decide)) (by rw [nI_clamp (by omega)]) d_X_boundWith_22 ?_
      refine lv_astore (lv' := [(6, .ref (o + 36 + 3 * i)), (5, .int (nI i)), (4, .int (nI 6)), (3, .ref (o + 35)), (0, .ref o), (1, .int x), (2, .int y)]) hx hb d_X_boundWith_23 hl (by decide) rfl (fun ls hl => ?_)
      refine lv_aload hx hb d_X_boundWith_25 (lv_at hl 0 rfl) ?_
      refine gf_X_C_stage hx hb hts hown hK (hX.2.2.2.2.2.1 i (show i < 6 by omega)) rfl d_X_boundWith_27 ?_
      refine lv_iconst (v := 4) hx hb d_X_boundWith_30 (by decide) ?_
      refine lv_icmp_ne (tgt := 55) hx hb d_X_boundWith_31 (by decide) (fun c_3 => ?_) (fun c_3 => ?_)
      · refine lv_iinc (v := nI (i + 1)) (lv' := [(5, .int (nI (i + 1))), (6, .ref (o + 36 + 3 * i)), (4, .int (nI 6)), (3, .ref (o + 35)), (0, .ref o), (1, .int x), (2, .int y)]) hx hb d_X_boundWith_55 hl (k := 1) rfl (nI_1 _) (by decide) rfl (fun ls hl => ?_)
        refine lv_goto (tgt := 12) hx hb d_X_boundWith_58 (by decide) ?_
        exact ih (i + 1)  _ _ _ _ ls (by omega) hX hS  (by omega) (by omega) (lv_sub hl [0, 2, 3, 4, 5, 6] rfl) (by rw [← hres]; simp only [xm_bw, c_3, if_true, if_false, reduceIte, Bool.false_eq_true, Bool.true_eq_false, and_true, true_and, and_false, false_and, or_true, true_or, or_false, false_or, not_true_eq_false, not_false_eq_true] <;> rfl) 
      · refine lv_aload hx hb d_X_boundWith_34 (lv_at hl 0 rfl) ?_
        refine gf_X_C_account hx hb hts hown hK (hX.2.2.2.2.2.1 i (show i < 6 by omega)) rfl d_X_boundWith_36 ?_
        refine lv_iload_n hx hb d_X_boundWith_39 rfl (lv_at hl 5 rfl) ?_
        refine lv_icmp_ne (tgt := 55) hx hb d_X_boundWith_40 (by decide) (fun c_4 => ?_) (fun c_4 => ?_)
        · refine lv_iinc (v := nI (i + 1)) (lv' := [(5, .int (nI (i + 1))), (6, .ref (o + 36 + 3 * i)), (4, .int (nI 6)), (3, .ref (o + 35)), (0, .ref o), (1, .int x), (2, .int y)]) hx hb d_X_boundWith_55 hl (k := 1) rfl (nI_1 _) (by decide) rfl (fun ls hl => ?_)
          refine lv_goto (tgt := 12) hx hb d_X_boundWith_58 (by decide) ?_
          exact ih (i + 1)  _ _ _ _ ls (by omega) hX hS  (by omega) (by omega) (lv_sub hl [0, 2, 3, 4, 5, 6] rfl) (by rw [← hres]; simp only [xm_bw, c_3, c_4, if_true, if_false, reduceIte, Bool.false_eq_true, Bool.true_eq_false, and_true, true_and, and_false, false_and, or_true, true_or, or_false, false_or, not_true_eq_false, not_false_eq_true] <;> rfl) 
        · refine lv_aload hx hb d_X_boundWith_43 (lv_at hl 0 rfl) ?_
          refine gf_X_C_resource hx hb hts hown hK (hX.2.2.2.2.2.1 i (show i < 6 by omega)) rfl d_X_boundWith_45 ?_
          refine lv_iload_n hx hb d_X_boundWith_48 rfl (lv_at hl 6 rfl) ?_
          refine lv_icmp_ne (tgt := 55) hx hb d_X_boundWith_49 (by decide) (fun c_5 => ?_) (fun c_5 => ?_)
          · refine lv_iinc (v := nI (i + 1)) (lv' := [(5, .int (nI (i + 1))), (6, .ref (o + 36 + 3 * i)), (4, .int (nI 6)), (3, .ref (o + 35)), (0, .ref o), (1, .int x), (2, .int y)]) hx hb d_X_boundWith_55 hl (k := 1) rfl (nI_1 _) (by decide) rfl (fun ls hl => ?_)
            refine lv_goto (tgt := 12) hx hb d_X_boundWith_58 (by decide) ?_
            exact ih (i + 1)  _ _ _ _ ls (by omega) hX hS  (by omega) (by omega) (lv_sub hl [0, 2, 3, 4, 5, 6] rfl) (by rw [← hres]; simp only [xm_bw, c_3, c_4, c_5, if_true, if_false, reduceIte, Bool.false_eq_true, Bool.true_eq_false, and_true, true_and, and_false, false_and, or_true, true_or, or_false, false_or, not_true_eq_false, not_false_eq_true] <;> rfl) 
          · refine lv_aload hx hb d_X_boundWith_52 (lv_at hl 0 rfl) ?_
            exact xr_R (τ := σ) (val := (fun v _ => xm_bwV o (xm_bw 6 0 σ x y) v)) hC hW hX hS (by omega) (by omega) rfl (Or.inr ⟨_, rfl⟩) (by rw [← hres]; simp only [xm_bw, c_3, c_4, c_5, if_true, if_false, reduceIte, Bool.false_eq_true, Bool.true_eq_false, and_true, true_and, and_false, false_and, or_true, true_or, or_false, false_or, not_true_eq_false, not_false_eq_true]; exact ⟨rfl, by omega⟩) d_X_boundWith_54
  exact loop 6 0  _ _ _ _ ls (by omega) hX hS  (by omega) (by omega) (lv_sub hl [0, 1, 2, 3, 4, 5] rfl) rfl 
set_option maxHeartbeats 4000000 in
set_option maxRecDepth 100000 in
theorem c_X_greatestPriority (l : Launch) (g : xw_G) (B : Nat → Prop) (o lim : Nat) (σ : xs_S) (x : Int32) : xc_Q l y_X_greatestPriority (Cond.code y_X_greatestPriority b_X_greatestPriority 7 (some .int)) g B o lim σ σ [.ref o, .int x] (fun _ => True) (fun v _ => v = .int (xm_great 6 0 σ x (-1))) 1 21 0 0 := by
  refine xh_Q (own := R_X) (by decide) rfl (Nat.le_of_ble_eq_true rfl) ?_
  intro p e R s m below meth c ls hRf hRl hRc hRs hC hW hE hl
  obtain ⟨hx, hb, hml, hr, hown, hts, hlk⟩ := id hC
  have hX := hW.1
  have hK := hW.2.1
  have hS : va_S (xw_A o s.heap.size) s.heap s.heap [] := va_S.rf
  have hl : lv_has ls 7 [(0, .ref o), (1, .int x)] := hl
  refine lv_iconst (v := (-1)) hx hb d_X_greatestPriority_0 (by decide) ?_
  refine lv_istore_n (lv' := [(2, .int (-1)), (0, .ref o), (1, .int x)]) hx hb d_X_greatestPriority_1 rfl hl (by decide) rfl (fun ls hl => ?_)
  refine lv_aload_n hx hb d_X_greatestPriority_2 rfl (lv_at hl 1 rfl) ?_
  obtain ⟨v9, hXo, hXl⟩ := hX.1
  refine gf_X_X_connections hx hb hts hown hK hXo rfl d_X_greatestPriority_3 ?_
  refine lv_astore_n (lv' := [(3, .ref (o + 35)), (2, .int (-1)), (0, .ref o), (1, .int x)]) hx hb d_X_greatestPriority_6 rfl hl (by decide) rfl (fun ls hl => ?_)
  refine lv_aload_n hx hb d_X_greatestPriority_7 rfl (lv_at hl 0 rfl) ?_
  refine xb_alen hx hb hK 1 rfl hX.2.2.1 d_X_greatestPriority_8 ?_
  refine lv_istore (lv' := [(4, .int (nI 6)), (3, .ref (o + 35)), (2, .int (-1)), (0, .ref o), (1, .int x)]) hx hb d_X_greatestPriority_9 hl (by decide) rfl (fun ls hl => ?_)
  refine lv_iconst (v := 0) hx hb d_X_greatestPriority_11 (by decide) ?_
  refine lv_istore (lv' := [(5, .int 0), (4, .int (nI 6)), (3, .ref (o + 35)), (2, .int (-1)), (0, .ref o), (1, .int x)]) hx hb d_X_greatestPriority_12 hl (by decide) rfl (fun ls hl => ?_)
  have loop : ∀ (n i : Nat) (g0 : Int32) (H : Heap) (locs : List Loc) (cells slots : Nat) (ls : Array Slot), i + n = 6 → xw_R g B o σ H → va_S (xw_A o s.heap.size) s.heap H locs → cells + n * 0 ≤ 0 → slots + n * 0 ≤ 0 → lv_has ls 7 [(5, .int (nI i)), (4, .int (nI 6)), (3, .ref (o + 35)), (2, .int g0), (0, .ref o), (1, .int x)] → xm_great n i σ x g0 = xm_great 6 0 σ x (-1) → W p l e R s m ([.ref o, .int x] : List Value).toArray below meth c H locs cells slots (MQ below (xb_Q (fun v t => (fun v _ => v = .int (xm_great 6 0 σ x (-1))) v t.heap ∧ xw_W g B o lim σ t) (xw_A o s.heap.size)) ([.ref o, .int x] : List Value).toArray s 0 0 (xw_A o s.heap.size)) (F0 m 14 ls []) := by
    intro n
    induction n with
    | zero =>
      intro i g0 H locs cells slots ls hi hX hS  hc hs hl hres 
      obtain rfl : i = 6 := by omega
      refine lv_iload hx hb d_X_greatestPriority_14 (lv_at hl 0 rfl) ?_
      refine lv_iload hx hb d_X_greatestPriority_16 (lv_at hl 1 rfl) ?_
      refine lv_icmp_ge (tgt := 57) hx hb d_X_greatestPriority_18 (by decide) (fun c_1 => ?_) (fun c_1 => absurd (nI_le (Nat.le_refl 6) (by decide)) c_1)
      refine lv_iload_n hx hb d_X_greatestPriority_57 rfl (lv_at hl 3 rfl) ?_
      exact xr_I (τ := σ) (val := (fun v _ => v = .int (xm_great 6 0 σ x (-1)))) hC hW hX hS (by omega) (by omega) rfl (by rw [← hres]; rfl) d_X_greatestPriority_58
    | succ n ih =>
      intro i g0 H locs cells slots ls hi hX hS  hc hs hl hres 
      refine lv_iload hx hb d_X_greatestPriority_14 (lv_at hl 0 rfl) ?_
      refine lv_iload hx hb d_X_greatestPriority_16 (lv_at hl 1 rfl) ?_
      refine lv_icmp_ge (tgt := 57) hx hb d_X_greatestPriority_18 (by decide) (fun c_2 => absurd c_2 (nI_ge (show i < 6 by omega) (by decide))) (fun c_2 => ?_)
      refine lv_aload_n hx hb d_X_greatestPriority_21 rfl (lv_at hl 2 rfl) ?_
      refine lv_iload hx hb d_X_greatestPriority_22 (lv_at hl 0 rfl) ?_
      refine xb_aald (v := o + 36 + 3 * i) hx hb hK 1 rfl hX.2.2.1 (vp_in_nI (show i < 6 by omega) (by decide)) (by rw [nI_clamp (by omega)]) d_X_greatestPriority_24 ?_
      refine lv_astore (lv' := [(6, .ref (o + 36 + 3 * i)), (5, .int (nI i)), (4, .int (nI 6)), (3, .ref (o + 35)), (2, .int g0), (0, .ref o), (1, .int x)]) hx hb d_X_greatestPriority_25 hl (by decide) rfl (fun ls hl => ?_)
      refine lv_aload hx hb d_X_greatestPriority_27 (lv_at hl 0 rfl) ?_
      refine lv_iload_n hx hb d_X_greatestPriority_29 rfl (lv_at hl 6 rfl) ?_
      refine xk_iQ (rest := []) (c_C_isAvailableFor l g B o lim σ i (show i < 6 by omega) x) gd_X_C_isAvailableFor hd_C_isAvailableFor hC hW hX hS (xb_recv hK (ci := xi_C) rfl (hX.2.2.2.2.2.1 i (show i < 6 by omega))) trivial (by omega) (by omega) (by omega) (by omega) hl.1 rfl (Nat.le_of_ble_eq_true rfl) d_X_greatestPriority_30 (fun v8 H locs hv hX hS hF => ?_)
      obtain rfl := hv
      refine lv_if_eq (tgt := 51) hx hb d_X_greatestPriority_33 (by decide) (fun c_3 => ?_) (fun c_3 => ?_)
      · have c_3 := xs_b0 c_3
        refine lv_iinc (v := nI (i + 1)) (lv' := [(5, .int (nI (i + 1))), (6, .ref (o + 36 + 3 * i)), (4, .int (nI 6)), (3, .ref (o + 35)), (2, .int g0), (0, .ref o), (1, .int x)]) hx hb d_X_greatestPriority_51 hl (k := 1) rfl (nI_1 _) (by decide) rfl (fun ls hl => ?_)
        refine lv_goto (tgt := 14) hx hb d_X_greatestPriority_54 (by decide) ?_
        exact ih (i + 1) g0 _ _ _ _ ls (by omega) hX hS  (by omega) (by omega) (lv_sub hl [0, 2, 3, 4, 5, 6] rfl) (by rw [← hres]; simp only [xm_great, c_3, if_true, if_false, reduceIte, Bool.false_eq_true, Bool.true_eq_false, and_true, true_and, and_false, false_and, or_true, true_or, or_false, false_or, not_true_eq_false, not_false_eq_true] <;> rfl) 
      · have c_3 := xs_b1 c_3
        refine lv_aload hx hb d_X_greatestPriority_36 (lv_at hl 0 rfl) ?_
        refine gf_X_C_priority hx hb hts hown hK (hX.2.2.2.2.2.1 i (show i < 6 by omega)) rfl d_X_greatestPriority_38 ?_
        refine lv_iload_n hx hb d_X_greatestPriority_41 rfl (lv_at hl 4 rfl) ?_
        refine lv_icmp_le (tgt := 51) hx hb d_X_greatestPriority_42 (by decide) (fun c_4 => ?_) (fun c_4 => ?_)
        · refine lv_iinc (v := nI (i + 1)) (lv' := [(5, .int (nI (i + 1))), (6, .ref (o + 36 + 3 * i)), (4, .int (nI 6)), (3, .ref (o + 35)), (2, .int g0), (0, .ref o), (1, .int x)]) hx hb d_X_greatestPriority_51 hl (k := 1) rfl (nI_1 _) (by decide) rfl (fun ls hl => ?_)
          refine lv_goto (tgt := 14) hx hb d_X_greatestPriority_54 (by decide) ?_
          exact ih (i + 1) g0 _ _ _ _ ls (by omega) hX hS  (by omega) (by omega) (lv_sub hl [0, 2, 3, 4, 5, 6] rfl) (by rw [← hres]; simp only [xm_great, c_3, c_4, if_true, if_false, reduceIte, Bool.false_eq_true, Bool.true_eq_false, and_true, true_and, and_false, false_and, or_true, true_or, or_false, false_or, not_true_eq_false, not_false_eq_true] <;> rfl) 
        · refine lv_aload hx hb d_X_greatestPriority_45 (lv_at hl 0 rfl) ?_
          refine gf_X_C_priority hx hb hts hown hK (hX.2.2.2.2.2.1 i (show i < 6 by omega)) rfl d_X_greatestPriority_47 ?_
          refine lv_istore_n (lv' := [(2, .int ((xs_cn σ i).2.2.2.1)), (6, .ref (o + 36 + 3 * i)), (5, .int (nI i)), (4, .int (nI 6)), (3, .ref (o + 35)), (0, .ref o), (1, .int x)]) hx hb d_X_greatestPriority_50 rfl hl (by decide) rfl (fun ls hl => ?_)
          refine lv_iinc (v := nI (i + 1)) (lv' := [(5, .int (nI (i + 1))), (2, .int ((xs_cn σ i).2.2.2.1)), (6, .ref (o + 36 + 3 * i)), (4, .int (nI 6)), (3, .ref (o + 35)), (0, .ref o), (1, .int x)]) hx hb d_X_greatestPriority_51 hl (k := 2) rfl (nI_1 _) (by decide) rfl (fun ls hl => ?_)
          refine lv_goto (tgt := 14) hx hb d_X_greatestPriority_54 (by decide) ?_
          exact ih (i + 1) ((xs_cn σ i).2.2.2.1) _ _ _ _ ls (by omega) hX hS  (by omega) (by omega) (lv_sub hl [0, 3, 4, 1, 5, 6] rfl) (by rw [← hres]; simp only [xm_great, c_3, c_4, if_true, if_false, reduceIte, Bool.false_eq_true, Bool.true_eq_false, and_true, true_and, and_false, false_and, or_true, true_or, or_false, false_or, not_true_eq_false, not_false_eq_true] <;> rfl) 
  exact loop 6 0 (-1) _ _ _ _ ls (by omega) hX hS  (by omega) (by omega) (lv_sub hl [0, 1, 2, 3, 4, 5] rfl) rfl 
set_option maxHeartbeats 4000000 in
set_option maxRecDepth 100000 in
theorem c_X_giveToAvailable (l : Launch) (g : xw_G) (B : Nat → Prop) (o lim : Nat) (σ : xs_S) (a : Nat) (z : xs_Z) : xc_V l y_X_giveToAvailable (Cond.code y_X_giveToAvailable b_X_giveToAvailable 6 none) g B o lim σ (xm_give 6 0 σ z) [.ref o, .ref a] (fun H => xw_Z g B a z H) 1 21 0 0 := by
  refine xh_V (own := R_X) (by decide) rfl (Nat.le_of_ble_eq_true rfl) ?_
  intro p e R s m below meth c ls hRf hRl hRc hRs hC hW hE hl
  obtain ⟨hx, hb, hml, hr, hown, hts, hlk⟩ := id hC
  have hX := hW.1
  have hK := hW.2.1
  have hS : va_S (xw_A o s.heap.size) s.heap s.heap [] := va_S.rf
  have hl : lv_has ls 6 [(0, .ref o), (1, .ref a)] := hl
  have hz := hE
  refine lv_aload_n hx hb d_X_giveToAvailable_0 rfl (lv_at hl 0 rfl) ?_
  obtain ⟨v9, hXo, hXl⟩ := hX.1
  refine gf_X_X_connections hx hb hts hown hK hXo rfl d_X_giveToAvailable_1 ?_
  refine lv_astore_n (lv' := [(2, .ref (o + 35)), (0, .ref o), (1, .ref a)]) hx hb d_X_giveToAvailable_4 rfl hl (by decide) rfl (fun ls hl => ?_)
  refine lv_aload_n hx hb d_X_giveToAvailable_5 rfl (lv_at hl 0 rfl) ?_
  refine xb_alen hx hb hK 1 rfl hX.2.2.1 d_X_giveToAvailable_6 ?_
  refine lv_istore_n (lv' := [(3, .int (nI 6)), (2, .ref (o + 35)), (0, .ref o), (1, .ref a)]) hx hb d_X_giveToAvailable_7 rfl hl (by decide) rfl (fun ls hl => ?_)
  refine lv_iconst (v := 0) hx hb d_X_giveToAvailable_8 (by decide) ?_
  refine lv_istore (lv' := [(4, .int 0), (3, .int (nI 6)), (2, .ref (o + 35)), (0, .ref o), (1, .ref a)]) hx hb d_X_giveToAvailable_9 hl (by decide) rfl (fun ls hl => ?_)
  have loop : ∀ (n i : Nat) (τ : xs_S) (H : Heap) (locs : List Loc) (cells slots : Nat) (ls : Array Slot), i + n = 6 → xw_R g B o τ H → va_S (xw_A o s.heap.size) s.heap H locs → xw_Z g B a z H → cells + n * 0 ≤ 0 → slots + n * 0 ≤ 0 → lv_has ls 6 [(4, .int (nI i)), (3, .int (nI 6)), (2, .ref (o + 35)), (0, .ref o), (1, .ref a)] → xm_give n i τ z = xm_give 6 0 σ z → W p l e R s m ([.ref o, .ref a] : List Value).toArray below meth c H locs cells slots (MQ below (xb_V (fun t => xw_W g B o lim (xm_give 6 0 σ z) t) (xw_A o s.heap.size)) ([.ref o, .ref a] : List Value).toArray s 0 0 (xw_A o s.heap.size)) (F0 m 11 ls []) := by
    intro n
    induction n with
    | zero =>
      intro i τ H locs cells slots ls hi hX hS hz hc hs hl hres 
      obtain rfl : i = 6 := by omega
      refine lv_iload hx hb d_X_giveToAvailable_11 (lv_at hl 0 rfl) ?_
      refine lv_iload_n hx hb d_X_giveToAvailable_13 rfl (lv_at hl 1 rfl) ?_
      refine lv_icmp_ge (tgt := 50) hx hb d_X_giveToAvailable_14 (by decide) (fun c_1 => ?_) (fun c_1 => absurd (nI_le (Nat.le_refl 6) (by decide)) c_1)
      exact xr_V (τ := xm_give 6 0 σ z) hC hW hX hS (by omega) (by omega) hres d_X_giveToAvailable_50
    | succ n ih =>
      intro i τ H locs cells slots ls hi hX hS hz hc hs hl hres 
      refine lv_iload hx hb d_X_giveToAvailable_11 (lv_at hl 0 rfl) ?_
      refine lv_iload_n hx hb d_X_giveToAvailable_13 rfl (lv_at hl 1 rfl) ?_
      refine lv_icmp_ge (tgt := 50) hx hb d_X_giveToAvailable_14 (by decide) (fun c_2 => absurd c_2 (nI_ge (show i < 6 by omega) (by decide))) (fun c_2 => ?_)
      refine lv_aload_n hx hb d_X_giveToAvailable_17 rfl (lv_at hl 2 rfl) ?_
      refine lv_iload hx hb d_X_giveToAvailable_18 (lv_at hl 0 rfl) ?_
      refine xb_aald (v := o + 36 + 3 * i) hx hb hK 1 rfl hX.2.2.1 (vp_in_nI (show i < 6 by omega) (by decide)) (by rw [nI_clamp (by omega)]) d_X_giveToAvailable_20 ?_
      refine lv_astore (lv' := [(5, .ref (o + 36 + 3 * i)), (4, .int (nI i)), (3, .int (nI 6)), (2, .ref (o + 35)), (0, .ref o), (1, .ref a)]) hx hb d_X_giveToAvailable_21 hl (by decide) rfl (fun ls hl => ?_)
      refine lv_aload hx hb d_X_giveToAvailable_23 (lv_at hl 0 rfl) ?_
      refine lv_aload_n hx hb d_X_giveToAvailable_25 rfl (lv_at hl 5 rfl) ?_
      refine gf_X_Z_to hx hb hts hown hK hz.1 rfl d_X_giveToAvailable_26 ?_
      refine xk_iQ (rest := []) (c_C_isAvailableFor l g B o lim τ i (show i < 6 by omega) z.2.2.2.2.1) gd_X_C_isAvailableFor hd_C_isAvailableFor hC hW hX hS (xb_recv hK (ci := xi_C) rfl (hX.2.2.2.2.2.1 i (show i < 6 by omega))) trivial (by omega) (by omega) (by omega) (by omega) hl.1 rfl (Nat.le_of_ble_eq_true rfl) d_X_giveToAvailable_29 (fun v8 H locs hv hX hS hF => ?_)
      have hz := hz.F hX.2.2.2.2.2.2.2.1 hF
      obtain rfl := hv
      refine lv_if_eq (tgt := 44) hx hb d_X_giveToAvailable_32 (by decide) (fun c_3 => ?_) (fun c_3 => ?_)
      · have c_3 := xs_b0 c_3
        refine lv_iinc (v := nI (i + 1)) (lv' := [(4, .int (nI (i + 1))), (5, .ref (o + 36 + 3 * i)), (3, .int (nI 6)), (2, .ref (o + 35)), (0, .ref o), (1, .ref a)]) hx hb d_X_giveToAvailable_44 hl (k := 1) rfl (nI_1 _) (by decide) rfl (fun ls hl => ?_)
        refine lv_goto (tgt := 11) hx hb d_X_giveToAvailable_47 (by decide) ?_
        exact ih (i + 1) τ _ _ _ _ ls (by omega) hX hS hz (by omega) (by omega) (lv_sub hl [0, 2, 3, 4, 5] rfl) (by rw [← hres]; simp only [xm_give, c_3, if_true, if_false, reduceIte, Bool.false_eq_true, Bool.true_eq_false, and_true, true_and, and_false, false_and, or_true, true_or, or_false, false_or, not_true_eq_false, not_false_eq_true] <;> rfl) 
      · have c_3 := xs_b1 c_3
        refine lv_aload hx hb d_X_giveToAvailable_35 (lv_at hl 0 rfl) ?_
        refine gf_X_C_inbox hx hb hts hown hK (hX.2.2.2.2.2.1 i (show i < 6 by omega)) rfl d_X_giveToAvailable_37 ?_
        refine lv_aload_n hx hb d_X_giveToAvailable_40 rfl (lv_at hl 5 rfl) ?_
        obtain ⟨f9, hq9, hl9, hz9⟩ := hX.2.2.2.2.2.2.1 (8 + i) (xs_8 (show i < 6 by omega))
        refine xk_iV (rest := []) (c_Q_add l g B o lim τ (8 + i) (xs_8 (show i < 6 by omega)) a z) gd_X_Q_add hd_Q_add hC hW hX hS (xb_recv hK (ci := xi_Q) rfl hq9.1) hz (by omega) (by omega) (by omega) (by omega) hl.1 rfl (Nat.le_of_ble_eq_true rfl) d_X_giveToAvailable_41 (fun H locs hX hS hF => ?_)
        have hz := hz.F hX.2.2.2.2.2.2.2.1 hF
        refine lv_iinc (v := nI (i + 1)) (lv' := [(4, .int (nI (i + 1))), (5, .ref (o + 36 + 3 * i)), (3, .int (nI 6)), (2, .ref (o + 35)), (0, .ref o), (1, .ref a)]) hx hb d_X_giveToAvailable_44 hl (k := 1) rfl (nI_1 _) (by decide) rfl (fun ls hl => ?_)
        refine lv_goto (tgt := 11) hx hb d_X_giveToAvailable_47 (by decide) ?_
        exact ih (i + 1) (xm_add τ (8 + i) z) _ _ _ _ ls (by omega) hX hS hz (by omega) (by omega) (lv_sub hl [0, 2, 3, 4, 5] rfl) (by rw [← hres]; simp only [xm_give, c_3, if_true, if_false, reduceIte, Bool.false_eq_true, Bool.true_eq_false, and_true, true_and, and_false, false_and, or_true, true_or, or_false, false_or, not_true_eq_false, not_false_eq_true] <;> rfl) 
  exact loop 6 0 σ _ _ _ _ ls (by omega) hX hS hz (by omega) (by omega) (lv_sub hl [0, 1, 2, 3, 4] rfl) rfl 
set_option maxHeartbeats 4000000 in
set_option maxRecDepth 100000 in
theorem c_X_giveToPriority (l : Launch) (g : xw_G) (B : Nat → Prop) (o lim : Nat) (σ : xs_S) (a : Nat) (z : xs_Z) (x : Int32) : xc_V l y_X_giveToPriority (Cond.code y_X_giveToPriority b_X_giveToPriority 7 none) g B o lim σ (xm_gp 6 0 σ z x) [.ref o, .ref a, .int x] (fun H => xw_Z g B a z H) 1 21 0 0 := by
  refine xh_V (own := R_X) (by decide) rfl (Nat.le_of_ble_eq_true rfl) ?_
  intro p e R s m below meth c ls hRf hRl hRc hRs hC hW hE hl
  obtain ⟨hx, hb, hml, hr, hown, hts, hlk⟩ := id hC
  have hX := hW.1
  have hK := hW.2.1
  have hS : va_S (xw_A o s.heap.size) s.heap s.heap [] := va_S.rf
  have hl : lv_has ls 7 [(0, .ref o), (1, .ref a), (2, .int x)] := hl
  have hz := hE
  refine lv_aload_n hx hb d_X_giveToPriority_0 rfl (lv_at hl 0 rfl) ?_
  obtain ⟨v9, hXo, hXl⟩ := hX.1
  refine gf_X_X_connections hx hb hts hown hK hXo rfl d_X_giveToPriority_1 ?_
  refine lv_astore_n (lv' := [(3, .ref (o + 35)), (0, .ref o), (1, .ref a), (2, .int x)]) hx hb d_X_giveToPriority_4 rfl hl (by decide) rfl (fun ls hl => ?_)
  refine lv_aload_n hx hb d_X_giveToPriority_5 rfl (lv_at hl 0 rfl) ?_
  refine xb_alen hx hb hK 1 rfl hX.2.2.1 d_X_giveToPriority_6 ?_
  refine lv_istore (lv' := [(4, .int (nI 6)), (3, .ref (o + 35)), (0, .ref o), (1, .ref a), (2, .int x)]) hx hb d_X_giveToPriority_7 hl (by decide) rfl (fun ls hl => ?_)
  refine lv_iconst (v := 0) hx hb d_X_giveToPriority_9 (by decide) ?_
  refine lv_istore (lv' := [(5, .int 0), (4, .int (nI 6)), (3, .ref (o + 35)), (0, .ref o), (1, .ref a), (2, .int x)]) hx hb d_X_giveToPriority_10 hl (by decide) rfl (fun ls hl => ?_)
  have loop : ∀ (n i : Nat) (τ : xs_S) (H : Heap) (locs : List Loc) (cells slots : Nat) (ls : Array Slot), i + n = 6 → xw_R g B o τ H → va_S (xw_A o s.heap.size) s.heap H locs → xw_Z g B a z H → cells + n * 0 ≤ 0 → slots + n * 0 ≤ 0 → lv_has ls 7 [(5, .int (nI i)), (4, .int (nI 6)), (3, .ref (o + 35)), (0, .ref o), (1, .ref a), (2, .int x)] → xm_gp n i τ z x = xm_gp 6 0 σ z x → W p l e R s m ([.ref o, .ref a, .int x] : List Value).toArray below meth c H locs cells slots (MQ below (xb_V (fun t => xw_W g B o lim (xm_gp 6 0 σ z x) t) (xw_A o s.heap.size)) ([.ref o, .ref a, .int x] : List Value).toArray s 0 0 (xw_A o s.heap.size)) (F0 m 12 ls []) := by
    intro n
    induction n with
    | zero =>
      intro i τ H locs cells slots ls hi hX hS hz hc hs hl hres 
      obtain rfl : i = 6 := by omega
      refine lv_iload hx hb d_X_giveToPriority_12 (lv_at hl 0 rfl) ?_
      refine lv_iload hx hb d_X_giveToPriority_14 (lv_at hl 1 rfl) ?_
      refine lv_icmp_ge (tgt := 61) hx hb d_X_giveToPriority_16 (by decide) (fun c_1 => ?_) (fun c_1 => absurd (nI_le (Nat.le_refl 6) (by decide)) c_1)
      exact xr_V (τ := xm_gp 6 0 σ z x) hC hW hX hS (by omega) (by omega) hres d_X_giveToPriority_61
    | succ n ih =>
      intro i τ H locs cells slots ls hi hX hS hz hc hs hl hres 
      refine lv_iload hx hb d_X_giveToPriority_12 (lv_at hl 0 rfl) ?_
      refine lv_iload hx hb d_X_giveToPriority_14 (lv_at hl 1 rfl) ?_
      refine lv_icmp_ge (tgt := 61) hx hb d_X_giveToPriority_16 (by decide) (fun c_2 => absurd c_2 (nI_ge (show i < 6 by omega) (by decide))) (fun c_2 => ?_)
      refine lv_aload_n hx hb d_X_giveToPriority_19 rfl (lv_at hl 2 rfl) ?_
      refine lv_iload hx hb d_X_giveToPriority_20 (lv_at hl 0 rfl) ?_
      refine xb_aald (v := o + 36 + 3 * i) hx hb hK 1 rfl hX.2.2.1 (vp_in_nI (show i < 6 by omega) (by decide)) (by rw [nI_clamp (by omega)]) d_X_giveToPriority_22 ?_
      refine lv_astore (lv' := [(6, .ref (o + 36 + 3 * i)), (5, .int (nI i)), (4, .int (nI 6)), (3, .ref (o + 35)), (0, .ref o), (1, .ref a), (2, .int x)]) hx hb d_X_giveToPriority_23 hl (by decide) rfl (fun ls hl => ?_)
      refine lv_aload hx hb d_X_giveToPriority_25 (lv_at hl 0 rfl) ?_
      refine lv_aload_n hx hb d_X_giveToPriority_27 rfl (lv_at hl 5 rfl) ?_
      refine gf_X_Z_to hx hb hts hown hK hz.1 rfl d_X_giveToPriority_28 ?_
      refine xk_iQ (rest := []) (c_C_isAvailableFor l g B o lim τ i (show i < 6 by omega) z.2.2.2.2.1) gd_X_C_isAvailableFor hd_C_isAvailableFor hC hW hX hS (xb_recv hK (ci := xi_C) rfl (hX.2.2.2.2.2.1 i (show i < 6 by omega))) trivial (by omega) (by omega) (by omega) (by omega) hl.1 rfl (Nat.le_of_ble_eq_true rfl) d_X_giveToPriority_31 (fun v8 H locs hv hX hS hF => ?_)
      have hz := hz.F hX.2.2.2.2.2.2.2.1 hF
      obtain rfl := hv
      refine lv_if_eq (tgt := 55) hx hb d_X_giveToPriority_34 (by decide) (fun c_3 => ?_) (fun c_3 => ?_)
      · have c_3 := xs_b0 c_3
        refine lv_iinc (v := nI (i + 1)) (lv' := [(5, .int (nI (i + 1))), (6, .ref (o + 36 + 3 * i)), (4, .int (nI 6)), (3, .ref (o + 35)), (0, .ref o), (1, .ref a), (2, .int x)]) hx hb d_X_giveToPriority_55 hl (k := 1) rfl (nI_1 _) (by decide) rfl (fun ls hl => ?_)
        refine lv_goto (tgt := 12) hx hb d_X_giveToPriority_58 (by decide) ?_
        exact ih (i + 1) τ _ _ _ _ ls (by omega) hX hS hz (by omega) (by omega) (lv_sub hl [0, 2, 3, 4, 5, 6] rfl) (by rw [← hres]; simp only [xm_gp, c_3, if_true, if_false, reduceIte, Bool.false_eq_true, Bool.true_eq_false, and_true, true_and, and_false, false_and, or_true, true_or, or_false, false_or, not_true_eq_false, not_false_eq_true] <;> rfl) 
      · have c_3 := xs_b1 c_3
        refine lv_aload hx hb d_X_giveToPriority_37 (lv_at hl 0 rfl) ?_
        refine gf_X_C_priority hx hb hts hown hK (hX.2.2.2.2.2.1 i (show i < 6 by omega)) rfl d_X_giveToPriority_39 ?_
        refine lv_iload_n hx hb d_X_giveToPriority_42 rfl (lv_at hl 6 rfl) ?_
        refine lv_icmp_ne (tgt := 55) hx hb d_X_giveToPriority_43 (by decide) (fun c_4 => ?_) (fun c_4 => ?_)
        · refine lv_iinc (v := nI (i + 1)) (lv' := [(5, .int (nI (i + 1))), (6, .ref (o + 36 + 3 * i)), (4, .int (nI 6)), (3, .ref (o + 35)), (0, .ref o), (1, .ref a), (2, .int x)]) hx hb d_X_giveToPriority_55 hl (k := 1) rfl (nI_1 _) (by decide) rfl (fun ls hl => ?_)
          refine lv_goto (tgt := 12) hx hb d_X_giveToPriority_58 (by decide) ?_
          exact ih (i + 1) τ _ _ _ _ ls (by omega) hX hS hz (by omega) (by omega) (lv_sub hl [0, 2, 3, 4, 5, 6] rfl) (by rw [← hres]; simp only [xm_gp, c_3, c_4, if_true, if_false, reduceIte, Bool.false_eq_true, Bool.true_eq_false, and_true, true_and, and_false, false_and, or_true, true_or, or_false, false_or, not_true_eq_false, not_false_eq_true] <;> rfl) 
        · refine lv_aload hx hb d_X_giveToPriority_46 (lv_at hl 0 rfl) ?_
          refine gf_X_C_inbox hx hb hts hown hK (hX.2.2.2.2.2.1 i (show i < 6 by omega)) rfl d_X_giveToPriority_48 ?_
          refine lv_aload_n hx hb d_X_giveToPriority_51 rfl (lv_at hl 5 rfl) ?_
          obtain ⟨f9, hq9, hl9, hz9⟩ := hX.2.2.2.2.2.2.1 (8 + i) (xs_8 (show i < 6 by omega))
          refine xk_iV (rest := []) (c_Q_add l g B o lim τ (8 + i) (xs_8 (show i < 6 by omega)) a z) gd_X_Q_add hd_Q_add hC hW hX hS (xb_recv hK (ci := xi_Q) rfl hq9.1) hz (by omega) (by omega) (by omega) (by omega) hl.1 rfl (Nat.le_of_ble_eq_true rfl) d_X_giveToPriority_52 (fun H locs hX hS hF => ?_)
          have hz := hz.F hX.2.2.2.2.2.2.2.1 hF
          refine lv_iinc (v := nI (i + 1)) (lv' := [(5, .int (nI (i + 1))), (6, .ref (o + 36 + 3 * i)), (4, .int (nI 6)), (3, .ref (o + 35)), (0, .ref o), (1, .ref a), (2, .int x)]) hx hb d_X_giveToPriority_55 hl (k := 1) rfl (nI_1 _) (by decide) rfl (fun ls hl => ?_)
          refine lv_goto (tgt := 12) hx hb d_X_giveToPriority_58 (by decide) ?_
          exact ih (i + 1) (xm_add τ (8 + i) z) _ _ _ _ ls (by omega) hX hS hz (by omega) (by omega) (lv_sub hl [0, 2, 3, 4, 5, 6] rfl) (by rw [← hres]; simp only [xm_gp, c_3, c_4, if_true, if_false, reduceIte, Bool.false_eq_true, Bool.true_eq_false, and_true, true_and, and_false, false_and, or_true, true_or, or_false, false_or, not_true_eq_false, not_false_eq_true] <;> rfl) 
  exact loop 6 0 σ _ _ _ _ ls (by omega) hX hS hz (by omega) (by omega) (lv_sub hl [0, 1, 2, 3, 4, 5] rfl) rfl 
set_option maxHeartbeats 4000000 in
set_option maxRecDepth 100000 in
theorem c_X_returnError (l : Launch) (g : xw_G) (B : Nat → Prop) (o lim : Nat) (σ : xs_S) (a : Nat) (z : xs_Z) : xc_V l y_X_returnError (Cond.code y_X_returnError b_X_returnError 2 none) g B o lim σ (xm_err σ z) [.ref o, .ref a] (fun H => xw_Z g B a z H) 2 46 1 6 := by
  refine xh_V (own := R_X) (by decide) rfl (Nat.le_of_ble_eq_true rfl) ?_
  intro p e R s m below meth c ls hRf hRl hRc hRs hC hW hE hl
  obtain ⟨hx, hb, hml, hr, hown, hts, hlk⟩ := id hC
  have hX := hW.1
  have hK := hW.2.1
  have hS : va_S (xw_A o s.heap.size) s.heap s.heap [] := va_S.rf
  have hl : lv_has ls 2 [(0, .ref o), (1, .ref a)] := hl
  have hz := hE
  refine lv_aload_n hx hb d_X_returnError_0 rfl (lv_at hl 0 rfl) ?_
  refine nw_X_Z hx hb hts hown hK hX hS (by omega) (by omega) d_X_returnError_1 (fun a9 H9 hn9 hb9 hsz9 hX9 hS9 hF9 => ?_)
  have nhz := hz.F (fun _ q => q.elim) hF9
  have hX0 := hX
  have hX := hX9
  refine lv_dup hx hb d_X_returnError_4 rfl ?_
  refine lv_bipush (v := 8) hx hb d_X_returnError_5 (by decide) ?_
  refine lv_aload_n hx hb d_X_returnError_7 rfl (lv_at hl 1 rfl) ?_
  refine gf_X_Z_to hx hb hts hown hK nhz.1 rfl d_X_returnError_8 ?_
  refine lv_iconst (v := (-1)) hx hb d_X_returnError_11 (by decide) ?_
  refine lv_aload_n hx hb d_X_returnError_12 rfl (lv_at hl 1 rfl) ?_
  refine gf_X_Z_value hx hb hts hown hK nhz.1 rfl d_X_returnError_13 ?_
  refine lv_aload_n hx hb d_X_returnError_16 rfl (lv_at hl 1 rfl) ?_
  refine gf_X_Z_from hx hb hts hown hK nhz.1 rfl d_X_returnError_17 ?_
  refine lv_iconst (v := (-1)) hx hb d_X_returnError_20 (by decide) ?_
  refine in_X_Z (rest := [.ref a9, .ref o]) hC hW hX0 hX9 hS9 hF9 hn9 hb9 hsz9 (by omega) (by omega) (by omega) (by omega) hl.1 rfl (Nat.le_of_ble_eq_true rfl) d_X_returnError_21 (fun H locs hzn hX hS hF => ?_)
  have hz_1 := hzn
  have hz := hz.F (fun _ q => q.elim) hF
  obtain ⟨v9, hXo, hXl⟩ := hX.1
  refine xk_iV (rest := []) (c_X_giveToAvailable l g B o lim σ a9 (8, z.2.2.2.2.1, (-1), z.2.2.2.1, z.2.1, (-1))) gd_X_X_giveToAvailable hd_X_giveToAvailable hC hW hX hS (xb_recv hK (ci := xi_X) rfl hXo) hz_1 (by omega) (by omega) (by omega) (by omega) hl.1 rfl (Nat.le_of_ble_eq_true rfl) d_X_returnError_24 (fun H locs hX hS hF => ?_)
  have hz := hz.F hX.2.2.2.2.2.2.2.1 hF
  have hz_1 := hz_1.F hX.2.2.2.2.2.2.2.1 hF
  exact xr_V (τ := xm_err σ z) hC hW hX hS (by omega) (by omega) rfl d_X_returnError_27
set_option maxHeartbeats 4000000 in
set_option maxRecDepth 100000 in
theorem c_X_grantArrives (l : Launch) (g : xw_G) (B : Nat → Prop) (o lim : Nat) (σ : xs_S) (a : Nat) (z : xs_Z) (hok : xm_ok z) : xc_V l y_X_grantArrives (Cond.code y_X_grantArrives b_X_grantArrives 3 none) g B o lim σ (xm_grant σ z) [.ref o, .ref a] (fun H => xw_Z g B a z H) 2 46 0 0 := by
  refine xh_V (own := R_X) (by decide) rfl (Nat.le_of_ble_eq_true rfl) ?_
  intro p e R s m below meth c ls hRf hRl hRc hRs hC hW hE hl
  obtain ⟨hx, hb, hml, hr, hown, hts, hlk⟩ := id hC
  have hX := hW.1
  have hK := hW.2.1
  have hS : va_S (xw_A o s.heap.size) s.heap s.heap [] := va_S.rf
  have hl : lv_has ls 3 [(0, .ref o), (1, .ref a)] := hl
  have hz := hE
  refine lv_aload_n hx hb d_X_grantArrives_0 rfl (lv_at hl 0 rfl) ?_
  obtain ⟨v9, hXo, hXl⟩ := hX.1
  refine gf_X_X_accounts hx hb hts hown hK hXo rfl d_X_grantArrives_1 ?_
  refine lv_aload_n hx hb d_X_grantArrives_4 rfl (lv_at hl 1 rfl) ?_
  refine gf_X_Z_to hx hb hts hown hK hz.1 rfl d_X_grantArrives_5 ?_
  refine xb_aald (v := o + 3 + 4 * (xs_ix z.2.2.2.2.1)) hx hb hK 0 rfl hX.2.1 hok.2 rfl d_X_grantArrives_8 ?_
  refine lv_astore_n (lv' := [(2, .ref (o + 3 + 4 * (xs_ix z.2.2.2.2.1))), (0, .ref o), (1, .ref a)]) hx hb d_X_grantArrives_9 rfl hl (by decide) rfl (fun ls hl => ?_)
  refine lv_aload_n hx hb d_X_grantArrives_10 rfl (lv_at hl 0 rfl) ?_
  refine lv_aload_n hx hb d_X_grantArrives_11 rfl (lv_at hl 2 rfl) ?_
  refine gf_X_Z_from hx hb hts hown hK hz.1 rfl d_X_grantArrives_12 ?_
  refine lv_iconst (v := 4) hx hb d_X_grantArrives_15 (by decide) ?_
  refine xk_iQ (rest := []) (c_A_hasAny l g B o lim σ (xs_ix z.2.2.2.2.1) (xs_ixl hok.2) z.2.1 (xs_ix z.2.1) hok.1 rfl 4) gd_X_A_hasAny hd_A_hasAny hC hW hX hS (xb_recv hK (ci := xi_A) rfl (hX.2.2.2.1 (xs_ix z.2.2.2.2.1) (xs_ixl hok.2))) trivial (by omega) (by omega) (by omega) (by omega) hl.1 rfl (Nat.le_of_ble_eq_true rfl) d_X_grantArrives_16 (fun v8 H locs hv hX hS hF => ?_)
  have hz := hz.F hX.2.2.2.2.2.2.2.1 hF
  obtain rfl := hv
  refine lv_if_eq (tgt := 45) hx hb d_X_grantArrives_19 (by decide) (fun c_1 => ?_) (fun c_1 => ?_)
  · have c_1 := xs_b0 c_1
    exact xr_V (τ := xm_grant σ z) hC hW hX hS (by omega) (by omega) (by simp only [xm_grant, c_1, if_true, if_false, reduceIte, Bool.false_eq_true, Bool.true_eq_false, and_true, true_and, and_false, false_and, or_true, true_or, or_false, false_or, not_true_eq_false, not_false_eq_true] <;> rfl) d_X_grantArrives_45
  · have c_1 := xs_b1 c_1
    refine lv_aload_n hx hb d_X_grantArrives_22 rfl (lv_at hl 0 rfl) ?_
    refine lv_aload_n hx hb d_X_grantArrives_23 rfl (lv_at hl 2 rfl) ?_
    refine gf_X_Z_from hx hb hts hown hK hz.1 rfl d_X_grantArrives_24 ?_
    refine lv_iconst (v := 1) hx hb d_X_grantArrives_27 (by decide) ?_
    refine xk_iV (rest := []) (c_A_addMark l g B o lim σ (xs_ix z.2.2.2.2.1) (xs_ixl hok.2) z.2.1 (xs_ix z.2.1) hok.1 rfl 1) gd_X_A_addMark hd_A_addMark hC hW hX hS (xb_recv hK (ci := xi_A) rfl (hX.2.2.2.1 (xs_ix z.2.2.2.2.1) (xs_ixl hok.2))) trivial (by omega) (by omega) (by omega) (by omega) hl.1 rfl (Nat.le_of_ble_eq_true rfl) d_X_grantArrives_28 (fun H locs hX hS hF => ?_)
    have hz := hz.F hX.2.2.2.2.2.2.2.1 hF
    refine lv_aload_n hx hb d_X_grantArrives_31 rfl (lv_at hl 0 rfl) ?_
    refine lv_aload_n hx hb d_X_grantArrives_32 rfl (lv_at hl 2 rfl) ?_
    refine gf_X_Z_from hx hb hts hown hK hz.1 rfl d_X_grantArrives_33 ?_
    refine lv_iconst (v := 4) hx hb d_X_grantArrives_36 (by decide) ?_
    refine xk_iV (rest := []) (c_A_dropMarks l g B o lim (xm_mark σ (xs_ix z.2.2.2.2.1) (xs_ix z.2.1) 1) (xs_ix z.2.2.2.2.1) (xs_ixl hok.2) z.2.1 (xs_ix z.2.1) hok.1 rfl 4) gd_X_A_dropMarks hd_A_dropMarks hC hW hX hS (xb_recv hK (ci := xi_A) rfl (hX.2.2.2.1 (xs_ix z.2.2.2.2.1) (xs_ixl hok.2))) trivial (by omega) (by omega) (by omega) (by omega) hl.1 rfl (Nat.le_of_ble_eq_true rfl) d_X_grantArrives_37 (fun H locs hX hS hF => ?_)
    have hz := hz.F hX.2.2.2.2.2.2.2.1 hF
    refine lv_aload_n hx hb d_X_grantArrives_40 rfl (lv_at hl 1 rfl) ?_
    refine lv_aload_n hx hb d_X_grantArrives_41 rfl (lv_at hl 2 rfl) ?_
    obtain ⟨v9, hXo, hXl⟩ := hX.1
    refine xk_iV (rest := []) (c_X_giveToAvailable l g B o lim (xm_drop (xm_mark σ (xs_ix z.2.2.2.2.1) (xs_ix z.2.1) 1) (xs_ix z.2.2.2.2.1) (xs_ix z.2.1) 4) a z) gd_X_X_giveToAvailable hd_X_giveToAvailable hC hW hX hS (xb_recv hK (ci := xi_X) rfl hXo) hz (by omega) (by omega) (by omega) (by omega) hl.1 rfl (Nat.le_of_ble_eq_true rfl) d_X_grantArrives_42 (fun H locs hX hS hF => ?_)
    have hz := hz.F hX.2.2.2.2.2.2.2.1 hF
    exact xr_V (τ := xm_grant σ z) hC hW hX hS (by omega) (by omega) (by simp only [xm_grant, c_1, if_true, if_false, reduceIte, Bool.false_eq_true, Bool.true_eq_false, and_true, true_and, and_false, false_and, or_true, true_or, or_false, false_or, not_true_eq_false, not_false_eq_true] <;> rfl) d_X_grantArrives_45
set_option maxHeartbeats 4000000 in
set_option maxRecDepth 100000 in
theorem c_X_endingArrives (l : Launch) (g : xw_G) (B : Nat → Prop) (o lim : Nat) (σ : xs_S) (a : Nat) (z : xs_Z) (x : Int32) (hok : xm_ok z) : xc_V l y_X_endingArrives (Cond.code y_X_endingArrives b_X_endingArrives 4 none) g B o lim σ (xm_end σ z x) [.ref o, .ref a, .int x] (fun H => xw_Z g B a z H) 2 46 0 0 := by
  refine xh_V (own := R_X) (by decide) rfl (Nat.le_of_ble_eq_true rfl) ?_
  intro p e R s m below meth c ls hRf hRl hRc hRs hC hW hE hl
  obtain ⟨hx, hb, hml, hr, hown, hts, hlk⟩ := id hC
  have hX := hW.1
  have hK := hW.2.1
  have hS : va_S (xw_A o s.heap.size) s.heap s.heap [] := va_S.rf
  have hl : lv_has ls 4 [(0, .ref o), (1, .ref a), (2, .int x)] := hl
  have hz := hE
  refine lv_aload_n hx hb d_X_endingArrives_0 rfl (lv_at hl 0 rfl) ?_
  obtain ⟨v9, hXo, hXl⟩ := hX.1
  refine gf_X_X_accounts hx hb hts hown hK hXo rfl d_X_endingArrives_1 ?_
  refine lv_aload_n hx hb d_X_endingArrives_4 rfl (lv_at hl 1 rfl) ?_
  refine gf_X_Z_to hx hb hts hown hK hz.1 rfl d_X_endingArrives_5 ?_
  refine xb_aald (v := o + 3 + 4 * (xs_ix z.2.2.2.2.1)) hx hb hK 0 rfl hX.2.1 hok.2 rfl d_X_endingArrives_8 ?_
  refine lv_astore_n (lv' := [(3, .ref (o + 3 + 4 * (xs_ix z.2.2.2.2.1))), (0, .ref o), (1, .ref a), (2, .int x)]) hx hb d_X_endingArrives_9 rfl hl (by decide) rfl (fun ls hl => ?_)
  refine lv_aload_n hx hb d_X_endingArrives_10 rfl (lv_at hl 0 rfl) ?_
  refine lv_aload_n hx hb d_X_endingArrives_11 rfl (lv_at hl 2 rfl) ?_
  refine gf_X_Z_from hx hb hts hown hK hz.1 rfl d_X_endingArrives_12 ?_
  refine lv_iload_n hx hb d_X_endingArrives_15 rfl (lv_at hl 3 rfl) ?_
  refine xk_iQ (rest := []) (c_A_hasAny l g B o lim σ (xs_ix z.2.2.2.2.1) (xs_ixl hok.2) z.2.1 (xs_ix z.2.1) hok.1 rfl x) gd_X_A_hasAny hd_A_hasAny hC hW hX hS (xb_recv hK (ci := xi_A) rfl (hX.2.2.2.1 (xs_ix z.2.2.2.2.1) (xs_ixl hok.2))) trivial (by omega) (by omega) (by omega) (by omega) hl.1 rfl (Nat.le_of_ble_eq_true rfl) d_X_endingArrives_16 (fun v8 H locs hv hX hS hF => ?_)
  have hz := hz.F hX.2.2.2.2.2.2.2.1 hF
  obtain rfl := hv
  refine lv_if_eq (tgt := 36) hx hb d_X_endingArrives_19 (by decide) (fun c_1 => ?_) (fun c_1 => ?_)
  · have c_1 := xs_b0 c_1
    exact xr_V (τ := xm_end σ z x) hC hW hX hS (by omega) (by omega) (by simp only [xm_end, c_1, if_true, if_false, reduceIte, Bool.false_eq_true, Bool.true_eq_false, and_true, true_and, and_false, false_and, or_true, true_or, or_false, false_or, not_true_eq_false, not_false_eq_true] <;> rfl) d_X_endingArrives_36
  · have c_1 := xs_b1 c_1
    refine lv_aload_n hx hb d_X_endingArrives_22 rfl (lv_at hl 0 rfl) ?_
    refine lv_aload_n hx hb d_X_endingArrives_23 rfl (lv_at hl 2 rfl) ?_
    refine gf_X_Z_from hx hb hts hown hK hz.1 rfl d_X_endingArrives_24 ?_
    refine lv_iload_n hx hb d_X_endingArrives_27 rfl (lv_at hl 3 rfl) ?_
    refine xk_iV (rest := []) (c_A_dropMarks l g B o lim σ (xs_ix z.2.2.2.2.1) (xs_ixl hok.2) z.2.1 (xs_ix z.2.1) hok.1 rfl x) gd_X_A_dropMarks hd_A_dropMarks hC hW hX hS (xb_recv hK (ci := xi_A) rfl (hX.2.2.2.1 (xs_ix z.2.2.2.2.1) (xs_ixl hok.2))) trivial (by omega) (by omega) (by omega) (by omega) hl.1 rfl (Nat.le_of_ble_eq_true rfl) d_X_endingArrives_28 (fun H locs hX hS hF => ?_)
    have hz := hz.F hX.2.2.2.2.2.2.2.1 hF
    refine lv_aload_n hx hb d_X_endingArrives_31 rfl (lv_at hl 1 rfl) ?_
    refine lv_aload_n hx hb d_X_endingArrives_32 rfl (lv_at hl 2 rfl) ?_
    obtain ⟨v9, hXo, hXl⟩ := hX.1
    refine xk_iV (rest := []) (c_X_giveToAvailable l g B o lim (xm_drop σ (xs_ix z.2.2.2.2.1) (xs_ix z.2.1) x) a z) gd_X_X_giveToAvailable hd_X_giveToAvailable hC hW hX hS (xb_recv hK (ci := xi_X) rfl hXo) hz (by omega) (by omega) (by omega) (by omega) hl.1 rfl (Nat.le_of_ble_eq_true rfl) d_X_endingArrives_33 (fun H locs hX hS hF => ?_)
    have hz := hz.F hX.2.2.2.2.2.2.2.1 hF
    exact xr_V (τ := xm_end σ z x) hC hW hX hS (by omega) (by omega) (by simp only [xm_end, c_1, if_true, if_false, reduceIte, Bool.false_eq_true, Bool.true_eq_false, and_true, true_and, and_false, false_and, or_true, true_or, or_false, false_or, not_true_eq_false, not_false_eq_true] <;> rfl) d_X_endingArrives_36
set_option maxHeartbeats 4000000 in
set_option maxRecDepth 100000 in
theorem c_X_askArrives (l : Launch) (g : xw_G) (B : Nat → Prop) (o lim : Nat) (σ : xs_S) (a : Nat) (z : xs_Z) (hok : xm_ok z) : xc_V l y_X_askArrives (Cond.code y_X_askArrives b_X_askArrives 3 none) g B o lim σ (xm_ask σ z) [.ref o, .ref a] (fun H => xw_Z g B a z H) 3 68 1 6 := by
  refine xh_V (own := R_X) (by decide) rfl (Nat.le_of_ble_eq_true rfl) ?_
  intro p e R s m below meth c ls hRf hRl hRc hRs hC hW hE hl
  obtain ⟨hx, hb, hml, hr, hown, hts, hlk⟩ := id hC
  have hX := hW.1
  have hK := hW.2.1
  have hS : va_S (xw_A o s.heap.size) s.heap s.heap [] := va_S.rf
  have hl : lv_has ls 3 [(0, .ref o), (1, .ref a)] := hl
  have hz := hE
  refine lv_aload_n hx hb d_X_askArrives_0 rfl (lv_at hl 0 rfl) ?_
  obtain ⟨v9, hXo, hXl⟩ := hX.1
  refine gf_X_X_accounts hx hb hts hown hK hXo rfl d_X_askArrives_1 ?_
  refine lv_aload_n hx hb d_X_askArrives_4 rfl (lv_at hl 1 rfl) ?_
  refine gf_X_Z_to hx hb hts hown hK hz.1 rfl d_X_askArrives_5 ?_
  refine xb_aald (v := o + 3 + 4 * (xs_ix z.2.2.2.2.1)) hx hb hK 0 rfl hX.2.1 hok.2 rfl d_X_askArrives_8 ?_
  refine lv_astore_n (lv' := [(2, .ref (o + 3 + 4 * (xs_ix z.2.2.2.2.1))), (0, .ref o), (1, .ref a)]) hx hb d_X_askArrives_9 rfl hl (by decide) rfl (fun ls hl => ?_)
  refine lv_aload_n hx hb d_X_askArrives_10 rfl (lv_at hl 0 rfl) ?_
  refine lv_aload_n hx hb d_X_askArrives_11 rfl (lv_at hl 2 rfl) ?_
  refine gf_X_Z_from hx hb hts hown hK hz.1 rfl d_X_askArrives_12 ?_
  refine lv_iconst (v := 2) hx hb d_X_askArrives_15 (by decide) ?_
  refine xk_iQ (rest := []) (c_A_hasAny l g B o lim σ (xs_ix z.2.2.2.2.1) (xs_ixl hok.2) z.2.1 (xs_ix z.2.1) hok.1 rfl 2) gd_X_A_hasAny hd_A_hasAny hC hW hX hS (xb_recv hK (ci := xi_A) rfl (hX.2.2.2.1 (xs_ix z.2.2.2.2.1) (xs_ixl hok.2))) trivial (by omega) (by omega) (by omega) (by omega) hl.1 rfl (Nat.le_of_ble_eq_true rfl) d_X_askArrives_16 (fun v8 H locs hv hX hS hF => ?_)
  have hz := hz.F hX.2.2.2.2.2.2.2.1 hF
  obtain rfl := hv
  refine lv_if_eq (tgt := 48) hx hb d_X_askArrives_19 (by decide) (fun c_1 => ?_) (fun c_1 => ?_)
  · have c_1 := xs_b0 c_1
    refine lv_aload_n hx hb d_X_askArrives_48 rfl (lv_at hl 0 rfl) ?_
    refine gf_X_A_registered hx hb hts hown hK (hX.2.2.2.1 (xs_ix z.2.2.2.2.1) (xs_ixl hok.2)) rfl d_X_askArrives_49 ?_
    refine lv_if_eq (tgt := 70) hx hb d_X_askArrives_52 (by decide) (fun c_2 => ?_) (fun c_2 => ?_)
    · have c_2 := xs_b0 c_2
      exact xr_V (τ := xm_ask σ z) hC hW hX hS (by omega) (by omega) (by simp only [xm_ask, c_1, c_2, if_true, if_false, reduceIte, Bool.false_eq_true, Bool.true_eq_false, and_true, true_and, and_false, false_and, or_true, true_or, or_false, false_or, not_true_eq_false, not_false_eq_true] <;> rfl) d_X_askArrives_70
    · have c_2 := xs_b1 c_2
      refine lv_aload_n hx hb d_X_askArrives_55 rfl (lv_at hl 0 rfl) ?_
      refine lv_aload_n hx hb d_X_askArrives_56 rfl (lv_at hl 2 rfl) ?_
      refine gf_X_Z_from hx hb hts hown hK hz.1 rfl d_X_askArrives_57 ?_
      refine lv_bipush (v := 8) hx hb d_X_askArrives_60 (by decide) ?_
      refine xk_iV (rest := []) (c_A_addMark l g B o lim σ (xs_ix z.2.2.2.2.1) (xs_ixl hok.2) z.2.1 (xs_ix z.2.1) hok.1 rfl 8) gd_X_A_addMark hd_A_addMark hC hW hX hS (xb_recv hK (ci := xi_A) rfl (hX.2.2.2.1 (xs_ix z.2.2.2.2.1) (xs_ixl hok.2))) trivial (by omega) (by omega) (by omega) (by omega) hl.1 rfl (Nat.le_of_ble_eq_true rfl) d_X_askArrives_62 (fun H locs hX hS hF => ?_)
      have hz := hz.F hX.2.2.2.2.2.2.2.1 hF
      refine lv_aload_n hx hb d_X_askArrives_65 rfl (lv_at hl 1 rfl) ?_
      refine lv_aload_n hx hb d_X_askArrives_66 rfl (lv_at hl 2 rfl) ?_
      obtain ⟨v9, hXo, hXl⟩ := hX.1
      refine xk_iV (rest := []) (c_X_giveToAvailable l g B o lim (xm_mark σ (xs_ix z.2.2.2.2.1) (xs_ix z.2.1) 8) a z) gd_X_X_giveToAvailable hd_X_giveToAvailable hC hW hX hS (xb_recv hK (ci := xi_X) rfl hXo) hz (by omega) (by omega) (by omega) (by omega) hl.1 rfl (Nat.le_of_ble_eq_true rfl) d_X_askArrives_67 (fun H locs hX hS hF => ?_)
      have hz := hz.F hX.2.2.2.2.2.2.2.1 hF
      exact xr_V (τ := xm_ask σ z) hC hW hX hS (by omega) (by omega) (by simp only [xm_ask, c_1, c_2, if_true, if_false, reduceIte, Bool.false_eq_true, Bool.true_eq_false, and_true, true_and, and_false, false_and, or_true, true_or, or_false, false_or, not_true_eq_false, not_false_eq_true] <;> rfl) d_X_askArrives_70
  · have c_1 := xs_b1 c_1
    refine lv_aload_n hx hb d_X_askArrives_22 rfl (lv_at hl 1 rfl) ?_
    refine nw_X_Z hx hb hts hown hK hX hS (by omega) (by omega) d_X_askArrives_23 (fun a9 H9 hn9 hb9 hsz9 hX9 hS9 hF9 => ?_)
    have nhz := hz.F (fun _ q => q.elim) hF9
    have hX0 := hX
    have hX := hX9
    refine lv_dup hx hb d_X_askArrives_26 rfl ?_
    refine lv_iconst (v := 5) hx hb d_X_askArrives_27 (by decide) ?_
    refine lv_aload_n hx hb d_X_askArrives_28 rfl (lv_at hl 2 rfl) ?_
    refine gf_X_Z_to hx hb hts hown hK nhz.1 rfl d_X_askArrives_29 ?_
    refine lv_iconst (v := (-1)) hx hb d_X_askArrives_32 (by decide) ?_
    refine lv_iconst (v := 0) hx hb d_X_askArrives_33 (by decide) ?_
    refine lv_aload_n hx hb d_X_askArrives_34 rfl (lv_at hl 2 rfl) ?_
    refine gf_X_Z_from hx hb hts hown hK nhz.1 rfl d_X_askArrives_35 ?_
    refine lv_iconst (v := (-1)) hx hb d_X_askArrives_38 (by decide) ?_
    refine in_X_Z (rest := [.ref a9, .ref o]) hC hW hX0 hX9 hS9 hF9 hn9 hb9 hsz9 (by omega) (by omega) (by omega) (by omega) hl.1 rfl (Nat.le_of_ble_eq_true rfl) d_X_askArrives_39 (fun H locs hzn hX hS hF => ?_)
    have hz_3 := hzn
    have hz := hz.F (fun _ q => q.elim) hF
    obtain ⟨v9, hXo, hXl⟩ := hX.1
    refine xk_iV (rest := []) (c_X_grantArrives l g B o lim σ a9 (5, z.2.2.2.2.1, (-1), 0, z.2.1, (-1)) ⟨hok.2, hok.1⟩) gd_X_X_grantArrives hd_X_grantArrives hC hW hX hS (xb_recv hK (ci := xi_X) rfl hXo) hz_3 (by omega) (by omega) (by omega) (by omega) hl.1 rfl (Nat.le_of_ble_eq_true rfl) d_X_askArrives_42 (fun H locs hX hS hF => ?_)
    have hz := hz.F hX.2.2.2.2.2.2.2.1 hF
    have hz_3 := hz_3.F hX.2.2.2.2.2.2.2.1 hF
    refine lv_goto (tgt := 70) hx hb d_X_askArrives_45 (by decide) ?_
    exact xr_V (τ := xm_ask σ z) hC hW hX hS (by omega) (by omega) (by simp only [xm_ask, c_1, if_true, if_false, reduceIte, Bool.false_eq_true, Bool.true_eq_false, and_true, true_and, and_false, false_and, or_true, true_or, or_false, false_or, not_true_eq_false, not_false_eq_true] <;> rfl) d_X_askArrives_70
set_option maxHeartbeats 4000000 in
set_option maxRecDepth 100000 in
theorem c_X_messageArrives (l : Launch) (g : xw_G) (B : Nat → Prop) (o lim : Nat) (σ : xs_S) (a : Nat) (z : xs_Z) (hok : xm_ok z) : xc_V l y_X_messageArrives (Cond.code y_X_messageArrives b_X_messageArrives 5 none) g B o lim σ (xm_msg σ z) [.ref o, .ref a] (fun H => xw_Z g B a z H) 3 67 1 6 := by
  refine xh_V (own := R_X) (by decide) rfl (Nat.le_of_ble_eq_true rfl) ?_
  intro p e R s m below meth c ls hRf hRl hRc hRs hC hW hE hl
  obtain ⟨hx, hb, hml, hr, hown, hts, hlk⟩ := id hC
  have hX := hW.1
  have hK := hW.2.1
  have hS : va_S (xw_A o s.heap.size) s.heap s.heap [] := va_S.rf
  have hl : lv_has ls 5 [(0, .ref o), (1, .ref a)] := hl
  have hz := hE
  refine lv_aload_n hx hb d_X_messageArrives_0 rfl (lv_at hl 0 rfl) ?_
  refine lv_aload_n hx hb d_X_messageArrives_1 rfl (lv_at hl 1 rfl) ?_
  refine gf_X_Z_to hx hb hts hown hK hz.1 rfl d_X_messageArrives_2 ?_
  refine lv_aload_n hx hb d_X_messageArrives_5 rfl (lv_at hl 1 rfl) ?_
  refine gf_X_Z_target hx hb hts hown hK hz.1 rfl d_X_messageArrives_6 ?_
  obtain ⟨v9, hXo, hXl⟩ := hX.1
  refine xk_iQ (rest := []) (c_X_boundWith l g B o lim σ z.2.2.2.2.1 z.2.2.2.2.2) gd_X_X_boundWith hd_X_boundWith hC hW hX hS (xb_recv hK (ci := xi_X) rfl hXo) trivial (by omega) (by omega) (by omega) (by omega) hl.1 rfl (Nat.le_of_ble_eq_true rfl) d_X_messageArrives_9 (fun v8 H locs hv hX hS hF => ?_)
  have hz := hz.F hX.2.2.2.2.2.2.2.1 hF
  cases hbw : xm_bw 6 0 σ z.2.2.2.2.1 z.2.2.2.2.2 with
  | none =>
    rw [hbw] at hv
    obtain rfl : v8 = .null := hv
    refine lv_astore_nN (lv' := [(2, .null), (0, .ref o), (1, .ref a)]) hx hb d_X_messageArrives_12 rfl hl (by decide) rfl (fun ls hl => ?_)
    refine lv_aload_nN hx hb d_X_messageArrives_13 rfl (lv_at hl 0 rfl) ?_
    refine lv_ifnullN (tgt := 33) hx hb d_X_messageArrives_14 (by decide) ?_
    refine lv_aload_n hx hb d_X_messageArrives_33 rfl (lv_at hl 1 rfl) ?_
    refine lv_aload_n hx hb d_X_messageArrives_34 rfl (lv_at hl 2 rfl) ?_
    refine gf_X_Z_to hx hb hts hown hK hz.1 rfl d_X_messageArrives_35 ?_
    obtain ⟨v9, hXo, hXl⟩ := hX.1
    refine xk_iQ (rest := []) (c_X_greatestPriority l g B o lim σ z.2.2.2.2.1) gd_X_X_greatestPriority hd_X_greatestPriority hC hW hX hS (xb_recv hK (ci := xi_X) rfl hXo) trivial (by omega) (by omega) (by omega) (by omega) hl.1 rfl (Nat.le_of_ble_eq_true rfl) d_X_messageArrives_38 (fun v8 H locs hv hX hS hF => ?_)
    have hz := hz.F hX.2.2.2.2.2.2.2.1 hF
    obtain rfl := hv
    refine lv_istore_n (lv' := [(3, .int (xm_great 6 0 σ z.2.2.2.2.1 (-1))), (2, .null), (0, .ref o), (1, .ref a)]) hx hb d_X_messageArrives_41 rfl hl (by decide) rfl (fun ls hl => ?_)
    refine lv_aload_n hx hb d_X_messageArrives_42 rfl (lv_at hl 2 rfl) ?_
    obtain ⟨v9, hXo, hXl⟩ := hX.1
    refine gf_X_X_accounts hx hb hts hown hK hXo rfl d_X_messageArrives_43 ?_
    refine lv_aload_n hx hb d_X_messageArrives_46 rfl (lv_at hl 3 rfl) ?_
    refine gf_X_Z_to hx hb hts hown hK hz.1 rfl d_X_messageArrives_47 ?_
    refine xb_aald (v := o + 3 + 4 * (xs_ix z.2.2.2.2.1)) hx hb hK 0 rfl hX.2.1 hok.2 rfl d_X_messageArrives_50 ?_
    refine lv_astore (lv' := [(4, .ref (o + 3 + 4 * (xs_ix z.2.2.2.2.1))), (3, .int (xm_great 6 0 σ z.2.2.2.2.1 (-1))), (2, .null), (0, .ref o), (1, .ref a)]) hx hb d_X_messageArrives_51 hl (by decide) rfl (fun ls hl => ?_)
    refine lv_iload_n hx hb d_X_messageArrives_53 rfl (lv_at hl 1 rfl) ?_
    refine lv_if_lt (tgt := 66) hx hb d_X_messageArrives_54 (by decide) (fun c_1 => ?_) (fun c_1 => ?_)
    · refine lv_aload hx hb d_X_messageArrives_66 (lv_at hl 0 rfl) ?_
      refine gf_X_A_registered hx hb hts hown hK (hX.2.2.2.1 (xs_ix z.2.2.2.2.1) (xs_ixl hok.2)) rfl d_X_messageArrives_68 ?_
      refine lv_if_eq (tgt := 97) hx hb d_X_messageArrives_71 (by decide) (fun c_2 => ?_) (fun c_2 => ?_)
      · have c_2 := xs_b0 c_2
        refine lv_aload_n hx hb d_X_messageArrives_97 rfl (lv_at hl 3 rfl) ?_
        refine lv_aload_n hx hb d_X_messageArrives_98 rfl (lv_at hl 4 rfl) ?_
        obtain ⟨v9, hXo, hXl⟩ := hX.1
        refine xk_iV (rest := []) (c_X_returnError l g B o lim σ a z) gd_X_X_returnError hd_X_returnError hC hW hX hS (xb_recv hK (ci := xi_X) rfl hXo) hz (by omega) (by omega) (by omega) (by omega) hl.1 rfl (Nat.le_of_ble_eq_true rfl) d_X_messageArrives_99 (fun H locs hX hS hF => ?_)
        have hz := hz.F hX.2.2.2.2.2.2.2.1 hF
        exact xr_V (τ := xm_msg σ z) hC hW hX hS (by omega) (by omega) (by simp only [xm_msg, xm_msg2, hbw, c_1, c_2, if_true, if_false, reduceIte, Bool.false_eq_true, Bool.true_eq_false, and_true, true_and, and_false, false_and, or_true, true_or, or_false, false_or, not_true_eq_false, not_false_eq_true] <;> rfl) d_X_messageArrives_102
      · have c_2 := xs_b1 c_2
        refine lv_aload hx hb d_X_messageArrives_74 (lv_at hl 0 rfl) ?_
        refine gf_X_A_kept hx hb hts hown hK (hX.2.2.2.1 (xs_ix z.2.2.2.2.1) (xs_ixl hok.2)) rfl d_X_messageArrives_76 ?_
        obtain ⟨f9, hq9, hl9, hz9⟩ := hX.2.2.2.2.2.2.1 (xs_ix z.2.2.2.2.1) (Nat.lt_of_lt_of_le (xs_ixl hok.2) (by decide))
        refine xk_iQ (rest := []) (c_Q_isFull l g B o lim σ (xs_ix z.2.2.2.2.1) (Nat.lt_of_lt_of_le (xs_ixl hok.2) (by decide))) gd_X_Q_isFull hd_Q_isFull hC hW hX hS (xb_recv hK (ci := xi_Q) rfl hq9.1) trivial (by omega) (by omega) (by omega) (by omega) hl.1 rfl (Nat.le_of_ble_eq_true rfl) d_X_messageArrives_79 (fun v8 H locs hv hX hS hF => ?_)
        have hz := hz.F hX.2.2.2.2.2.2.2.1 hF
        obtain rfl := hv
        refine lv_if_ne (tgt := 97) hx hb d_X_messageArrives_82 (by decide) (fun c_3 => ?_) (fun c_3 => ?_)
        · have c_3 := xs_b1 c_3
          refine lv_aload_n hx hb d_X_messageArrives_97 rfl (lv_at hl 3 rfl) ?_
          refine lv_aload_n hx hb d_X_messageArrives_98 rfl (lv_at hl 4 rfl) ?_
          obtain ⟨v9, hXo, hXl⟩ := hX.1
          refine xk_iV (rest := []) (c_X_returnError l g B o lim σ a z) gd_X_X_returnError hd_X_returnError hC hW hX hS (xb_recv hK (ci := xi_X) rfl hXo) hz (by omega) (by omega) (by omega) (by omega) hl.1 rfl (Nat.le_of_ble_eq_true rfl) d_X_messageArrives_99 (fun H locs hX hS hF => ?_)
          have hz := hz.F hX.2.2.2.2.2.2.2.1 hF
          exact xr_V (τ := xm_msg σ z) hC hW hX hS (by omega) (by omega) (by simp only [xm_msg, xm_msg2, hbw, c_1, c_2, c_3, if_true, if_false, reduceIte, Bool.false_eq_true, Bool.true_eq_false, and_true, true_and, and_false, false_and, or_true, true_or, or_false, false_or, not_true_eq_false, not_false_eq_true] <;> rfl) d_X_messageArrives_102
        · have c_3 := xs_b0 c_3
          refine lv_aload hx hb d_X_messageArrives_85 (lv_at hl 0 rfl) ?_
          refine gf_X_A_kept hx hb hts hown hK (hX.2.2.2.1 (xs_ix z.2.2.2.2.1) (xs_ixl hok.2)) rfl d_X_messageArrives_87 ?_
          refine lv_aload_n hx hb d_X_messageArrives_90 rfl (lv_at hl 4 rfl) ?_
          obtain ⟨f9, hq9, hl9, hz9⟩ := hX.2.2.2.2.2.2.1 (xs_ix z.2.2.2.2.1) (Nat.lt_of_lt_of_le (xs_ixl hok.2) (by decide))
          refine xk_iV (rest := []) (c_Q_add l g B o lim σ (xs_ix z.2.2.2.2.1) (Nat.lt_of_lt_of_le (xs_ixl hok.2) (by decide)) a z) gd_X_Q_add hd_Q_add hC hW hX hS (xb_recv hK (ci := xi_Q) rfl hq9.1) hz (by omega) (by omega) (by omega) (by omega) hl.1 rfl (Nat.le_of_ble_eq_true rfl) d_X_messageArrives_91 (fun H locs hX hS hF => ?_)
          have hz := hz.F hX.2.2.2.2.2.2.2.1 hF
          refine lv_goto (tgt := 102) hx hb d_X_messageArrives_94 (by decide) ?_
          exact xr_V (τ := xm_msg σ z) hC hW hX hS (by omega) (by omega) (by simp only [xm_msg, xm_msg2, hbw, c_1, c_2, c_3, if_true, if_false, reduceIte, Bool.false_eq_true, Bool.true_eq_false, and_true, true_and, and_false, false_and, or_true, true_or, or_false, false_or, not_true_eq_false, not_false_eq_true] <;> rfl) d_X_messageArrives_102
    · refine lv_aload_n hx hb d_X_messageArrives_57 rfl (lv_at hl 3 rfl) ?_
      refine lv_aload_n hx hb d_X_messageArrives_58 rfl (lv_at hl 4 rfl) ?_
      refine lv_iload_n hx hb d_X_messageArrives_59 rfl (lv_at hl 1 rfl) ?_
      obtain ⟨v9, hXo, hXl⟩ := hX.1
      refine xk_iV (rest := []) (c_X_giveToPriority l g B o lim σ a z (xm_great 6 0 σ z.2.2.2.2.1 (-1))) gd_X_X_giveToPriority hd_X_giveToPriority hC hW hX hS (xb_recv hK (ci := xi_X) rfl hXo) hz (by omega) (by omega) (by omega) (by omega) hl.1 rfl (Nat.le_of_ble_eq_true rfl) d_X_messageArrives_60 (fun H locs hX hS hF => ?_)
      have hz := hz.F hX.2.2.2.2.2.2.2.1 hF
      refine lv_goto (tgt := 102) hx hb d_X_messageArrives_63 (by decide) ?_
      exact xr_V (τ := xm_msg σ z) hC hW hX hS (by omega) (by omega) (by simp only [xm_msg, xm_msg2, hbw, c_1, if_true, if_false, reduceIte, Bool.false_eq_true, Bool.true_eq_false, and_true, true_and, and_false, false_and, or_true, true_or, or_false, false_or, not_true_eq_false, not_false_eq_true] <;> rfl) d_X_messageArrives_102
  | some ib =>
    rw [hbw] at hv
    obtain ⟨rfl, hib⟩ : v8 = .ref (o + 36 + 3 * ib) ∧ ib < 6 := hv
    refine lv_astore_n (lv' := [(2, .ref (o + 36 + 3 * ib)), (0, .ref o), (1, .ref a)]) hx hb d_X_messageArrives_12 rfl hl (by decide) rfl (fun ls hl => ?_)
    refine lv_aload_n hx hb d_X_messageArrives_13 rfl (lv_at hl 0 rfl) ?_
    refine lv_ifnull hx hb d_X_messageArrives_14 ?_
    refine lv_aload_n hx hb d_X_messageArrives_17 rfl (lv_at hl 0 rfl) ?_
    refine gf_X_C_available hx hb hts hown hK (hX.2.2.2.2.2.1 ib hib) rfl d_X_messageArrives_18 ?_
    refine lv_if_eq (tgt := 33) hx hb d_X_messageArrives_21 (by decide) (fun c_4 => ?_) (fun c_4 => ?_)
    · have c_4 := xs_b0 c_4
      refine lv_aload_n hx hb d_X_messageArrives_33 rfl (lv_at hl 1 rfl) ?_
      refine lv_aload_n hx hb d_X_messageArrives_34 rfl (lv_at hl 2 rfl) ?_
      refine gf_X_Z_to hx hb hts hown hK hz.1 rfl d_X_messageArrives_35 ?_
      obtain ⟨v9, hXo, hXl⟩ := hX.1
      refine xk_iQ (rest := []) (c_X_greatestPriority l g B o lim σ z.2.2.2.2.1) gd_X_X_greatestPriority hd_X_greatestPriority hC hW hX hS (xb_recv hK (ci := xi_X) rfl hXo) trivial (by omega) (by omega) (by omega) (by omega) hl.1 rfl (Nat.le_of_ble_eq_true rfl) d_X_messageArrives_38 (fun v8 H locs hv hX hS hF => ?_)
      have hz := hz.F hX.2.2.2.2.2.2.2.1 hF
      obtain rfl := hv
      refine lv_istore_n (lv' := [(3, .int (xm_great 6 0 σ z.2.2.2.2.1 (-1))), (2, .ref (o + 36 + 3 * ib)), (0, .ref o), (1, .ref a)]) hx hb d_X_messageArrives_41 rfl hl (by decide) rfl (fun ls hl => ?_)
      refine lv_aload_n hx hb d_X_messageArrives_42 rfl (lv_at hl 2 rfl) ?_
      obtain ⟨v9, hXo, hXl⟩ := hX.1
      refine gf_X_X_accounts hx hb hts hown hK hXo rfl d_X_messageArrives_43 ?_
      refine lv_aload_n hx hb d_X_messageArrives_46 rfl (lv_at hl 3 rfl) ?_
      refine gf_X_Z_to hx hb hts hown hK hz.1 rfl d_X_messageArrives_47 ?_
      refine xb_aald (v := o + 3 + 4 * (xs_ix z.2.2.2.2.1)) hx hb hK 0 rfl hX.2.1 hok.2 rfl d_X_messageArrives_50 ?_
      refine lv_astore (lv' := [(4, .ref (o + 3 + 4 * (xs_ix z.2.2.2.2.1))), (3, .int (xm_great 6 0 σ z.2.2.2.2.1 (-1))), (2, .ref (o + 36 + 3 * ib)), (0, .ref o), (1, .ref a)]) hx hb d_X_messageArrives_51 hl (by decide) rfl (fun ls hl => ?_)
      refine lv_iload_n hx hb d_X_messageArrives_53 rfl (lv_at hl 1 rfl) ?_
      refine lv_if_lt (tgt := 66) hx hb d_X_messageArrives_54 (by decide) (fun c_5 => ?_) (fun c_5 => ?_)
      · refine lv_aload hx hb d_X_messageArrives_66 (lv_at hl 0 rfl) ?_
        refine gf_X_A_registered hx hb hts hown hK (hX.2.2.2.1 (xs_ix z.2.2.2.2.1) (xs_ixl hok.2)) rfl d_X_messageArrives_68 ?_
        refine lv_if_eq (tgt := 97) hx hb d_X_messageArrives_71 (by decide) (fun c_6 => ?_) (fun c_6 => ?_)
        · have c_6 := xs_b0 c_6
          refine lv_aload_n hx hb d_X_messageArrives_97 rfl (lv_at hl 3 rfl) ?_
          refine lv_aload_n hx hb d_X_messageArrives_98 rfl (lv_at hl 4 rfl) ?_
          obtain ⟨v9, hXo, hXl⟩ := hX.1
          refine xk_iV (rest := []) (c_X_returnError l g B o lim σ a z) gd_X_X_returnError hd_X_returnError hC hW hX hS (xb_recv hK (ci := xi_X) rfl hXo) hz (by omega) (by omega) (by omega) (by omega) hl.1 rfl (Nat.le_of_ble_eq_true rfl) d_X_messageArrives_99 (fun H locs hX hS hF => ?_)
          have hz := hz.F hX.2.2.2.2.2.2.2.1 hF
          exact xr_V (τ := xm_msg σ z) hC hW hX hS (by omega) (by omega) (by simp only [xm_msg, xm_msg2, hbw, c_4, c_5, c_6, if_true, if_false, reduceIte, Bool.false_eq_true, Bool.true_eq_false, and_true, true_and, and_false, false_and, or_true, true_or, or_false, false_or, not_true_eq_false, not_false_eq_true] <;> rfl) d_X_messageArrives_102
        · have c_6 := xs_b1 c_6
          refine lv_aload hx hb d_X_messageArrives_74 (lv_at hl 0 rfl) ?_
          refine gf_X_A_kept hx hb hts hown hK (hX.2.2.2.1 (xs_ix z.2.2.2.2.1) (xs_ixl hok.2)) rfl d_X_messageArrives_76 ?_
          obtain ⟨f9, hq9, hl9, hz9⟩ := hX.2.2.2.2.2.2.1 (xs_ix z.2.2.2.2.1) (Nat.lt_of_lt_of_le (xs_ixl hok.2) (by decide))
          refine xk_iQ (rest := []) (c_Q_isFull l g B o lim σ (xs_ix z.2.2.2.2.1) (Nat.lt_of_lt_of_le (xs_ixl hok.2) (by decide))) gd_X_Q_isFull hd_Q_isFull hC hW hX hS (xb_recv hK (ci := xi_Q) rfl hq9.1) trivial (by omega) (by omega) (by omega) (by omega) hl.1 rfl (Nat.le_of_ble_eq_true rfl) d_X_messageArrives_79 (fun v8 H locs hv hX hS hF => ?_)
          have hz := hz.F hX.2.2.2.2.2.2.2.1 hF
          obtain rfl := hv
          refine lv_if_ne (tgt := 97) hx hb d_X_messageArrives_82 (by decide) (fun c_7 => ?_) (fun c_7 => ?_)
          · have c_7 := xs_b1 c_7
            refine lv_aload_n hx hb d_X_messageArrives_97 rfl (lv_at hl 3 rfl) ?_
            refine lv_aload_n hx hb d_X_messageArrives_98 rfl (lv_at hl 4 rfl) ?_
            obtain ⟨v9, hXo, hXl⟩ := hX.1
            refine xk_iV (rest := []) (c_X_returnError l g B o lim σ a z) gd_X_X_returnError hd_X_returnError hC hW hX hS (xb_recv hK (ci := xi_X) rfl hXo) hz (by omega) (by omega) (by omega) (by omega) hl.1 rfl (Nat.le_of_ble_eq_true rfl) d_X_messageArrives_99 (fun H locs hX hS hF => ?_)
            have hz := hz.F hX.2.2.2.2.2.2.2.1 hF
            exact xr_V (τ := xm_msg σ z) hC hW hX hS (by omega) (by omega) (by simp only [xm_msg, xm_msg2, hbw, c_4, c_5, c_6, c_7, if_true, if_false, reduceIte, Bool.false_eq_true, Bool.true_eq_false, and_true, true_and, and_false, false_and, or_true, true_or, or_false, false_or, not_true_eq_false, not_false_eq_true] <;> rfl) d_X_messageArrives_102
          · have c_7 := xs_b0 c_7
            refine lv_aload hx hb d_X_messageArrives_85 (lv_at hl 0 rfl) ?_
            refine gf_X_A_kept hx hb hts hown hK (hX.2.2.2.1 (xs_ix z.2.2.2.2.1) (xs_ixl hok.2)) rfl d_X_messageArrives_87 ?_
            refine lv_aload_n hx hb d_X_messageArrives_90 rfl (lv_at hl 4 rfl) ?_
            obtain ⟨f9, hq9, hl9, hz9⟩ := hX.2.2.2.2.2.2.1 (xs_ix z.2.2.2.2.1) (Nat.lt_of_lt_of_le (xs_ixl hok.2) (by decide))
            refine xk_iV (rest := []) (c_Q_add l g B o lim σ (xs_ix z.2.2.2.2.1) (Nat.lt_of_lt_of_le (xs_ixl hok.2) (by decide)) a z) gd_X_Q_add hd_Q_add hC hW hX hS (xb_recv hK (ci := xi_Q) rfl hq9.1) hz (by omega) (by omega) (by omega) (by omega) hl.1 rfl (Nat.le_of_ble_eq_true rfl) d_X_messageArrives_91 (fun H locs hX hS hF => ?_)
            have hz := hz.F hX.2.2.2.2.2.2.2.1 hF
            refine lv_goto (tgt := 102) hx hb d_X_messageArrives_94 (by decide) ?_
            exact xr_V (τ := xm_msg σ z) hC hW hX hS (by omega) (by omega) (by simp only [xm_msg, xm_msg2, hbw, c_4, c_5, c_6, c_7, if_true, if_false, reduceIte, Bool.false_eq_true, Bool.true_eq_false, and_true, true_and, and_false, false_and, or_true, true_or, or_false, false_or, not_true_eq_false, not_false_eq_true] <;> rfl) d_X_messageArrives_102
      · refine lv_aload_n hx hb d_X_messageArrives_57 rfl (lv_at hl 3 rfl) ?_
        refine lv_aload_n hx hb d_X_messageArrives_58 rfl (lv_at hl 4 rfl) ?_
        refine lv_iload_n hx hb d_X_messageArrives_59 rfl (lv_at hl 1 rfl) ?_
        obtain ⟨v9, hXo, hXl⟩ := hX.1
        refine xk_iV (rest := []) (c_X_giveToPriority l g B o lim σ a z (xm_great 6 0 σ z.2.2.2.2.1 (-1))) gd_X_X_giveToPriority hd_X_giveToPriority hC hW hX hS (xb_recv hK (ci := xi_X) rfl hXo) hz (by omega) (by omega) (by omega) (by omega) hl.1 rfl (Nat.le_of_ble_eq_true rfl) d_X_messageArrives_60 (fun H locs hX hS hF => ?_)
        have hz := hz.F hX.2.2.2.2.2.2.2.1 hF
        refine lv_goto (tgt := 102) hx hb d_X_messageArrives_63 (by decide) ?_
        exact xr_V (τ := xm_msg σ z) hC hW hX hS (by omega) (by omega) (by simp only [xm_msg, xm_msg2, hbw, c_4, c_5, if_true, if_false, reduceIte, Bool.false_eq_true, Bool.true_eq_false, and_true, true_and, and_false, false_and, or_true, true_or, or_false, false_or, not_true_eq_false, not_false_eq_true] <;> rfl) d_X_messageArrives_102
    · have c_4 := xs_b1 c_4
      refine lv_aload_n hx hb d_X_messageArrives_24 rfl (lv_at hl 0 rfl) ?_
      refine gf_X_C_inbox hx hb hts hown hK (hX.2.2.2.2.2.1 ib hib) rfl d_X_messageArrives_25 ?_
      refine lv_aload_n hx hb d_X_messageArrives_28 rfl (lv_at hl 2 rfl) ?_
      obtain ⟨f9, hq9, hl9, hz9⟩ := hX.2.2.2.2.2.2.1 (8 + ib) (xs_8 hib)
      refine xk_iV (rest := []) (c_Q_add l g B o lim σ (8 + ib) (xs_8 hib) a z) gd_X_Q_add hd_Q_add hC hW hX hS (xb_recv hK (ci := xi_Q) rfl hq9.1) hz (by omega) (by omega) (by omega) (by omega) hl.1 rfl (Nat.le_of_ble_eq_true rfl) d_X_messageArrives_29 (fun H locs hX hS hF => ?_)
      have hz := hz.F hX.2.2.2.2.2.2.2.1 hF
      exact xr_V (τ := xm_msg σ z) hC hW hX hS (by omega) (by omega) (by simp only [xm_msg, xm_msg2, hbw, c_4, if_true, if_false, reduceIte, Bool.false_eq_true, Bool.true_eq_false, and_true, true_and, and_false, false_and, or_true, true_or, or_false, false_or, not_true_eq_false, not_false_eq_true] <;> rfl) d_X_messageArrives_32
set_option maxHeartbeats 4000000 in
set_option maxRecDepth 100000 in
theorem c_X_arrive (l : Launch) (g : xw_G) (B : Nat → Prop) (o lim : Nat) (σ : xs_S) (a : Nat) (z : xs_Z) (hok : xm_ok z) : xc_V l y_X_arrive (Cond.code y_X_arrive b_X_arrive 2 none) g B o lim σ (xm_arr σ z) [.ref o, .ref a] (fun H => xw_Z g B a z H) 4 91 1 6 := by
  refine xh_V (own := R_X) (by decide) rfl (Nat.le_of_ble_eq_true rfl) ?_
  intro p e R s m below meth c ls hRf hRl hRc hRs hC hW hE hl
  obtain ⟨hx, hb, hml, hr, hown, hts, hlk⟩ := id hC
  have hX := hW.1
  have hK := hW.2.1
  have hS : va_S (xw_A o s.heap.size) s.heap s.heap [] := va_S.rf
  have hl : lv_has ls 2 [(0, .ref o), (1, .ref a)] := hl
  have hz := hE
  refine lv_aload_n hx hb d_X_arrive_0 rfl (lv_at hl 1 rfl) ?_
  refine gf_X_Z_kind hx hb hts hown hK hz.1 rfl d_X_arrive_1 ?_
  by_cases c_1 : z.1 = 1
  · refine lv_tableIn (tgt := 48) (off := 44) hx hb d_X_arrive_4 (by rw [c_1]; decide) (by rw [c_1]; decide) (by rw [c_1]; rfl) (by decide) ?_
    refine lv_aload_n hx hb d_X_arrive_48 rfl (lv_at hl 0 rfl) ?_
    refine lv_aload_n hx hb d_X_arrive_49 rfl (lv_at hl 1 rfl) ?_
    obtain ⟨v9, hXo, hXl⟩ := hX.1
    refine xk_iV (rest := []) (c_X_messageArrives l g B o lim σ a z hok) gd_X_X_messageArrives hd_X_messageArrives hC hW hX hS (xb_recv hK (ci := xi_X) rfl hXo) hz (by omega) (by omega) (by omega) (by omega) hl.1 rfl (Nat.le_of_ble_eq_true rfl) d_X_arrive_50 (fun H locs hX hS hF => ?_)
    have hz := hz.F hX.2.2.2.2.2.2.2.1 hF
    refine lv_goto (tgt := 119) hx hb d_X_arrive_53 (by decide) ?_
    exact xr_V (τ := xm_arr σ z) hC hW hX hS (by omega) (by omega) (by simp only [xm_arr, c_1, if_true, if_false, reduceIte, Bool.false_eq_true, Bool.true_eq_false, and_true, true_and, and_false, false_and, or_true, true_or, or_false, false_or, not_true_eq_false, not_false_eq_true] <;> rfl) d_X_arrive_119
  by_cases c_2 : z.1 = 2
  · refine lv_tableIn (tgt := 91) (off := 87) hx hb d_X_arrive_4 (by rw [c_2]; decide) (by rw [c_2]; decide) (by rw [c_2]; rfl) (by decide) ?_
    refine lv_aload_n hx hb d_X_arrive_91 rfl (lv_at hl 0 rfl) ?_
    obtain ⟨v9, hXo, hXl⟩ := hX.1
    refine gf_X_X_accounts hx hb hts hown hK hXo rfl d_X_arrive_92 ?_
    refine lv_aload_n hx hb d_X_arrive_95 rfl (lv_at hl 1 rfl) ?_
    refine gf_X_Z_to hx hb hts hown hK hz.1 rfl d_X_arrive_96 ?_
    refine xb_aald (v := o + 3 + 4 * (xs_ix z.2.2.2.2.1)) hx hb hK 0 rfl hX.2.1 hok.2 rfl d_X_arrive_99 ?_
    refine lv_aload_n hx hb d_X_arrive_100 rfl (lv_at hl 1 rfl) ?_
    refine gf_X_Z_from hx hb hts hown hK hz.1 rfl d_X_arrive_101 ?_
    refine lv_iconst (v := 1) hx hb d_X_arrive_104 (by decide) ?_
    refine xk_iQ (rest := []) (c_A_hasAny l g B o lim σ (xs_ix z.2.2.2.2.1) (xs_ixl hok.2) z.2.1 (xs_ix z.2.1) hok.1 rfl 1) gd_X_A_hasAny hd_A_hasAny hC hW hX hS (xb_recv hK (ci := xi_A) rfl (hX.2.2.2.1 (xs_ix z.2.2.2.2.1) (xs_ixl hok.2))) trivial (by omega) (by omega) (by omega) (by omega) hl.1 rfl (Nat.le_of_ble_eq_true rfl) d_X_arrive_105 (fun v8 H locs hv hX hS hF => ?_)
    have hz := hz.F hX.2.2.2.2.2.2.2.1 hF
    obtain rfl := hv
    refine lv_if_eq (tgt := 119) hx hb d_X_arrive_108 (by decide) (fun c_3 => ?_) (fun c_3 => ?_)
    · have c_3 := xs_b0 c_3
      exact xr_V (τ := xm_arr σ z) hC hW hX hS (by omega) (by omega) (by simp only [xm_arr, c_1, c_2, c_3, if_true, if_false, reduceIte, Bool.false_eq_true, Bool.true_eq_false, and_true, true_and, and_false, false_and, or_true, true_or, or_false, false_or, not_true_eq_false, not_false_eq_true] <;> rfl) d_X_arrive_119
    · have c_3 := xs_b1 c_3
      refine lv_aload_n hx hb d_X_arrive_111 rfl (lv_at hl 0 rfl) ?_
      refine lv_aload_n hx hb d_X_arrive_112 rfl (lv_at hl 1 rfl) ?_
      obtain ⟨v9, hXo, hXl⟩ := hX.1
      refine xk_iV (rest := []) (c_X_giveToAvailable l g B o lim σ a z) gd_X_X_giveToAvailable hd_X_giveToAvailable hC hW hX hS (xb_recv hK (ci := xi_X) rfl hXo) hz (by omega) (by omega) (by omega) (by omega) hl.1 rfl (Nat.le_of_ble_eq_true rfl) d_X_arrive_113 (fun H locs hX hS hF => ?_)
      have hz := hz.F hX.2.2.2.2.2.2.2.1 hF
      refine lv_goto (tgt := 119) hx hb d_X_arrive_116 (by decide) ?_
      exact xr_V (τ := xm_arr σ z) hC hW hX hS (by omega) (by omega) (by simp only [xm_arr, c_1, c_2, c_3, if_true, if_false, reduceIte, Bool.false_eq_true, Bool.true_eq_false, and_true, true_and, and_false, false_and, or_true, true_or, or_false, false_or, not_true_eq_false, not_false_eq_true] <;> rfl) d_X_arrive_119
  by_cases c_4 : z.1 = 3
  · refine lv_tableIn (tgt := 91) (off := 87) hx hb d_X_arrive_4 (by rw [c_4]; decide) (by rw [c_4]; decide) (by rw [c_4]; rfl) (by decide) ?_
    refine lv_aload_n hx hb d_X_arrive_91 rfl (lv_at hl 0 rfl) ?_
    obtain ⟨v9, hXo, hXl⟩ := hX.1
    refine gf_X_X_accounts hx hb hts hown hK hXo rfl d_X_arrive_92 ?_
    refine lv_aload_n hx hb d_X_arrive_95 rfl (lv_at hl 1 rfl) ?_
    refine gf_X_Z_to hx hb hts hown hK hz.1 rfl d_X_arrive_96 ?_
    refine xb_aald (v := o + 3 + 4 * (xs_ix z.2.2.2.2.1)) hx hb hK 0 rfl hX.2.1 hok.2 rfl d_X_arrive_99 ?_
    refine lv_aload_n hx hb d_X_arrive_100 rfl (lv_at hl 1 rfl) ?_
    refine gf_X_Z_from hx hb hts hown hK hz.1 rfl d_X_arrive_101 ?_
    refine lv_iconst (v := 1) hx hb d_X_arrive_104 (by decide) ?_
    refine xk_iQ (rest := []) (c_A_hasAny l g B o lim σ (xs_ix z.2.2.2.2.1) (xs_ixl hok.2) z.2.1 (xs_ix z.2.1) hok.1 rfl 1) gd_X_A_hasAny hd_A_hasAny hC hW hX hS (xb_recv hK (ci := xi_A) rfl (hX.2.2.2.1 (xs_ix z.2.2.2.2.1) (xs_ixl hok.2))) trivial (by omega) (by omega) (by omega) (by omega) hl.1 rfl (Nat.le_of_ble_eq_true rfl) d_X_arrive_105 (fun v8 H locs hv hX hS hF => ?_)
    have hz := hz.F hX.2.2.2.2.2.2.2.1 hF
    obtain rfl := hv
    refine lv_if_eq (tgt := 119) hx hb d_X_arrive_108 (by decide) (fun c_5 => ?_) (fun c_5 => ?_)
    · have c_5 := xs_b0 c_5
      exact xr_V (τ := xm_arr σ z) hC hW hX hS (by omega) (by omega) (by simp only [xm_arr, c_1, c_2, c_4, c_5, if_true, if_false, reduceIte, Bool.false_eq_true, Bool.true_eq_false, and_true, true_and, and_false, false_and, or_true, true_or, or_false, false_or, not_true_eq_false, not_false_eq_true] <;> rfl) d_X_arrive_119
    · have c_5 := xs_b1 c_5
      refine lv_aload_n hx hb d_X_arrive_111 rfl (lv_at hl 0 rfl) ?_
      refine lv_aload_n hx hb d_X_arrive_112 rfl (lv_at hl 1 rfl) ?_
      obtain ⟨v9, hXo, hXl⟩ := hX.1
      refine xk_iV (rest := []) (c_X_giveToAvailable l g B o lim σ a z) gd_X_X_giveToAvailable hd_X_giveToAvailable hC hW hX hS (xb_recv hK (ci := xi_X) rfl hXo) hz (by omega) (by omega) (by omega) (by omega) hl.1 rfl (Nat.le_of_ble_eq_true rfl) d_X_arrive_113 (fun H locs hX hS hF => ?_)
      have hz := hz.F hX.2.2.2.2.2.2.2.1 hF
      refine lv_goto (tgt := 119) hx hb d_X_arrive_116 (by decide) ?_
      exact xr_V (τ := xm_arr σ z) hC hW hX hS (by omega) (by omega) (by simp only [xm_arr, c_1, c_2, c_4, c_5, if_true, if_false, reduceIte, Bool.false_eq_true, Bool.true_eq_false, and_true, true_and, and_false, false_and, or_true, true_or, or_false, false_or, not_true_eq_false, not_false_eq_true] <;> rfl) d_X_arrive_119
  by_cases c_6 : z.1 = 4
  · refine lv_tableIn (tgt := 56) (off := 52) hx hb d_X_arrive_4 (by rw [c_6]; decide) (by rw [c_6]; decide) (by rw [c_6]; rfl) (by decide) ?_
    refine lv_aload_n hx hb d_X_arrive_56 rfl (lv_at hl 0 rfl) ?_
    refine lv_aload_n hx hb d_X_arrive_57 rfl (lv_at hl 1 rfl) ?_
    obtain ⟨v9, hXo, hXl⟩ := hX.1
    refine xk_iV (rest := []) (c_X_askArrives l g B o lim σ a z hok) gd_X_X_askArrives hd_X_askArrives hC hW hX hS (xb_recv hK (ci := xi_X) rfl hXo) hz (by omega) (by omega) (by omega) (by omega) hl.1 rfl (Nat.le_of_ble_eq_true rfl) d_X_arrive_58 (fun H locs hX hS hF => ?_)
    have hz := hz.F hX.2.2.2.2.2.2.2.1 hF
    refine lv_goto (tgt := 119) hx hb d_X_arrive_61 (by decide) ?_
    exact xr_V (τ := xm_arr σ z) hC hW hX hS (by omega) (by omega) (by simp only [xm_arr, c_1, c_2, c_4, c_6, if_true, if_false, reduceIte, Bool.false_eq_true, Bool.true_eq_false, and_true, true_and, and_false, false_and, or_true, true_or, or_false, false_or, not_true_eq_false, not_false_eq_true] <;> rfl) d_X_arrive_119
  by_cases c_7 : z.1 = 5
  · refine lv_tableIn (tgt := 64) (off := 60) hx hb d_X_arrive_4 (by rw [c_7]; decide) (by rw [c_7]; decide) (by rw [c_7]; rfl) (by decide) ?_
    refine lv_aload_n hx hb d_X_arrive_64 rfl (lv_at hl 0 rfl) ?_
    refine lv_aload_n hx hb d_X_arrive_65 rfl (lv_at hl 1 rfl) ?_
    obtain ⟨v9, hXo, hXl⟩ := hX.1
    refine xk_iV (rest := []) (c_X_grantArrives l g B o lim σ a z hok) gd_X_X_grantArrives hd_X_grantArrives hC hW hX hS (xb_recv hK (ci := xi_X) rfl hXo) hz (by omega) (by omega) (by omega) (by omega) hl.1 rfl (Nat.le_of_ble_eq_true rfl) d_X_arrive_66 (fun H locs hX hS hF => ?_)
    have hz := hz.F hX.2.2.2.2.2.2.2.1 hF
    refine lv_goto (tgt := 119) hx hb d_X_arrive_69 (by decide) ?_
    exact xr_V (τ := xm_arr σ z) hC hW hX hS (by omega) (by omega) (by simp only [xm_arr, c_1, c_2, c_4, c_6, c_7, if_true, if_false, reduceIte, Bool.false_eq_true, Bool.true_eq_false, and_true, true_and, and_false, false_and, or_true, true_or, or_false, false_or, not_true_eq_false, not_false_eq_true] <;> rfl) d_X_arrive_119
  by_cases c_8 : z.1 = 6
  · refine lv_tableIn (tgt := 72) (off := 68) hx hb d_X_arrive_4 (by rw [c_8]; decide) (by rw [c_8]; decide) (by rw [c_8]; rfl) (by decide) ?_
    refine lv_aload_n hx hb d_X_arrive_72 rfl (lv_at hl 0 rfl) ?_
    refine lv_aload_n hx hb d_X_arrive_73 rfl (lv_at hl 1 rfl) ?_
    refine lv_bipush (v := 10) hx hb d_X_arrive_74 (by decide) ?_
    obtain ⟨v9, hXo, hXl⟩ := hX.1
    refine xk_iV (rest := []) (c_X_endingArrives l g B o lim σ a z 10 hok) gd_X_X_endingArrives hd_X_endingArrives hC hW hX hS (xb_recv hK (ci := xi_X) rfl hXo) hz (by omega) (by omega) (by omega) (by omega) hl.1 rfl (Nat.le_of_ble_eq_true rfl) d_X_arrive_76 (fun H locs hX hS hF => ?_)
    have hz := hz.F hX.2.2.2.2.2.2.2.1 hF
    refine lv_goto (tgt := 119) hx hb d_X_arrive_79 (by decide) ?_
    exact xr_V (τ := xm_arr σ z) hC hW hX hS (by omega) (by omega) (by simp only [xm_arr, c_1, c_2, c_4, c_6, c_7, c_8, if_true, if_false, reduceIte, Bool.false_eq_true, Bool.true_eq_false, and_true, true_and, and_false, false_and, or_true, true_or, or_false, false_or, not_true_eq_false, not_false_eq_true] <;> rfl) d_X_arrive_119
  by_cases c_9 : z.1 = 7
  · refine lv_tableIn (tgt := 82) (off := 78) hx hb d_X_arrive_4 (by rw [c_9]; decide) (by rw [c_9]; decide) (by rw [c_9]; rfl) (by decide) ?_
    refine lv_aload_n hx hb d_X_arrive_82 rfl (lv_at hl 0 rfl) ?_
    refine lv_aload_n hx hb d_X_arrive_83 rfl (lv_at hl 1 rfl) ?_
    refine lv_iconst (v := 5) hx hb d_X_arrive_84 (by decide) ?_
    obtain ⟨v9, hXo, hXl⟩ := hX.1
    refine xk_iV (rest := []) (c_X_endingArrives l g B o lim σ a z 5 hok) gd_X_X_endingArrives hd_X_endingArrives hC hW hX hS (xb_recv hK (ci := xi_X) rfl hXo) hz (by omega) (by omega) (by omega) (by omega) hl.1 rfl (Nat.le_of_ble_eq_true rfl) d_X_arrive_85 (fun H locs hX hS hF => ?_)
    have hz := hz.F hX.2.2.2.2.2.2.2.1 hF
    refine lv_goto (tgt := 119) hx hb d_X_arrive_88 (by decide) ?_
    exact xr_V (τ := xm_arr σ z) hC hW hX hS (by omega) (by omega) (by simp only [xm_arr, c_1, c_2, c_4, c_6, c_7, c_8, c_9, if_true, if_false, reduceIte, Bool.false_eq_true, Bool.true_eq_false, and_true, true_and, and_false, false_and, or_true, true_or, or_false, false_or, not_true_eq_false, not_false_eq_true] <;> rfl) d_X_arrive_119
  refine lv_tableOut (tgt := 119) hx hb d_X_arrive_4 (by have q0 := lv_neT c_1 (a := 1) rfl; have q1 := lv_neT c_2 (a := 2) rfl; have q2 := lv_neT c_4 (a := 3) rfl; have q3 := lv_neT c_6 (a := 4) rfl; have q4 := lv_neT c_7 (a := 5) rfl; have q5 := lv_neT c_8 (a := 6) rfl; have q6 := lv_neT c_9 (a := 7) rfl; omega) (by decide) ?_
  exact xr_V (τ := xm_arr σ z) hC hW hX hS (by omega) (by omega) (by simp only [xm_arr, c_1, c_2, c_4, c_6, c_7, c_8, c_9, if_true, if_false, reduceIte, Bool.false_eq_true, Bool.true_eq_false, and_true, true_and, and_false, false_and, or_true, true_or, or_false, false_or, not_true_eq_false, not_false_eq_true] <;> rfl) d_X_arrive_119
set_option maxHeartbeats 4000000 in
set_option maxRecDepth 100000 in
theorem c_X_send (l : Launch) (g : xw_G) (B : Nat → Prop) (o lim : Nat) (σ : xs_S) (a : Nat) (z : xs_Z) (hok : xm_ok z) : xc_V l y_X_send (Cond.code y_X_send b_X_send 2 none) g B o lim σ (xm_send σ z) [.ref o, .ref a] (fun H => xw_Z g B a z H) 5 112 1 6 := by
  refine xh_V (own := R_X) (by decide) rfl (Nat.le_of_ble_eq_true rfl) ?_
  intro p e R s m below meth c ls hRf hRl hRc hRs hC hW hE hl
  obtain ⟨hx, hb, hml, hr, hown, hts, hlk⟩ := id hC
  have hX := hW.1
  have hK := hW.2.1
  have hS : va_S (xw_A o s.heap.size) s.heap s.heap [] := va_S.rf
  have hl : lv_has ls 2 [(0, .ref o), (1, .ref a)] := hl
  have hz := hE
  refine lv_aload_n hx hb d_X_send_0 rfl (lv_at hl 0 rfl) ?_
  refine lv_aload_n hx hb d_X_send_1 rfl (lv_at hl 1 rfl) ?_
  refine gf_X_Z_from hx hb hts hown hK hz.1 rfl d_X_send_2 ?_
  refine lv_aload_n hx hb d_X_send_5 rfl (lv_at hl 1 rfl) ?_
  refine gf_X_Z_to hx hb hts hown hK hz.1 rfl d_X_send_6 ?_
  obtain ⟨v9, hXo, hXl⟩ := hX.1
  refine xk_iQ (rest := []) (c_X_canReach l g B o lim σ z.2.1 z.2.2.2.2.1) gd_X_X_canReach hd_X_canReach hC hW hX hS (xb_recv hK (ci := xi_X) rfl hXo) trivial (by omega) (by omega) (by omega) (by omega) hl.1 rfl (Nat.le_of_ble_eq_true rfl) d_X_send_9 (fun v8 H locs hv hX hS hF => ?_)
  have hz := hz.F hX.2.2.2.2.2.2.2.1 hF
  obtain rfl := hv
  refine lv_if_eq (tgt := 23) hx hb d_X_send_12 (by decide) (fun c_1 => ?_) (fun c_1 => ?_)
  · have c_1 := xs_b0 c_1
    refine lv_aload_n hx hb d_X_send_23 rfl (lv_at hl 0 rfl) ?_
    obtain ⟨v9, hXo, hXl⟩ := hX.1
    refine gf_X_X_waiting hx hb hts hown hK hXo rfl d_X_send_24 ?_
    obtain ⟨f9, hq9, hl9, hz9⟩ := hX.2.2.2.2.2.2.1 14 (by decide)
    refine xk_iQ (rest := []) (c_Q_isFull l g B o lim σ 14 (by decide)) gd_X_Q_isFull hd_Q_isFull hC hW hX hS (xb_recv hK (ci := xi_Q) rfl hq9.1) trivial (by omega) (by omega) (by omega) (by omega) hl.1 rfl (Nat.le_of_ble_eq_true rfl) d_X_send_27 (fun v8 H locs hv hX hS hF => ?_)
    have hz := hz.F hX.2.2.2.2.2.2.2.1 hF
    obtain rfl := hv
    refine lv_if_ne (tgt := 44) hx hb d_X_send_30 (by decide) (fun c_2 => ?_) (fun c_2 => ?_)
    · have c_2 := xs_b1 c_2
      refine lv_aload_n hx hb d_X_send_44 rfl (lv_at hl 1 rfl) ?_
      refine gf_X_Z_kind hx hb hts hown hK hz.1 rfl d_X_send_45 ?_
      refine lv_iconst (v := 1) hx hb d_X_send_48 (by decide) ?_
      refine lv_icmp_ne (tgt := 57) hx hb d_X_send_49 (by decide) (fun c_3 => ?_) (fun c_3 => ?_)
      · exact xr_V (τ := xm_send σ z) hC hW hX hS (by omega) (by omega) (by simp only [xm_send, c_1, c_2, c_3, if_true, if_false, reduceIte, Bool.false_eq_true, Bool.true_eq_false, and_true, true_and, and_false, false_and, or_true, true_or, or_false, false_or, not_true_eq_false, not_false_eq_true] <;> rfl) d_X_send_57
      · refine lv_aload_n hx hb d_X_send_52 rfl (lv_at hl 0 rfl) ?_
        refine lv_aload_n hx hb d_X_send_53 rfl (lv_at hl 1 rfl) ?_
        obtain ⟨v9, hXo, hXl⟩ := hX.1
        refine xk_iV (rest := []) (c_X_returnError l g B o lim σ a z) gd_X_X_returnError hd_X_returnError hC hW hX hS (xb_recv hK (ci := xi_X) rfl hXo) hz (by omega) (by omega) (by omega) (by omega) hl.1 rfl (Nat.le_of_ble_eq_true rfl) d_X_send_54 (fun H locs hX hS hF => ?_)
        have hz := hz.F hX.2.2.2.2.2.2.2.1 hF
        exact xr_V (τ := xm_send σ z) hC hW hX hS (by omega) (by omega) (by simp only [xm_send, c_1, c_2, c_3, if_true, if_false, reduceIte, Bool.false_eq_true, Bool.true_eq_false, and_true, true_and, and_false, false_and, or_true, true_or, or_false, false_or, not_true_eq_false, not_false_eq_true] <;> rfl) d_X_send_57
    · have c_2 := xs_b0 c_2
      refine lv_aload_n hx hb d_X_send_33 rfl (lv_at hl 0 rfl) ?_
      obtain ⟨v9, hXo, hXl⟩ := hX.1
      refine gf_X_X_waiting hx hb hts hown hK hXo rfl d_X_send_34 ?_
      refine lv_aload_n hx hb d_X_send_37 rfl (lv_at hl 1 rfl) ?_
      obtain ⟨f9, hq9, hl9, hz9⟩ := hX.2.2.2.2.2.2.1 14 (by decide)
      refine xk_iV (rest := []) (c_Q_add l g B o lim σ 14 (by decide) a z) gd_X_Q_add hd_Q_add hC hW hX hS (xb_recv hK (ci := xi_Q) rfl hq9.1) hz (by omega) (by omega) (by omega) (by omega) hl.1 rfl (Nat.le_of_ble_eq_true rfl) d_X_send_38 (fun H locs hX hS hF => ?_)
      have hz := hz.F hX.2.2.2.2.2.2.2.1 hF
      refine lv_goto (tgt := 57) hx hb d_X_send_41 (by decide) ?_
      exact xr_V (τ := xm_send σ z) hC hW hX hS (by omega) (by omega) (by simp only [xm_send, c_1, c_2, if_true, if_false, reduceIte, Bool.false_eq_true, Bool.true_eq_false, and_true, true_and, and_false, false_and, or_true, true_or, or_false, false_or, not_true_eq_false, not_false_eq_true] <;> rfl) d_X_send_57
  · have c_1 := xs_b1 c_1
    refine lv_aload_n hx hb d_X_send_15 rfl (lv_at hl 0 rfl) ?_
    refine lv_aload_n hx hb d_X_send_16 rfl (lv_at hl 1 rfl) ?_
    obtain ⟨v9, hXo, hXl⟩ := hX.1
    refine xk_iV (rest := []) (c_X_arrive l g B o lim σ a z hok) gd_X_X_arrive hd_X_arrive hC hW hX hS (xb_recv hK (ci := xi_X) rfl hXo) hz (by omega) (by omega) (by omega) (by omega) hl.1 rfl (Nat.le_of_ble_eq_true rfl) d_X_send_17 (fun H locs hX hS hF => ?_)
    have hz := hz.F hX.2.2.2.2.2.2.2.1 hF
    refine lv_goto (tgt := 57) hx hb d_X_send_20 (by decide) ?_
    exact xr_V (τ := xm_send σ z) hC hW hX hS (by omega) (by omega) (by simp only [xm_send, c_1, if_true, if_false, reduceIte, Bool.false_eq_true, Bool.true_eq_false, and_true, true_and, and_false, false_and, or_true, true_or, or_false, false_or, not_true_eq_false, not_false_eq_true] <;> rfl) d_X_send_57
set_option maxHeartbeats 4000000 in
set_option maxRecDepth 100000 in
theorem c_X_presenceOf (l : Launch) (g : xw_G) (B : Nat → Prop) (o lim : Nat) (σ : xs_S) (i : Nat) (hi : i < 6) (x y : Int32) : xc_Q l y_X_presenceOf (Cond.code y_X_presenceOf b_X_presenceOf 4 (some (.object "XmppPair$Stanza"))) g B o lim σ σ [.ref (o + 36 + 3 * i), .int x, .int y] (fun _ => True) (fun v H => ∃ a, v = .ref a ∧ xw_Z g B a (xm_pres σ i x y) H) 2 46 1 6 := by
  refine xh_Q (own := R_X) (by decide) rfl (Nat.le_of_ble_eq_true rfl) ?_
  intro p e R s m below meth c ls hRf hRl hRc hRs hC hW hE hl
  obtain ⟨hx, hb, hml, hr, hown, hts, hlk⟩ := id hC
  have hX := hW.1
  have hK := hW.2.1
  have hS : va_S (xw_A o s.heap.size) s.heap s.heap [] := va_S.rf
  have hl : lv_has ls 4 [(0, .ref (o + 36 + 3 * i)), (1, .int x), (2, .int y)] := hl
  refine lv_iload_n hx hb d_X_presenceOf_0 rfl (lv_at hl 1 rfl) ?_
  refine lv_iconst (v := 2) hx hb d_X_presenceOf_1 (by decide) ?_
  refine lv_icmp_ne (tgt := 12) hx hb d_X_presenceOf_2 (by decide) (fun c_1 => ?_) (fun c_1 => ?_)
  · refine lv_iconst (v := 0) hx hb d_X_presenceOf_12 (by decide) ?_
    refine lv_istore_n (lv' := [(3, .int 0), (0, .ref (o + 36 + 3 * i)), (1, .int x), (2, .int y)]) hx hb d_X_presenceOf_13 rfl hl (by decide) rfl (fun ls hl => ?_)
    refine nw_X_Z hx hb hts hown hK hX hS (by omega) (by omega) d_X_presenceOf_14 (fun a9 H9 hn9 hb9 hsz9 hX9 hS9 hF9 => ?_)
    have hX0 := hX
    have hX := hX9
    refine lv_dup hx hb d_X_presenceOf_17 rfl ?_
    refine lv_iload_n hx hb d_X_presenceOf_18 rfl (lv_at hl 2 rfl) ?_
    refine lv_aload_n hx hb d_X_presenceOf_19 rfl (lv_at hl 1 rfl) ?_
    refine gf_X_C_account hx hb hts hown hK (hX.2.2.2.2.2.1 i hi) rfl d_X_presenceOf_20 ?_
    refine lv_aload_n hx hb d_X_presenceOf_23 rfl (lv_at hl 1 rfl) ?_
    refine gf_X_C_resource hx hb hts hown hK (hX.2.2.2.2.2.1 i hi) rfl d_X_presenceOf_24 ?_
    refine lv_iload_n hx hb d_X_presenceOf_27 rfl (lv_at hl 0 rfl) ?_
    refine lv_iload_n hx hb d_X_presenceOf_28 rfl (lv_at hl 3 rfl) ?_
    refine lv_iconst (v := (-1)) hx hb d_X_presenceOf_29 (by decide) ?_
    refine in_X_Z (rest := [.ref a9]) hC hW hX0 hX9 hS9 hF9 hn9 hb9 hsz9 (by omega) (by omega) (by omega) (by omega) hl.1 rfl (Nat.le_of_ble_eq_true rfl) d_X_presenceOf_30 (fun H locs hzn hX hS hF => ?_)
    have hz_2 := hzn
    exact xr_R (τ := σ) (val := (fun v H => ∃ a, v = .ref a ∧ xw_Z g B a (xm_pres σ i x y) H)) hC hW hX hS (by omega) (by omega) rfl (Or.inr ⟨_, rfl⟩) ⟨_, rfl, by unfold xm_pres; rw [if_neg c_1]; exact hz_2⟩ d_X_presenceOf_33
  · refine lv_aload_n hx hb d_X_presenceOf_5 rfl (lv_at hl 0 rfl) ?_
    refine gf_X_C_priority hx hb hts hown hK (hX.2.2.2.2.2.1 i hi) rfl d_X_presenceOf_6 ?_
    refine lv_goto (tgt := 13) hx hb d_X_presenceOf_9 (by decide) ?_
    refine lv_istore_n (lv' := [(3, .int ((xs_cn σ i).2.2.2.1)), (0, .ref (o + 36 + 3 * i)), (1, .int x), (2, .int y)]) hx hb d_X_presenceOf_13 rfl hl (by decide) rfl (fun ls hl => ?_)
    refine nw_X_Z hx hb hts hown hK hX hS (by omega) (by omega) d_X_presenceOf_14 (fun a9 H9 hn9 hb9 hsz9 hX9 hS9 hF9 => ?_)
    have hX0 := hX
    have hX := hX9
    refine lv_dup hx hb d_X_presenceOf_17 rfl ?_
    refine lv_iload_n hx hb d_X_presenceOf_18 rfl (lv_at hl 2 rfl) ?_
    refine lv_aload_n hx hb d_X_presenceOf_19 rfl (lv_at hl 1 rfl) ?_
    refine gf_X_C_account hx hb hts hown hK (hX.2.2.2.2.2.1 i hi) rfl d_X_presenceOf_20 ?_
    refine lv_aload_n hx hb d_X_presenceOf_23 rfl (lv_at hl 1 rfl) ?_
    refine gf_X_C_resource hx hb hts hown hK (hX.2.2.2.2.2.1 i hi) rfl d_X_presenceOf_24 ?_
    refine lv_iload_n hx hb d_X_presenceOf_27 rfl (lv_at hl 0 rfl) ?_
    refine lv_iload_n hx hb d_X_presenceOf_28 rfl (lv_at hl 3 rfl) ?_
    refine lv_iconst (v := (-1)) hx hb d_X_presenceOf_29 (by decide) ?_
    refine in_X_Z (rest := [.ref a9]) hC hW hX0 hX9 hS9 hF9 hn9 hb9 hsz9 (by omega) (by omega) (by omega) (by omega) hl.1 rfl (Nat.le_of_ble_eq_true rfl) d_X_presenceOf_30 (fun H locs hzn hX hS hF => ?_)
    have hz_4 := hzn
    exact xr_R (τ := σ) (val := (fun v H => ∃ a, v = .ref a ∧ xw_Z g B a (xm_pres σ i x y) H)) hC hW hX hS (by omega) (by omega) rfl (Or.inr ⟨_, rfl⟩) ⟨_, rfl, by unfold xm_pres; rw [if_pos c_1]; exact hz_4⟩ d_X_presenceOf_33
set_option maxHeartbeats 4000000 in
set_option maxRecDepth 100000 in
theorem c_X_sendToWatchers (l : Launch) (g : xw_G) (B : Nat → Prop) (o lim : Nat) (σ : xs_S) (i0 : Nat) (hi0 : i0 < 6) (x : Int32) (hvac : vp_in (xs_cn σ i0).2.1 8) : xc_V l y_X_sendToWatchers (Cond.code y_X_sendToWatchers b_X_sendToWatchers 5 none) g B o lim σ (xm_stw 8 0 σ (xs_ix (xs_cn σ i0).2.1) i0 x) [.ref o, .ref (o + 36 + 3 * i0), .int x] (fun _ => True) 6 133 16 96 := by
  refine xh_V (own := R_X) (by decide) rfl (Nat.le_of_ble_eq_true rfl) ?_
  intro p e R s m below meth c ls hRf hRl hRc hRs hC hW hE hl
  obtain ⟨hx, hb, hml, hr, hown, hts, hlk⟩ := id hC
  have hX := hW.1
  have hK := hW.2.1
  have hS : va_S (xw_A o s.heap.size) s.heap s.heap [] := va_S.rf
  have hl : lv_has ls 5 [(0, .ref o), (1, .ref (o + 36 + 3 * i0)), (2, .int x)] := hl
  refine lv_aload_n hx hb d_X_sendToWatchers_0 rfl (lv_at hl 0 rfl) ?_
  obtain ⟨v9, hXo, hXl⟩ := hX.1
  refine gf_X_X_accounts hx hb hts hown hK hXo rfl d_X_sendToWatchers_1 ?_
  refine lv_aload_n hx hb d_X_sendToWatchers_4 rfl (lv_at hl 1 rfl) ?_
  refine gf_X_C_account hx hb hts hown hK (hX.2.2.2.2.2.1 i0 hi0) rfl d_X_sendToWatchers_5 ?_
  refine xb_aald (v := o + 3 + 4 * (xs_ix ((xs_cn σ i0).2.1))) hx hb hK 0 rfl hX.2.1 hvac rfl d_X_sendToWatchers_8 ?_
  refine lv_astore_n (lv' := [(3, .ref (o + 3 + 4 * (xs_ix ((xs_cn σ i0).2.1)))), (0, .ref o), (1, .ref (o + 36 + 3 * i0)), (2, .int x)]) hx hb d_X_sendToWatchers_9 rfl hl (by decide) rfl (fun ls hl => ?_)
  refine lv_iconst (v := 0) hx hb d_X_sendToWatchers_10 (by decide) ?_
  refine lv_istore (lv' := [(4, .int 0), (3, .ref (o + 3 + 4 * (xs_ix ((xs_cn σ i0).2.1)))), (0, .ref o), (1, .ref (o + 36 + 3 * i0)), (2, .int x)]) hx hb d_X_sendToWatchers_11 hl (by decide) rfl (fun ls hl => ?_)
  have loop : ∀ (n i : Nat) (τ : xs_S) (H : Heap) (locs : List Loc) (cells slots : Nat) (ls : Array Slot), i + n = 8 → xw_R g B o τ H → va_S (xw_A o s.heap.size) s.heap H locs → cells + n * 2 ≤ 16 → slots + n * 12 ≤ 96 → lv_has ls 5 [(4, .int (nI i)), (3, .ref (o + 3 + 4 * (xs_ix ((xs_cn σ i0).2.1)))), (0, .ref o), (1, .ref (o + 36 + 3 * i0)), (2, .int x)] → xm_stw n i τ (xs_ix (xs_cn σ i0).2.1) i0 x = xm_stw 8 0 σ (xs_ix (xs_cn σ i0).2.1) i0 x → xs_cn τ = xs_cn σ → W p l e R s m ([.ref o, .ref (o + 36 + 3 * i0), .int x] : List Value).toArray below meth c H locs cells slots (MQ below (xb_V (fun t => xw_W g B o lim (xm_stw 8 0 σ (xs_ix (xs_cn σ i0).2.1) i0 x) t) (xw_A o s.heap.size)) ([.ref o, .ref (o + 36 + 3 * i0), .int x] : List Value).toArray s 16 96 (xw_A o s.heap.size)) (F0 m 13 ls []) := by
    intro n
    induction n with
    | zero =>
      intro i τ H locs cells slots ls hi hX hS  hc hs hl hres hcn
      obtain rfl : i = 8 := by omega
      refine lv_iload hx hb d_X_sendToWatchers_13 (lv_at hl 0 rfl) ?_
      refine lv_bipush (v := 8) hx hb d_X_sendToWatchers_15 (by decide) ?_
      refine lv_icmp_ge (tgt := 47) hx hb d_X_sendToWatchers_17 (by decide) (fun c_1 => ?_) (fun c_1 => absurd (nI_le (Nat.le_refl 8) (by decide)) c_1)
      exact xr_V (τ := xm_stw 8 0 σ (xs_ix (xs_cn σ i0).2.1) i0 x) hC hW hX hS (by omega) (by omega) hres d_X_sendToWatchers_47
    | succ n ih =>
      intro i τ H locs cells slots ls hi hX hS  hc hs hl hres hcn
      refine lv_iload hx hb d_X_sendToWatchers_13 (lv_at hl 0 rfl) ?_
      refine lv_bipush (v := 8) hx hb d_X_sendToWatchers_15 (by decide) ?_
      refine lv_icmp_ge (tgt := 47) hx hb d_X_sendToWatchers_17 (by decide) (fun c_2 => absurd c_2 (nI_ge (show i < 8 by omega) (by decide))) (fun c_2 => ?_)
      refine lv_aload_n hx hb d_X_sendToWatchers_20 rfl (lv_at hl 1 rfl) ?_
      refine lv_iload hx hb d_X_sendToWatchers_21 (lv_at hl 0 rfl) ?_
      refine lv_iconst (v := 2) hx hb d_X_sendToWatchers_23 (by decide) ?_
      refine xk_iQ (rest := []) (c_A_hasAny l g B o lim τ (xs_ix ((xs_cn σ i0).2.1)) (xs_ixl hvac) (nI i) i (vp_in_nI (show i < 8 by omega) (by decide)) (nI_clamp (by omega)) 2) gd_X_A_hasAny hd_A_hasAny hC hW hX hS (xb_recv hK (ci := xi_A) rfl (hX.2.2.2.1 (xs_ix ((xs_cn σ i0).2.1)) (xs_ixl hvac))) trivial (by omega) (by omega) (by omega) (by omega) hl.1 rfl (Nat.le_of_ble_eq_true rfl) d_X_sendToWatchers_24 (fun v8 H locs hv hX hS hF => ?_)
      obtain rfl := hv
      refine lv_if_eq (tgt := 41) hx hb d_X_sendToWatchers_27 (by decide) (fun c_3 => ?_) (fun c_3 => ?_)
      · have c_3 := xs_b0 c_3
        refine lv_iinc (v := nI (i + 1)) (lv' := [(4, .int (nI (i + 1))), (3, .ref (o + 3 + 4 * (xs_ix ((xs_cn σ i0).2.1)))), (0, .ref o), (1, .ref (o + 36 + 3 * i0)), (2, .int x)]) hx hb d_X_sendToWatchers_41 hl (k := 0) rfl (nI_1 _) (by decide) rfl (fun ls hl => ?_)
        refine lv_goto (tgt := 13) hx hb d_X_sendToWatchers_44 (by decide) ?_
        exact ih (i + 1) τ _ _ _ _ ls (by omega) hX hS  (by omega) (by omega) (lv_sub hl [0, 1, 2, 3, 4] rfl) (by rw [← hres]; simp only [xm_stw, c_3, if_true, if_false, reduceIte, Bool.false_eq_true, Bool.true_eq_false, and_true, true_and, and_false, false_and, or_true, true_or, or_false, false_or, not_true_eq_false, not_false_eq_true] <;> rfl) hcn
      · have c_3 := xs_b1 c_3
        refine lv_aload_n hx hb d_X_sendToWatchers_30 rfl (lv_at hl 2 rfl) ?_
        refine lv_aload_n hx hb d_X_sendToWatchers_31 rfl (lv_at hl 3 rfl) ?_
        refine lv_iload_n hx hb d_X_sendToWatchers_32 rfl (lv_at hl 4 rfl) ?_
        refine lv_iload hx hb d_X_sendToWatchers_33 (lv_at hl 0 rfl) ?_
        refine xk_sQ (rest := [.ref o]) (c_X_presenceOf l g B o lim τ i0 hi0 x (nI i)) gd_X_X_presenceOf hd_X_presenceOf hC hW hX hS trivial (by omega) (by omega) (by omega) (by omega) hl.1 rfl (Nat.le_of_ble_eq_true rfl) d_X_sendToWatchers_35 (fun v8 H locs hv hX hS hF => ?_)
        obtain ⟨b9, rfl, hz_4⟩ := hv
        obtain ⟨v9, hXo, hXl⟩ := hX.1
        refine xk_iV (rest := []) (c_X_send l g B o lim τ b9 (xm_pres τ i0 x (nI i)) ⟨(show vp_in (xs_cn τ i0).2.1 8 by rw [hcn]; exact hvac), vp_in_nI (show i < 8 by omega) (by decide)⟩) gd_X_X_send hd_X_send hC hW hX hS (xb_recv hK (ci := xi_X) rfl hXo) hz_4 (by omega) (by omega) (by omega) (by omega) hl.1 rfl (Nat.le_of_ble_eq_true rfl) d_X_sendToWatchers_38 (fun H locs hX hS hF => ?_)
        have hz_4 := hz_4.F hX.2.2.2.2.2.2.2.1 hF
        refine lv_iinc (v := nI (i + 1)) (lv' := [(4, .int (nI (i + 1))), (3, .ref (o + 3 + 4 * (xs_ix ((xs_cn σ i0).2.1)))), (0, .ref o), (1, .ref (o + 36 + 3 * i0)), (2, .int x)]) hx hb d_X_sendToWatchers_41 hl (k := 0) rfl (nI_1 _) (by decide) rfl (fun ls hl => ?_)
        refine lv_goto (tgt := 13) hx hb d_X_sendToWatchers_44 (by decide) ?_
        exact ih (i + 1) (xm_send τ (xm_pres τ i0 x (nI i))) _ _ _ _ ls (by omega) hX hS  (by omega) (by omega) (lv_sub hl [0, 1, 2, 3, 4] rfl) (by rw [← hres]; simp only [xm_stw, c_3, if_true, if_false, reduceIte, Bool.false_eq_true, Bool.true_eq_false, and_true, true_and, and_false, false_and, or_true, true_or, or_false, false_or, not_true_eq_false, not_false_eq_true] <;> rfl) (xm_same_send.2.1.trans hcn)
  exact loop 8 0 σ _ _ _ _ ls (by omega) hX hS  (by omega) (by omega) (lv_sub hl [0, 1, 2, 3, 4] rfl) rfl rfl
set_option maxHeartbeats 4000000 in
set_option maxRecDepth 100000 in
theorem c_X_sendPresences (l : Launch) (g : xw_G) (B : Nat → Prop) (o lim : Nat) (σ : xs_S) (x y k : Int32) (hvx : vp_in x 8) (hvy : vp_in y 8) : xc_V l y_X_sendPresences (Cond.code y_X_sendPresences b_X_sendPresences 8 none) g B o lim σ (xm_sp 6 0 σ x y k) [.ref o, .int x, .int y, .int k] (fun _ => True) 6 133 12 72 := by
  refine xh_V (own := R_X) (by decide) rfl (Nat.le_of_ble_eq_true rfl) ?_
  intro p e R s m below meth c ls hRf hRl hRc hRs hC hW hE hl
  obtain ⟨hx, hb, hml, hr, hown, hts, hlk⟩ := id hC
  have hX := hW.1
  have hK := hW.2.1
  have hS : va_S (xw_A o s.heap.size) s.heap s.heap [] := va_S.rf
  have hl : lv_has ls 8 [(0, .ref o), (1, .int x), (2, .int y), (3, .int k)] := hl
  refine lv_aload_n hx hb d_X_sendPresences_0 rfl (lv_at hl 0 rfl) ?_
  obtain ⟨v9, hXo, hXl⟩ := hX.1
  refine gf_X_X_connections hx hb hts hown hK hXo rfl d_X_sendPresences_1 ?_
  refine lv_astore (lv' := [(4, .ref (o + 35)), (0, .ref o), (1, .int x), (2, .int y), (3, .int k)]) hx hb d_X_sendPresences_4 hl (by decide) rfl (fun ls hl => ?_)
  refine lv_aload hx hb d_X_sendPresences_6 (lv_at hl 0 rfl) ?_
  refine xb_alen hx hb hK 1 rfl hX.2.2.1 d_X_sendPresences_8 ?_
  refine lv_istore (lv' := [(5, .int (nI 6)), (4, .ref (o + 35)), (0, .ref o), (1, .int x), (2, .int y), (3, .int k)]) hx hb d_X_sendPresences_9 hl (by decide) rfl (fun ls hl => ?_)
  refine lv_iconst (v := 0) hx hb d_X_sendPresences_11 (by decide) ?_
  refine lv_istore (lv' := [(6, .int 0), (5, .int (nI 6)), (4, .ref (o + 35)), (0, .ref o), (1, .int x), (2, .int y), (3, .int k)]) hx hb d_X_sendPresences_12 hl (by decide) rfl (fun ls hl => ?_)
  have loop : ∀ (n i : Nat) (τ : xs_S) (H : Heap) (locs : List Loc) (cells slots : Nat) (ls : Array Slot), i + n = 6 → xw_R g B o τ H → va_S (xw_A o s.heap.size) s.heap H locs → cells + n * 2 ≤ 12 → slots + n * 12 ≤ 72 → lv_has ls 8 [(6, .int (nI i)), (5, .int (nI 6)), (4, .ref (o + 35)), (0, .ref o), (1, .int x), (2, .int y), (3, .int k)] → xm_sp n i τ x y k = xm_sp 6 0 σ x y k → W p l e R s m ([.ref o, .int x, .int y, .int k] : List Value).toArray below meth c H locs cells slots (MQ below (xb_V (fun t => xw_W g B o lim (xm_sp 6 0 σ x y k) t) (xw_A o s.heap.size)) ([.ref o, .int x, .int y, .int k] : List Value).toArray s 12 72 (xw_A o s.heap.size)) (F0 m 14 ls []) := by
    intro n
    induction n with
    | zero =>
      intro i τ H locs cells slots ls hi hX hS  hc hs hl hres 
      obtain rfl : i = 6 := by omega
      refine lv_iload hx hb d_X_sendPresences_14 (lv_at hl 0 rfl) ?_
      refine lv_iload hx hb d_X_sendPresences_16 (lv_at hl 1 rfl) ?_
      refine lv_icmp_ge (tgt := 54) hx hb d_X_sendPresences_18 (by decide) (fun c_1 => ?_) (fun c_1 => absurd (nI_le (Nat.le_refl 6) (by decide)) c_1)
      exact xr_V (τ := xm_sp 6 0 σ x y k) hC hW hX hS (by omega) (by omega) hres d_X_sendPresences_54
    | succ n ih =>
      intro i τ H locs cells slots ls hi hX hS  hc hs hl hres 
      refine lv_iload hx hb d_X_sendPresences_14 (lv_at hl 0 rfl) ?_
      refine lv_iload hx hb d_X_sendPresences_16 (lv_at hl 1 rfl) ?_
      refine lv_icmp_ge (tgt := 54) hx hb d_X_sendPresences_18 (by decide) (fun c_2 => absurd c_2 (nI_ge (show i < 6 by omega) (by decide))) (fun c_2 => ?_)
      refine lv_aload hx hb d_X_sendPresences_21 (lv_at hl 2 rfl) ?_
      refine lv_iload hx hb d_X_sendPresences_23 (lv_at hl 0 rfl) ?_
      refine xb_aald (v := o + 36 + 3 * i) hx hb hK 1 rfl hX.2.2.1 (vp_in_nI (show i < 6 by omega) (by decide)) (by rw [nI_clamp (by omega)]) d_X_sendPresences_25 ?_
      refine lv_astore (lv' := [(7, .ref (o + 36 + 3 * i)), (6, .int (nI i)), (5, .int (nI 6)), (4, .ref (o + 35)), (0, .ref o), (1, .int x), (2, .int y), (3, .int k)]) hx hb d_X_sendPresences_26 hl (by decide) rfl (fun ls hl => ?_)
      refine lv_aload hx hb d_X_sendPresences_28 (lv_at hl 0 rfl) ?_
      refine lv_iload_n hx hb d_X_sendPresences_30 rfl (lv_at hl 5 rfl) ?_
      refine xk_iQ (rest := []) (c_C_isAvailableFor l g B o lim τ i (show i < 6 by omega) x) gd_X_C_isAvailableFor hd_C_isAvailableFor hC hW hX hS (xb_recv hK (ci := xi_C) rfl (hX.2.2.2.2.2.1 i (show i < 6 by omega))) trivial (by omega) (by omega) (by omega) (by omega) hl.1 rfl (Nat.le_of_ble_eq_true rfl) d_X_sendPresences_31 (fun v8 H locs hv hX hS hF => ?_)
      obtain rfl := hv
      refine lv_if_eq (tgt := 48) hx hb d_X_sendPresences_34 (by decide) (fun c_3 => ?_) (fun c_3 => ?_)
      · have c_3 := xs_b0 c_3
        refine lv_iinc (v := nI (i + 1)) (lv' := [(6, .int (nI (i + 1))), (7, .ref (o + 36 + 3 * i)), (5, .int (nI 6)), (4, .ref (o + 35)), (0, .ref o), (1, .int x), (2, .int y), (3, .int k)]) hx hb d_X_sendPresences_48 hl (k := 1) rfl (nI_1 _) (by decide) rfl (fun ls hl => ?_)
        refine lv_goto (tgt := 14) hx hb d_X_sendPresences_51 (by decide) ?_
        exact ih (i + 1) τ _ _ _ _ ls (by omega) hX hS  (by omega) (by omega) (lv_sub hl [0, 2, 3, 4, 5, 6, 7] rfl) (by rw [← hres]; simp only [xm_sp, c_3, if_true, if_false, reduceIte, Bool.false_eq_true, Bool.true_eq_false, and_true, true_and, and_false, false_and, or_true, true_or, or_false, false_or, not_true_eq_false, not_false_eq_true] <;> rfl) 
      · have c_3 := xs_b1 c_3
        refine lv_aload_n hx hb d_X_sendPresences_37 rfl (lv_at hl 4 rfl) ?_
        refine lv_aload hx hb d_X_sendPresences_38 (lv_at hl 0 rfl) ?_
        refine lv_iload_n hx hb d_X_sendPresences_40 rfl (lv_at hl 7 rfl) ?_
        refine lv_iload_n hx hb d_X_sendPresences_41 rfl (lv_at hl 6 rfl) ?_
        refine xk_sQ (rest := [.ref o]) (c_X_presenceOf l g B o lim τ i (show i < 6 by omega) k y) gd_X_X_presenceOf hd_X_presenceOf hC hW hX hS trivial (by omega) (by omega) (by omega) (by omega) hl.1 rfl (Nat.le_of_ble_eq_true rfl) d_X_sendPresences_42 (fun v8 H locs hv hX hS hF => ?_)
        obtain ⟨b9, rfl, hz_4⟩ := hv
        obtain ⟨v9, hXo, hXl⟩ := hX.1
        refine xk_iV (rest := []) (c_X_send l g B o lim τ b9 (xm_pres τ i k y) ⟨(show vp_in (xs_cn τ i).2.1 8 by rw [xm_av_ac c_3]; exact hvx), hvy⟩) gd_X_X_send hd_X_send hC hW hX hS (xb_recv hK (ci := xi_X) rfl hXo) hz_4 (by omega) (by omega) (by omega) (by omega) hl.1 rfl (Nat.le_of_ble_eq_true rfl) d_X_sendPresences_45 (fun H locs hX hS hF => ?_)
        have hz_4 := hz_4.F hX.2.2.2.2.2.2.2.1 hF
        refine lv_iinc (v := nI (i + 1)) (lv' := [(6, .int (nI (i + 1))), (7, .ref (o + 36 + 3 * i)), (5, .int (nI 6)), (4, .ref (o + 35)), (0, .ref o), (1, .int x), (2, .int y), (3, .int k)]) hx hb d_X_sendPresences_48 hl (k := 1) rfl (nI_1 _) (by decide) rfl (fun ls hl => ?_)
        refine lv_goto (tgt := 14) hx hb d_X_sendPresences_51 (by decide) ?_
        exact ih (i + 1) (xm_send τ (xm_pres τ i k y)) _ _ _ _ ls (by omega) hX hS  (by omega) (by omega) (lv_sub hl [0, 2, 3, 4, 5, 6, 7] rfl) (by rw [← hres]; simp only [xm_sp, c_3, if_true, if_false, reduceIte, Bool.false_eq_true, Bool.true_eq_false, and_true, true_and, and_false, false_and, or_true, true_or, or_false, false_or, not_true_eq_false, not_false_eq_true] <;> rfl) 
  exact loop 6 0 σ _ _ _ _ ls (by omega) hX hS  (by omega) (by omega) (lv_sub hl [0, 1, 2, 3, 4, 5, 6] rfl) rfl 
set_option maxHeartbeats 4000000 in
set_option maxRecDepth 100000 in
theorem c_X_showConnectionsOf (l : Launch) (g : xw_G) (B : Nat → Prop) (o lim : Nat) (σ : xs_S) (x : Int32) (i0 : Nat) (hi0 : i0 < 6) : xc_V l y_X_showConnectionsOf (Cond.code y_X_showConnectionsOf b_X_showConnectionsOf 7 none) g B o lim σ (xm_sco 6 0 σ x i0) [.ref o, .int x, .ref (o + 36 + 3 * i0)] (fun _ => True) 3 69 6 36 := by
  refine xh_V (own := R_X) (by decide) rfl (Nat.le_of_ble_eq_true rfl) ?_
  intro p e R s m below meth c ls hRf hRl hRc hRs hC hW hE hl
  obtain ⟨hx, hb, hml, hr, hown, hts, hlk⟩ := id hC
  have hX := hW.1
  have hK := hW.2.1
  have hS : va_S (xw_A o s.heap.size) s.heap s.heap [] := va_S.rf
  have hl : lv_has ls 7 [(0, .ref o), (1, .int x), (2, .ref (o + 36 + 3 * i0))] := hl
  refine lv_aload_n hx hb d_X_showConnectionsOf_0 rfl (lv_at hl 0 rfl) ?_
  obtain ⟨v9, hXo, hXl⟩ := hX.1
  refine gf_X_X_connections hx hb hts hown hK hXo rfl d_X_showConnectionsOf_1 ?_
  refine lv_astore_n (lv' := [(3, .ref (o + 35)), (0, .ref o), (1, .int x), (2, .ref (o + 36 + 3 * i0))]) hx hb d_X_showConnectionsOf_4 rfl hl (by decide) rfl (fun ls hl => ?_)
  refine lv_aload_n hx hb d_X_showConnectionsOf_5 rfl (lv_at hl 0 rfl) ?_
  refine xb_alen hx hb hK 1 rfl hX.2.2.1 d_X_showConnectionsOf_6 ?_
  refine lv_istore (lv' := [(4, .int (nI 6)), (3, .ref (o + 35)), (0, .ref o), (1, .int x), (2, .ref (o + 36 + 3 * i0))]) hx hb d_X_showConnectionsOf_7 hl (by decide) rfl (fun ls hl => ?_)
  refine lv_iconst (v := 0) hx hb d_X_showConnectionsOf_9 (by decide) ?_
  refine lv_istore (lv' := [(5, .int 0), (4, .int (nI 6)), (3, .ref (o + 35)), (0, .ref o), (1, .int x), (2, .ref (o + 36 + 3 * i0))]) hx hb d_X_showConnectionsOf_10 hl (by decide) rfl (fun ls hl => ?_)
  have loop : ∀ (n i : Nat) (τ : xs_S) (H : Heap) (locs : List Loc) (cells slots : Nat) (ls : Array Slot), i + n = 6 → xw_R g B o τ H → va_S (xw_A o s.heap.size) s.heap H locs → cells + n * 1 ≤ 6 → slots + n * 6 ≤ 36 → lv_has ls 7 [(5, .int (nI i)), (4, .int (nI 6)), (3, .ref (o + 35)), (0, .ref o), (1, .int x), (2, .ref (o + 36 + 3 * i0))] → xm_sco n i τ x i0 = xm_sco 6 0 σ x i0 → W p l e R s m ([.ref o, .int x, .ref (o + 36 + 3 * i0)] : List Value).toArray below meth c H locs cells slots (MQ below (xb_V (fun t => xw_W g B o lim (xm_sco 6 0 σ x i0) t) (xw_A o s.heap.size)) ([.ref o, .int x, .ref (o + 36 + 3 * i0)] : List Value).toArray s 6 36 (xw_A o s.heap.size)) (F0 m 12 ls []) := by
    intro n
    induction n with
    | zero =>
      intro i τ H locs cells slots ls hi hX hS  hc hs hl hres 
      obtain rfl : i = 6 := by omega
      refine lv_iload hx hb d_X_showConnectionsOf_12 (lv_at hl 0 rfl) ?_
      refine lv_iload hx hb d_X_showConnectionsOf_14 (lv_at hl 1 rfl) ?_
      refine lv_icmp_ge (tgt := 57) hx hb d_X_showConnectionsOf_16 (by decide) (fun c_1 => ?_) (fun c_1 => absurd (nI_le (Nat.le_refl 6) (by decide)) c_1)
      exact xr_V (τ := xm_sco 6 0 σ x i0) hC hW hX hS (by omega) (by omega) hres d_X_showConnectionsOf_57
    | succ n ih =>
      intro i τ H locs cells slots ls hi hX hS  hc hs hl hres 
      refine lv_iload hx hb d_X_showConnectionsOf_12 (lv_at hl 0 rfl) ?_
      refine lv_iload hx hb d_X_showConnectionsOf_14 (lv_at hl 1 rfl) ?_
      refine lv_icmp_ge (tgt := 57) hx hb d_X_showConnectionsOf_16 (by decide) (fun c_2 => absurd c_2 (nI_ge (show i < 6 by omega) (by decide))) (fun c_2 => ?_)
      refine lv_aload_n hx hb d_X_showConnectionsOf_19 rfl (lv_at hl 2 rfl) ?_
      refine lv_iload hx hb d_X_showConnectionsOf_20 (lv_at hl 0 rfl) ?_
      refine xb_aald (v := o + 36 + 3 * i) hx hb hK 1 rfl hX.2.2.1 (vp_in_nI (show i < 6 by omega) (by decide)) (by rw [nI_clamp (by omega)]) d_X_showConnectionsOf_22 ?_
      refine lv_astore (lv' := [(6, .ref (o + 36 + 3 * i)), (5, .int (nI i)), (4, .int (nI 6)), (3, .ref (o + 35)), (0, .ref o), (1, .int x), (2, .ref (o + 36 + 3 * i0))]) hx hb d_X_showConnectionsOf_23 hl (by decide) rfl (fun ls hl => ?_)
      refine lv_aload hx hb d_X_showConnectionsOf_25 (lv_at hl 0 rfl) ?_
      refine lv_iload_n hx hb d_X_showConnectionsOf_27 rfl (lv_at hl 5 rfl) ?_
      refine xk_iQ (rest := []) (c_C_isAvailableFor l g B o lim τ i (show i < 6 by omega) x) gd_X_C_isAvailableFor hd_C_isAvailableFor hC hW hX hS (xb_recv hK (ci := xi_C) rfl (hX.2.2.2.2.2.1 i (show i < 6 by omega))) trivial (by omega) (by omega) (by omega) (by omega) hl.1 rfl (Nat.le_of_ble_eq_true rfl) d_X_showConnectionsOf_28 (fun v8 H locs hv hX hS hF => ?_)
      obtain rfl := hv
      refine lv_if_eq (tgt := 51) hx hb d_X_showConnectionsOf_31 (by decide) (fun c_3 => ?_) (fun c_3 => ?_)
      · have c_3 := xs_b0 c_3
        refine lv_iinc (v := nI (i + 1)) (lv' := [(5, .int (nI (i + 1))), (6, .ref (o + 36 + 3 * i)), (4, .int (nI 6)), (3, .ref (o + 35)), (0, .ref o), (1, .int x), (2, .ref (o + 36 + 3 * i0))]) hx hb d_X_showConnectionsOf_51 hl (k := 1) rfl (nI_1 _) (by decide) rfl (fun ls hl => ?_)
        refine lv_goto (tgt := 12) hx hb d_X_showConnectionsOf_54 (by decide) ?_
        exact ih (i + 1) τ _ _ _ _ ls (by omega) hX hS  (by omega) (by omega) (lv_sub hl [0, 2, 3, 4, 5, 6] rfl) (by rw [← hres]; simp only [xm_sco, c_3, if_true, if_false, reduceIte, Bool.false_eq_true, Bool.true_eq_false, and_true, true_and, and_false, false_and, or_true, true_or, or_false, false_or, not_true_eq_false, not_false_eq_true] <;> rfl) 
      · have c_3 := xs_b1 c_3
        refine lv_aload_n hx hb d_X_showConnectionsOf_34 rfl (lv_at hl 6 rfl) ?_
        refine gf_X_C_inbox hx hb hts hown hK (hX.2.2.2.2.2.1 i0 hi0) rfl d_X_showConnectionsOf_35 ?_
        refine lv_aload hx hb d_X_showConnectionsOf_38 (lv_at hl 0 rfl) ?_
        refine lv_iconst (v := 2) hx hb d_X_showConnectionsOf_40 (by decide) ?_
        refine lv_aload_n hx hb d_X_showConnectionsOf_41 rfl (lv_at hl 6 rfl) ?_
        refine gf_X_C_account hx hb hts hown hK (hX.2.2.2.2.2.1 i0 hi0) rfl d_X_showConnectionsOf_42 ?_
        refine xk_sQ (rest := [.ref (o + xs_qo (8 + i0))]) (c_X_presenceOf l g B o lim τ i (show i < 6 by omega) 2 ((xs_cn τ i0).2.1)) gd_X_X_presenceOf hd_X_presenceOf hC hW hX hS trivial (by omega) (by omega) (by omega) (by omega) hl.1 rfl (Nat.le_of_ble_eq_true rfl) d_X_showConnectionsOf_45 (fun v8 H locs hv hX hS hF => ?_)
        obtain ⟨b9, rfl, hz_4⟩ := hv
        obtain ⟨f9, hq9, hl9, hz9⟩ := hX.2.2.2.2.2.2.1 (8 + i0) (xs_8 hi0)
        refine xk_iV (rest := []) (c_Q_add l g B o lim τ (8 + i0) (xs_8 hi0) b9 (xm_pres τ i 2 ((xs_cn τ i0).2.1))) gd_X_Q_add hd_Q_add hC hW hX hS (xb_recv hK (ci := xi_Q) rfl hq9.1) hz_4 (by omega) (by omega) (by omega) (by omega) hl.1 rfl (Nat.le_of_ble_eq_true rfl) d_X_showConnectionsOf_48 (fun H locs hX hS hF => ?_)
        have hz_4 := hz_4.F hX.2.2.2.2.2.2.2.1 hF
        refine lv_iinc (v := nI (i + 1)) (lv' := [(5, .int (nI (i + 1))), (6, .ref (o + 36 + 3 * i)), (4, .int (nI 6)), (3, .ref (o + 35)), (0, .ref o), (1, .int x), (2, .ref (o + 36 + 3 * i0))]) hx hb d_X_showConnectionsOf_51 hl (k := 1) rfl (nI_1 _) (by decide) rfl (fun ls hl => ?_)
        refine lv_goto (tgt := 12) hx hb d_X_showConnectionsOf_54 (by decide) ?_
        exact ih (i + 1) (xm_add τ (8 + i0) (xm_pres τ i 2 ((xs_cn τ i0).2.1))) _ _ _ _ ls (by omega) hX hS  (by omega) (by omega) (lv_sub hl [0, 2, 3, 4, 5, 6] rfl) (by rw [← hres]; simp only [xm_sco, c_3, if_true, if_false, reduceIte, Bool.false_eq_true, Bool.true_eq_false, and_true, true_and, and_false, false_and, or_true, true_or, or_false, false_or, not_true_eq_false, not_false_eq_true] <;> rfl) 
  exact loop 6 0 σ _ _ _ _ ls (by omega) hX hS  (by omega) (by omega) (lv_sub hl [0, 1, 2, 3, 4, 5] rfl) rfl 
set_option maxHeartbeats 4000000 in
set_option maxRecDepth 100000 in
theorem c_X_showOthers (l : Launch) (g : xw_G) (B : Nat → Prop) (o lim : Nat) (σ : xs_S) (i0 : Nat) (hi0 : i0 < 6) (hvac : vp_in (xs_cn σ i0).2.1 8) : xc_V l y_X_showOthers (Cond.code y_X_showOthers b_X_showOthers 4 none) g B o lim σ (xm_so 8 0 σ (xs_ix (xs_cn σ i0).2.1) i0) [.ref o, .ref (o + 36 + 3 * i0)] (fun _ => True) 4 95 48 288 := by
  refine xh_V (own := R_X) (by decide) rfl (Nat.le_of_ble_eq_true rfl) ?_
  intro p e R s m below meth c ls hRf hRl hRc hRs hC hW hE hl
  obtain ⟨hx, hb, hml, hr, hown, hts, hlk⟩ := id hC
  have hX := hW.1
  have hK := hW.2.1
  have hS : va_S (xw_A o s.heap.size) s.heap s.heap [] := va_S.rf
  have hl : lv_has ls 4 [(0, .ref o), (1, .ref (o + 36 + 3 * i0))] := hl
  refine lv_aload_n hx hb d_X_showOthers_0 rfl (lv_at hl 0 rfl) ?_
  obtain ⟨v9, hXo, hXl⟩ := hX.1
  refine gf_X_X_accounts hx hb hts hown hK hXo rfl d_X_showOthers_1 ?_
  refine lv_aload_n hx hb d_X_showOthers_4 rfl (lv_at hl 1 rfl) ?_
  refine gf_X_C_account hx hb hts hown hK (hX.2.2.2.2.2.1 i0 hi0) rfl d_X_showOthers_5 ?_
  refine xb_aald (v := o + 3 + 4 * (xs_ix ((xs_cn σ i0).2.1))) hx hb hK 0 rfl hX.2.1 hvac rfl d_X_showOthers_8 ?_
  refine lv_astore_n (lv' := [(2, .ref (o + 3 + 4 * (xs_ix ((xs_cn σ i0).2.1)))), (0, .ref o), (1, .ref (o + 36 + 3 * i0))]) hx hb d_X_showOthers_9 rfl hl (by decide) rfl (fun ls hl => ?_)
  refine lv_iconst (v := 0) hx hb d_X_showOthers_10 (by decide) ?_
  refine lv_istore_n (lv' := [(3, .int 0), (2, .ref (o + 3 + 4 * (xs_ix ((xs_cn σ i0).2.1)))), (0, .ref o), (1, .ref (o + 36 + 3 * i0))]) hx hb d_X_showOthers_11 rfl hl (by decide) rfl (fun ls hl => ?_)
  have loop : ∀ (n i : Nat) (τ : xs_S) (H : Heap) (locs : List Loc) (cells slots : Nat) (ls : Array Slot), i + n = 8 → xw_R g B o τ H → va_S (xw_A o s.heap.size) s.heap H locs → cells + n * 6 ≤ 48 → slots + n * 36 ≤ 288 → lv_has ls 4 [(3, .int (nI i)), (2, .ref (o + 3 + 4 * (xs_ix ((xs_cn σ i0).2.1)))), (0, .ref o), (1, .ref (o + 36 + 3 * i0))] → xm_so n i τ (xs_ix (xs_cn σ i0).2.1) i0 = xm_so 8 0 σ (xs_ix (xs_cn σ i0).2.1) i0 → W p l e R s m ([.ref o, .ref (o + 36 + 3 * i0)] : List Value).toArray below meth c H locs cells slots (MQ below (xb_V (fun t => xw_W g B o lim (xm_so 8 0 σ (xs_ix (xs_cn σ i0).2.1) i0) t) (xw_A o s.heap.size)) ([.ref o, .ref (o + 36 + 3 * i0)] : List Value).toArray s 48 288 (xw_A o s.heap.size)) (F0 m 12 ls []) := by
    intro n
    induction n with
    | zero =>
      intro i τ H locs cells slots ls hi hX hS  hc hs hl hres 
      obtain rfl : i = 8 := by omega
      refine lv_iload_n hx hb d_X_showOthers_12 rfl (lv_at hl 0 rfl) ?_
      refine lv_bipush (v := 8) hx hb d_X_showOthers_13 (by decide) ?_
      refine lv_icmp_ge (tgt := 51) hx hb d_X_showOthers_15 (by decide) (fun c_1 => ?_) (fun c_1 => absurd (nI_le (Nat.le_refl 8) (by decide)) c_1)
      exact xr_V (τ := xm_so 8 0 σ (xs_ix (xs_cn σ i0).2.1) i0) hC hW hX hS (by omega) (by omega) hres d_X_showOthers_51
    | succ n ih =>
      intro i τ H locs cells slots ls hi hX hS  hc hs hl hres 
      refine lv_iload_n hx hb d_X_showOthers_12 rfl (lv_at hl 0 rfl) ?_
      refine lv_bipush (v := 8) hx hb d_X_showOthers_13 (by decide) ?_
      refine lv_icmp_ge (tgt := 51) hx hb d_X_showOthers_15 (by decide) (fun c_2 => absurd c_2 (nI_ge (show i < 8 by omega) (by decide))) (fun c_2 => ?_)
      refine lv_aload_n hx hb d_X_showOthers_18 rfl (lv_at hl 1 rfl) ?_
      refine lv_iload_n hx hb d_X_showOthers_19 rfl (lv_at hl 0 rfl) ?_
      refine lv_iconst (v := 1) hx hb d_X_showOthers_20 (by decide) ?_
      refine xk_iQ (rest := []) (c_A_hasAny l g B o lim τ (xs_ix ((xs_cn σ i0).2.1)) (xs_ixl hvac) (nI i) i (vp_in_nI (show i < 8 by omega) (by decide)) (nI_clamp (by omega)) 1) gd_X_A_hasAny hd_A_hasAny hC hW hX hS (xb_recv hK (ci := xi_A) rfl (hX.2.2.2.1 (xs_ix ((xs_cn σ i0).2.1)) (xs_ixl hvac))) trivial (by omega) (by omega) (by omega) (by omega) hl.1 rfl (Nat.le_of_ble_eq_true rfl) d_X_showOthers_21 (fun v8 H locs hv hX hS hF => ?_)
      obtain rfl := hv
      refine lv_if_eq (tgt := 45) hx hb d_X_showOthers_24 (by decide) (fun c_3 => ?_) (fun c_3 => ?_)
      · have c_3 := xs_b0 c_3
        refine lv_iinc (v := nI (i + 1)) (lv' := [(3, .int (nI (i + 1))), (2, .ref (o + 3 + 4 * (xs_ix ((xs_cn σ i0).2.1)))), (0, .ref o), (1, .ref (o + 36 + 3 * i0))]) hx hb d_X_showOthers_45 hl (k := 0) rfl (nI_1 _) (by decide) rfl (fun ls hl => ?_)
        refine lv_goto (tgt := 12) hx hb d_X_showOthers_48 (by decide) ?_
        exact ih (i + 1) τ _ _ _ _ ls (by omega) hX hS  (by omega) (by omega) (lv_sub hl [0, 1, 2, 3] rfl) (by rw [← hres]; simp only [xm_so, c_3, if_true, if_false, reduceIte, Bool.false_eq_true, Bool.true_eq_false, and_true, true_and, and_false, false_and, or_true, true_or, or_false, false_or, not_true_eq_false, not_false_eq_true] <;> rfl) 
      · have c_3 := xs_b1 c_3
        refine lv_aload_n hx hb d_X_showOthers_27 rfl (lv_at hl 2 rfl) ?_
        refine lv_aload_n hx hb d_X_showOthers_28 rfl (lv_at hl 3 rfl) ?_
        refine gf_X_C_account hx hb hts hown hK (hX.2.2.2.2.2.1 i0 hi0) rfl d_X_showOthers_29 ?_
        refine lv_iload_n hx hb d_X_showOthers_32 rfl (lv_at hl 0 rfl) ?_
        obtain ⟨v9, hXo, hXl⟩ := hX.1
        refine xk_iQ (rest := []) (c_X_canReach l g B o lim τ ((xs_cn τ i0).2.1) (nI i)) gd_X_X_canReach hd_X_canReach hC hW hX hS (xb_recv hK (ci := xi_X) rfl hXo) trivial (by omega) (by omega) (by omega) (by omega) hl.1 rfl (Nat.le_of_ble_eq_true rfl) d_X_showOthers_33 (fun v8 H locs hv hX hS hF => ?_)
        obtain rfl := hv
        refine lv_if_eq (tgt := 45) hx hb d_X_showOthers_36 (by decide) (fun c_4 => ?_) (fun c_4 => ?_)
        · have c_4 := xs_b0 c_4
          refine lv_iinc (v := nI (i + 1)) (lv' := [(3, .int (nI (i + 1))), (2, .ref (o + 3 + 4 * (xs_ix ((xs_cn σ i0).2.1)))), (0, .ref o), (1, .ref (o + 36 + 3 * i0))]) hx hb d_X_showOthers_45 hl (k := 0) rfl (nI_1 _) (by decide) rfl (fun ls hl => ?_)
          refine lv_goto (tgt := 12) hx hb d_X_showOthers_48 (by decide) ?_
          exact ih (i + 1) τ _ _ _ _ ls (by omega) hX hS  (by omega) (by omega) (lv_sub hl [0, 1, 2, 3] rfl) (by rw [← hres]; simp only [xm_so, c_3, c_4, if_true, if_false, reduceIte, Bool.false_eq_true, Bool.true_eq_false, and_true, true_and, and_false, false_and, or_true, true_or, or_false, false_or, not_true_eq_false, not_false_eq_true] <;> rfl) 
        · have c_4 := xs_b1 c_4
          refine lv_aload_n hx hb d_X_showOthers_39 rfl (lv_at hl 2 rfl) ?_
          refine lv_iload_n hx hb d_X_showOthers_40 rfl (lv_at hl 0 rfl) ?_
          refine lv_aload_n hx hb d_X_showOthers_41 rfl (lv_at hl 3 rfl) ?_
          obtain ⟨v9, hXo, hXl⟩ := hX.1
          refine xk_iV (rest := []) (c_X_showConnectionsOf l g B o lim τ (nI i) i0 hi0) gd_X_X_showConnectionsOf hd_X_showConnectionsOf hC hW hX hS (xb_recv hK (ci := xi_X) rfl hXo) trivial (by omega) (by omega) (by omega) (by omega) hl.1 rfl (Nat.le_of_ble_eq_true rfl) d_X_showOthers_42 (fun H locs hX hS hF => ?_)
          refine lv_iinc (v := nI (i + 1)) (lv' := [(3, .int (nI (i + 1))), (2, .ref (o + 3 + 4 * (xs_ix ((xs_cn σ i0).2.1)))), (0, .ref o), (1, .ref (o + 36 + 3 * i0))]) hx hb d_X_showOthers_45 hl (k := 0) rfl (nI_1 _) (by decide) rfl (fun ls hl => ?_)
          refine lv_goto (tgt := 12) hx hb d_X_showOthers_48 (by decide) ?_
          exact ih (i + 1) (xm_sco 6 0 τ (nI i) i0) _ _ _ _ ls (by omega) hX hS  (by omega) (by omega) (lv_sub hl [0, 1, 2, 3] rfl) (by rw [← hres]; simp only [xm_so, c_3, c_4, if_true, if_false, reduceIte, Bool.false_eq_true, Bool.true_eq_false, and_true, true_and, and_false, false_and, or_true, true_or, or_false, false_or, not_true_eq_false, not_false_eq_true] <;> rfl) 
  exact loop 8 0 σ _ _ _ _ ls (by omega) hX hS  (by omega) (by omega) (lv_sub hl [0, 1, 2, 3] rfl) rfl 
set_option maxHeartbeats 4000000 in
set_option maxRecDepth 100000 in
theorem c_X_handOverKept (l : Launch) (g : xw_G) (B : Nat → Prop) (o lim : Nat) (σ : xs_S) (i0 : Nat) (hi0 : i0 < 6) (hvac : vp_in (xs_cn σ i0).2.1 8) : xc_V l y_X_handOverKept (Cond.code y_X_handOverKept b_X_handOverKept 5 none) g B o lim σ (xm_hk (xs_q σ (xs_ix (xs_cn σ i0).2.1)).length σ (xs_ix (xs_cn σ i0).2.1) i0) [.ref o, .ref (o + 36 + 3 * i0)] (fun _ => True) 1 22 0 0 := by
  refine xh_V (own := R_X) (by decide) rfl (Nat.le_of_ble_eq_true rfl) ?_
  intro p e R s m below meth c ls hRf hRl hRc hRs hC hW hE hl
  obtain ⟨hx, hb, hml, hr, hown, hts, hlk⟩ := id hC
  have hX := hW.1
  have hK := hW.2.1
  have hS : va_S (xw_A o s.heap.size) s.heap s.heap [] := va_S.rf
  have hl : lv_has ls 5 [(0, .ref o), (1, .ref (o + 36 + 3 * i0))] := hl
  have hN31 : (xs_q σ (xs_ix (xs_cn σ i0).2.1)).length < 2 ^ 31 := by obtain ⟨f9, hq9, hl9, hz9⟩ := hX.2.2.2.2.2.2.1 _ (Nat.lt_of_lt_of_le (xs_ixl hvac) (by decide)); exact Nat.lt_of_le_of_lt (Nat.le_trans hl9 (xs_rml _)) (by decide)
  refine lv_aload_n hx hb d_X_handOverKept_0 rfl (lv_at hl 0 rfl) ?_
  obtain ⟨v9, hXo, hXl⟩ := hX.1
  refine gf_X_X_accounts hx hb hts hown hK hXo rfl d_X_handOverKept_1 ?_
  refine lv_aload_n hx hb d_X_handOverKept_4 rfl (lv_at hl 1 rfl) ?_
  refine gf_X_C_account hx hb hts hown hK (hX.2.2.2.2.2.1 i0 hi0) rfl d_X_handOverKept_5 ?_
  refine xb_aald (v := o + 3 + 4 * (xs_ix ((xs_cn σ i0).2.1))) hx hb hK 0 rfl hX.2.1 hvac rfl d_X_handOverKept_8 ?_
  refine gf_X_A_kept hx hb hts hown hK (hX.2.2.2.1 (xs_ix ((xs_cn σ i0).2.1)) (xs_ixl hvac)) rfl d_X_handOverKept_9 ?_
  refine lv_astore_n (lv' := [(2, .ref (o + xs_qo (xs_ix ((xs_cn σ i0).2.1)))), (0, .ref o), (1, .ref (o + 36 + 3 * i0))]) hx hb d_X_handOverKept_12 rfl hl (by decide) rfl (fun ls hl => ?_)
  refine lv_aload_n hx hb d_X_handOverKept_13 rfl (lv_at hl 0 rfl) ?_
  obtain ⟨f9, hq9, hl9, hz9⟩ := hX.2.2.2.2.2.2.1 (xs_ix ((xs_cn σ i0).2.1)) (Nat.lt_of_lt_of_le (xs_ixl hvac) (by decide))
  refine gf_X_Q_size hx hb hts hown hK hq9.1 rfl d_X_handOverKept_14 ?_
  refine lv_istore_n (lv' := [(3, .int (nI (xs_q σ (xs_ix ((xs_cn σ i0).2.1))).length)), (2, .ref (o + xs_qo (xs_ix ((xs_cn σ i0).2.1)))), (0, .ref o), (1, .ref (o + 36 + 3 * i0))]) hx hb d_X_handOverKept_17 rfl hl (by decide) rfl (fun ls hl => ?_)
  refine lv_iconst (v := 0) hx hb d_X_handOverKept_18 (by decide) ?_
  refine lv_istore (lv' := [(4, .int 0), (3, .int (nI (xs_q σ (xs_ix ((xs_cn σ i0).2.1))).length)), (2, .ref (o + xs_qo (xs_ix ((xs_cn σ i0).2.1)))), (0, .ref o), (1, .ref (o + 36 + 3 * i0))]) hx hb d_X_handOverKept_19 hl (by decide) rfl (fun ls hl => ?_)
  have loop : ∀ (n i : Nat) (τ : xs_S) (H : Heap) (locs : List Loc) (cells slots : Nat) (ls : Array Slot), i + n = (xs_q σ (xs_ix (xs_cn σ i0).2.1)).length → xw_R g B o τ H → va_S (xw_A o s.heap.size) s.heap H locs → cells + n * 0 ≤ 0 → slots + n * 0 ≤ 0 → lv_has ls 5 [(4, .int (nI i)), (3, .int (nI (xs_q σ (xs_ix ((xs_cn σ i0).2.1))).length)), (2, .ref (o + xs_qo (xs_ix ((xs_cn σ i0).2.1)))), (0, .ref o), (1, .ref (o + 36 + 3 * i0))] → xm_hk n τ (xs_ix (xs_cn σ i0).2.1) i0 = xm_hk (xs_q σ (xs_ix (xs_cn σ i0).2.1)).length σ (xs_ix (xs_cn σ i0).2.1) i0 → (xs_q τ (xs_ix (xs_cn σ i0).2.1)).length = n → W p l e R s m ([.ref o, .ref (o + 36 + 3 * i0)] : List Value).toArray below meth c H locs cells slots (MQ below (xb_V (fun t => xw_W g B o lim (xm_hk (xs_q σ (xs_ix (xs_cn σ i0).2.1)).length σ (xs_ix (xs_cn σ i0).2.1) i0) t) (xw_A o s.heap.size)) ([.ref o, .ref (o + 36 + 3 * i0)] : List Value).toArray s 0 0 (xw_A o s.heap.size)) (F0 m 21 ls []) := by
    intro n
    induction n with
    | zero =>
      intro i τ H locs cells slots ls hi hX hS  hc hs hl hres hln
      obtain rfl : i = (xs_q σ (xs_ix (xs_cn σ i0).2.1)).length := by omega
      refine lv_iload hx hb d_X_handOverKept_21 (lv_at hl 0 rfl) ?_
      refine lv_iload_n hx hb d_X_handOverKept_23 rfl (lv_at hl 1 rfl) ?_
      refine lv_icmp_ge (tgt := 44) hx hb d_X_handOverKept_24 (by decide) (fun c_1 => ?_) (fun c_1 => absurd (nI_le (Nat.le_refl ((xs_q σ (xs_ix (xs_cn σ i0).2.1)).length)) hN31) c_1)
      exact xr_V (τ := xm_hk (xs_q σ (xs_ix (xs_cn σ i0).2.1)).length σ (xs_ix (xs_cn σ i0).2.1) i0) hC hW hX hS (by omega) (by omega) hres d_X_handOverKept_44
    | succ n ih =>
      intro i τ H locs cells slots ls hi hX hS  hc hs hl hres hln
      refine lv_iload hx hb d_X_handOverKept_21 (lv_at hl 0 rfl) ?_
      refine lv_iload_n hx hb d_X_handOverKept_23 rfl (lv_at hl 1 rfl) ?_
      refine lv_icmp_ge (tgt := 44) hx hb d_X_handOverKept_24 (by decide) (fun c_2 => absurd c_2 (nI_ge (show i < (xs_q σ (xs_ix (xs_cn σ i0).2.1)).length by omega) hN31)) (fun c_2 => ?_)
      refine lv_aload_n hx hb d_X_handOverKept_27 rfl (lv_at hl 4 rfl) ?_
      refine gf_X_C_inbox hx hb hts hown hK (hX.2.2.2.2.2.1 i0 hi0) rfl d_X_handOverKept_28 ?_
      refine lv_aload_n hx hb d_X_handOverKept_31 rfl (lv_at hl 2 rfl) ?_
      have hne : ∃ z t, xs_q τ (xs_ix (xs_cn σ i0).2.1) = z :: t := xm_ne hln
      obtain ⟨f9, hq9, hl9, hz9⟩ := hX.2.2.2.2.2.2.1 (xs_ix ((xs_cn σ i0).2.1)) (Nat.lt_of_lt_of_le (xs_ixl hvac) (by decide))
      refine xk_iQ (rest := [.ref (o + xs_qo (8 + i0))]) (c_Q_removeFirst l g B o lim τ (xs_ix ((xs_cn σ i0).2.1)) (Nat.lt_of_lt_of_le (xs_ixl hvac) (by decide)) hne) gd_X_Q_removeFirst hd_Q_removeFirst hC hW hX hS (xb_recv hK (ci := xi_Q) rfl hq9.1) trivial (by omega) (by omega) (by omega) (by omega) hl.1 rfl (Nat.le_of_ble_eq_true rfl) d_X_handOverKept_32 (fun v8 H locs hv hX hS hF => ?_)
      obtain ⟨b9, rfl, hz_3⟩ := hv
      obtain ⟨f9, hq9, hl9, hz9⟩ := hX.2.2.2.2.2.2.1 (8 + i0) (xs_8 hi0)
      refine xk_iV (rest := []) (c_Q_add l g B o lim (xm_pop τ (xs_ix ((xs_cn σ i0).2.1))) (8 + i0) (xs_8 hi0) b9 ((xs_q τ (xs_ix ((xs_cn σ i0).2.1))).headD xs_z0)) gd_X_Q_add hd_Q_add hC hW hX hS (xb_recv hK (ci := xi_Q) rfl hq9.1) hz_3 (by omega) (by omega) (by omega) (by omega) hl.1 rfl (Nat.le_of_ble_eq_true rfl) d_X_handOverKept_35 (fun H locs hX hS hF => ?_)
      have hz_3 := hz_3.F hX.2.2.2.2.2.2.2.1 hF
      refine lv_iinc (v := nI (i + 1)) (lv' := [(4, .int (nI (i + 1))), (3, .int (nI (xs_q σ (xs_ix ((xs_cn σ i0).2.1))).length)), (2, .ref (o + xs_qo (xs_ix ((xs_cn σ i0).2.1)))), (0, .ref o), (1, .ref (o + 36 + 3 * i0))]) hx hb d_X_handOverKept_38 hl (k := 0) rfl (nI_1 _) (by decide) rfl (fun ls hl => ?_)
      refine lv_goto (tgt := 21) hx hb d_X_handOverKept_41 (by decide) ?_
      exact ih (i + 1) (xm_add (xm_pop τ (xs_ix ((xs_cn σ i0).2.1))) (8 + i0) ((xs_q τ (xs_ix ((xs_cn σ i0).2.1))).headD xs_z0)) _ _ _ _ ls (by omega) hX hS  (by omega) (by omega) (lv_sub hl [0, 1, 2, 3, 4] rfl) (by rw [← hres]; simp only [xm_hk, if_true, if_false, reduceIte, Bool.false_eq_true, Bool.true_eq_false, and_true, true_and, and_false, false_and, or_true, true_or, or_false, false_or, not_true_eq_false, not_false_eq_true] <;> rfl) (by have := xs_ixl hvac; rw [xm_q_add_ne (by omega), xm_q_pop, List.length_tail, hln]; rfl)
  exact loop ((xs_q σ (xs_ix (xs_cn σ i0).2.1)).length) 0 σ _ _ _ _ ls (by omega) hX hS  (by omega) (by omega) (lv_sub hl [0, 1, 2, 3, 4] rfl) rfl rfl
set_option maxHeartbeats 4000000 in
set_option maxRecDepth 100000 in
theorem c_X_changeOwnMarks (l : Launch) (g : xw_G) (B : Nat → Prop) (o lim : Nat) (σ : xs_S) (i : Nat) (hi : i < 8) (y : Int32) (j : Nat) (hvy : vp_in y 8) (hj : xs_ix y = j) (x : Int32) : xc_V l y_X_changeOwnMarks (Cond.code y_X_changeOwnMarks b_X_changeOwnMarks 3 none) g B o lim σ (xm_com σ i j x) [.ref (o + 3 + 4 * i), .int y, .int x] (fun _ => True) 1 22 0 0 := by
  refine xh_V (own := R_X) (by decide) rfl (Nat.le_of_ble_eq_true rfl) ?_
  intro p e R s m below meth c ls hRf hRl hRc hRs hC hW hE hl
  obtain ⟨hx, hb, hml, hr, hown, hts, hlk⟩ := id hC
  have hX := hW.1
  have hK := hW.2.1
  have hS : va_S (xw_A o s.heap.size) s.heap s.heap [] := va_S.rf
  have hl : lv_has ls 3 [(0, .ref (o + 3 + 4 * i)), (1, .int y), (2, .int x)] := hl
  refine lv_iload_n hx hb d_X_changeOwnMarks_0 rfl (lv_at hl 2 rfl) ?_
  by_cases c_1 : x = 4
  · refine lv_tableIn (tgt := 32) (off := 31) hx hb d_X_changeOwnMarks_1 (by rw [c_1]; decide) (by rw [c_1]; decide) (by rw [c_1]; rfl) (by decide) ?_
    refine lv_aload_n hx hb d_X_changeOwnMarks_32 rfl (lv_at hl 0 rfl) ?_
    refine lv_iload_n hx hb d_X_changeOwnMarks_33 rfl (lv_at hl 1 rfl) ?_
    refine lv_iconst (v := 1) hx hb d_X_changeOwnMarks_34 (by decide) ?_
    refine xk_iQ (rest := []) (c_A_hasAny l g B o lim σ i hi y j hvy hj 1) gd_X_A_hasAny hd_A_hasAny hC hW hX hS (xb_recv hK (ci := xi_A) rfl (hX.2.2.2.1 i hi)) trivial (by omega) (by omega) (by omega) (by omega) hl.1 rfl (Nat.le_of_ble_eq_true rfl) d_X_changeOwnMarks_35 (fun v8 H locs hv hX hS hF => ?_)
    obtain rfl := hv
    refine lv_if_ne (tgt := 85) hx hb d_X_changeOwnMarks_38 (by decide) (fun c_2 => ?_) (fun c_2 => ?_)
    · have c_2 := xs_b1 c_2
      exact xr_V (τ := xm_com σ i j x) hC hW hX hS (by omega) (by omega) (by simp only [xm_com, c_1, c_2, if_true, if_false, reduceIte, Bool.false_eq_true, Bool.true_eq_false, and_true, true_and, and_false, false_and, or_true, true_or, or_false, false_or, not_true_eq_false, not_false_eq_true] <;> rfl) d_X_changeOwnMarks_85
    · have c_2 := xs_b0 c_2
      refine lv_aload_n hx hb d_X_changeOwnMarks_41 rfl (lv_at hl 0 rfl) ?_
      refine lv_iload_n hx hb d_X_changeOwnMarks_42 rfl (lv_at hl 1 rfl) ?_
      refine lv_iconst (v := 4) hx hb d_X_changeOwnMarks_43 (by decide) ?_
      refine xk_iV (rest := []) (c_A_addMark l g B o lim σ i hi y j hvy hj 4) gd_X_A_addMark hd_A_addMark hC hW hX hS (xb_recv hK (ci := xi_A) rfl (hX.2.2.2.1 i hi)) trivial (by omega) (by omega) (by omega) (by omega) hl.1 rfl (Nat.le_of_ble_eq_true rfl) d_X_changeOwnMarks_44 (fun H locs hX hS hF => ?_)
      refine lv_goto (tgt := 85) hx hb d_X_changeOwnMarks_47 (by decide) ?_
      exact xr_V (τ := xm_com σ i j x) hC hW hX hS (by omega) (by omega) (by simp only [xm_com, c_1, c_2, if_true, if_false, reduceIte, Bool.false_eq_true, Bool.true_eq_false, and_true, true_and, and_false, false_and, or_true, true_or, or_false, false_or, not_true_eq_false, not_false_eq_true] <;> rfl) d_X_changeOwnMarks_85
  by_cases c_3 : x = 5
  · refine lv_tableIn (tgt := 50) (off := 49) hx hb d_X_changeOwnMarks_1 (by rw [c_3]; decide) (by rw [c_3]; decide) (by rw [c_3]; rfl) (by decide) ?_
    refine lv_aload_n hx hb d_X_changeOwnMarks_50 rfl (lv_at hl 0 rfl) ?_
    refine lv_iload_n hx hb d_X_changeOwnMarks_51 rfl (lv_at hl 1 rfl) ?_
    refine lv_iconst (v := 2) hx hb d_X_changeOwnMarks_52 (by decide) ?_
    refine xk_iV (rest := []) (c_A_addMark l g B o lim σ i hi y j hvy hj 2) gd_X_A_addMark hd_A_addMark hC hW hX hS (xb_recv hK (ci := xi_A) rfl (hX.2.2.2.1 i hi)) trivial (by omega) (by omega) (by omega) (by omega) hl.1 rfl (Nat.le_of_ble_eq_true rfl) d_X_changeOwnMarks_53 (fun H locs hX hS hF => ?_)
    refine lv_aload_n hx hb d_X_changeOwnMarks_56 rfl (lv_at hl 0 rfl) ?_
    refine lv_iload_n hx hb d_X_changeOwnMarks_57 rfl (lv_at hl 1 rfl) ?_
    refine lv_bipush (v := 8) hx hb d_X_changeOwnMarks_58 (by decide) ?_
    refine xk_iV (rest := []) (c_A_dropMarks l g B o lim (xm_mark σ i j 2) i hi y j hvy hj 8) gd_X_A_dropMarks hd_A_dropMarks hC hW hX hS (xb_recv hK (ci := xi_A) rfl (hX.2.2.2.1 i hi)) trivial (by omega) (by omega) (by omega) (by omega) hl.1 rfl (Nat.le_of_ble_eq_true rfl) d_X_changeOwnMarks_60 (fun H locs hX hS hF => ?_)
    refine lv_goto (tgt := 85) hx hb d_X_changeOwnMarks_63 (by decide) ?_
    exact xr_V (τ := xm_com σ i j x) hC hW hX hS (by omega) (by omega) (by simp only [xm_com, c_1, c_3, if_true, if_false, reduceIte, Bool.false_eq_true, Bool.true_eq_false, and_true, true_and, and_false, false_and, or_true, true_or, or_false, false_or, not_true_eq_false, not_false_eq_true] <;> rfl) d_X_changeOwnMarks_85
  by_cases c_4 : x = 6
  · refine lv_tableIn (tgt := 66) (off := 65) hx hb d_X_changeOwnMarks_1 (by rw [c_4]; decide) (by rw [c_4]; decide) (by rw [c_4]; rfl) (by decide) ?_
    refine lv_aload_n hx hb d_X_changeOwnMarks_66 rfl (lv_at hl 0 rfl) ?_
    refine lv_iload_n hx hb d_X_changeOwnMarks_67 rfl (lv_at hl 1 rfl) ?_
    refine lv_iconst (v := 5) hx hb d_X_changeOwnMarks_68 (by decide) ?_
    refine xk_iV (rest := []) (c_A_dropMarks l g B o lim σ i hi y j hvy hj 5) gd_X_A_dropMarks hd_A_dropMarks hC hW hX hS (xb_recv hK (ci := xi_A) rfl (hX.2.2.2.1 i hi)) trivial (by omega) (by omega) (by omega) (by omega) hl.1 rfl (Nat.le_of_ble_eq_true rfl) d_X_changeOwnMarks_69 (fun H locs hX hS hF => ?_)
    refine lv_goto (tgt := 85) hx hb d_X_changeOwnMarks_72 (by decide) ?_
    exact xr_V (τ := xm_com σ i j x) hC hW hX hS (by omega) (by omega) (by simp only [xm_com, c_1, c_3, c_4, if_true, if_false, reduceIte, Bool.false_eq_true, Bool.true_eq_false, and_true, true_and, and_false, false_and, or_true, true_or, or_false, false_or, not_true_eq_false, not_false_eq_true] <;> rfl) d_X_changeOwnMarks_85
  by_cases c_5 : x = 7
  · refine lv_tableIn (tgt := 75) (off := 74) hx hb d_X_changeOwnMarks_1 (by rw [c_5]; decide) (by rw [c_5]; decide) (by rw [c_5]; rfl) (by decide) ?_
    refine lv_aload_n hx hb d_X_changeOwnMarks_75 rfl (lv_at hl 0 rfl) ?_
    refine lv_iload_n hx hb d_X_changeOwnMarks_76 rfl (lv_at hl 1 rfl) ?_
    refine lv_bipush (v := 10) hx hb d_X_changeOwnMarks_77 (by decide) ?_
    refine xk_iV (rest := []) (c_A_dropMarks l g B o lim σ i hi y j hvy hj 10) gd_X_A_dropMarks hd_A_dropMarks hC hW hX hS (xb_recv hK (ci := xi_A) rfl (hX.2.2.2.1 i hi)) trivial (by omega) (by omega) (by omega) (by omega) hl.1 rfl (Nat.le_of_ble_eq_true rfl) d_X_changeOwnMarks_79 (fun H locs hX hS hF => ?_)
    refine lv_goto (tgt := 85) hx hb d_X_changeOwnMarks_82 (by decide) ?_
    exact xr_V (τ := xm_com σ i j x) hC hW hX hS (by omega) (by omega) (by simp only [xm_com, c_1, c_3, c_4, c_5, if_true, if_false, reduceIte, Bool.false_eq_true, Bool.true_eq_false, and_true, true_and, and_false, false_and, or_true, true_or, or_false, false_or, not_true_eq_false, not_false_eq_true] <;> rfl) d_X_changeOwnMarks_85
  refine lv_tableOut (tgt := 85) hx hb d_X_changeOwnMarks_1 (by have q0 := lv_neT c_1 (a := 4) rfl; have q1 := lv_neT c_3 (a := 5) rfl; have q2 := lv_neT c_4 (a := 6) rfl; have q3 := lv_neT c_5 (a := 7) rfl; omega) (by decide) ?_
  exact xr_V (τ := xm_com σ i j x) hC hW hX hS (by omega) (by omega) (by simp only [xm_com, c_1, c_3, c_4, c_5, if_true, if_false, reduceIte, Bool.false_eq_true, Bool.true_eq_false, and_true, true_and, and_false, false_and, or_true, true_or, or_false, false_or, not_true_eq_false, not_false_eq_true] <;> rfl) d_X_changeOwnMarks_85
set_option maxHeartbeats 4000000 in
set_option maxRecDepth 100000 in
theorem c_X_shut (l : Launch) (g : xw_G) (B : Nat → Prop) (o lim : Nat) (σ : xs_S) (i : Nat) (hi : i < 6) (hvac : (xs_cn σ i).2.2.2.2.2 = true → vp_in (xs_cn σ i).2.1 8) : xc_V l y_X_shut (Cond.code y_X_shut b_X_shut 2 none) g B o lim σ (xm_shut σ i) [.ref o, .ref (o + 36 + 3 * i)] (fun _ => True) 7 157 16 96 := by
  refine xh_V (own := R_X) (by decide) rfl (Nat.le_of_ble_eq_true rfl) ?_
  intro p e R s m below meth c ls hRf hRl hRc hRs hC hW hE hl
  obtain ⟨hx, hb, hml, hr, hown, hts, hlk⟩ := id hC
  have hX := hW.1
  have hK := hW.2.1
  have hS : va_S (xw_A o s.heap.size) s.heap s.heap [] := va_S.rf
  have hl : lv_has ls 2 [(0, .ref o), (1, .ref (o + 36 + 3 * i))] := hl
  refine lv_aload_n hx hb d_X_shut_0 rfl (lv_at hl 1 rfl) ?_
  refine gf_X_C_available hx hb hts hown hK (hX.2.2.2.2.2.1 i hi) rfl d_X_shut_1 ?_
  refine lv_if_eq (tgt := 18) hx hb d_X_shut_4 (by decide) (fun c_1 => ?_) (fun c_1 => ?_)
  · have c_1 := xs_b0 c_1
    refine lv_aload_n hx hb d_X_shut_18 rfl (lv_at hl 1 rfl) ?_
    refine lv_iconst (v := 0) hx hb d_X_shut_19 (by decide) ?_
    refine pf_X_C_stage hx hb hts hown hK hX hS hi d_X_shut_20 (fun H locs hX hS hF => ?_)
    refine lv_aload_n hx hb d_X_shut_23 rfl (lv_at hl 1 rfl) ?_
    refine lv_iconst (v := (-1)) hx hb d_X_shut_24 (by decide) ?_
    refine pf_X_C_account hx hb hts hown hK hX hS hi d_X_shut_25 (fun H locs hX hS hF => ?_)
    refine lv_aload_n hx hb d_X_shut_28 rfl (lv_at hl 1 rfl) ?_
    refine lv_iconst (v := (-1)) hx hb d_X_shut_29 (by decide) ?_
    refine pf_X_C_resource hx hb hts hown hK hX hS hi d_X_shut_30 (fun H locs hX hS hF => ?_)
    exact xr_V (τ := xm_shut σ i) hC hW hX hS (by omega) (by omega) (by simp only [xm_shut, xm_quiet, xm_sav_ac, c_1, if_true, if_false, reduceIte, Bool.false_eq_true, Bool.true_eq_false, and_true, true_and, and_false, false_and, or_true, true_or, or_false, false_or, not_true_eq_false, not_false_eq_true] <;> rfl) d_X_shut_33
  · have c_1 := xs_b1 c_1
    refine lv_aload_n hx hb d_X_shut_7 rfl (lv_at hl 1 rfl) ?_
    refine lv_iconst (v := 0) hx hb d_X_shut_8 (by decide) ?_
    refine pf_X_C_available (b := false) hx hb hts hown hK hX hS hi d_X_shut_9 (fun H locs hX hS hF => ?_)
    refine lv_aload_n hx hb d_X_shut_12 rfl (lv_at hl 0 rfl) ?_
    refine lv_aload_n hx hb d_X_shut_13 rfl (lv_at hl 1 rfl) ?_
    refine lv_iconst (v := 3) hx hb d_X_shut_14 (by decide) ?_
    obtain ⟨v9, hXo, hXl⟩ := hX.1
    refine xk_iV (rest := []) (c_X_sendToWatchers l g B o lim (xm_sav σ i false) i hi 3 (by rw [xm_sav_ac]; exact hvac c_1)) gd_X_X_sendToWatchers hd_X_sendToWatchers hC hW hX hS (xb_recv hK (ci := xi_X) rfl hXo) trivial (by omega) (by omega) (by omega) (by omega) hl.1 rfl (Nat.le_of_ble_eq_true rfl) d_X_shut_15 (fun H locs hX hS hF => ?_)
    refine lv_aload_n hx hb d_X_shut_18 rfl (lv_at hl 1 rfl) ?_
    refine lv_iconst (v := 0) hx hb d_X_shut_19 (by decide) ?_
    refine pf_X_C_stage hx hb hts hown hK hX hS hi d_X_shut_20 (fun H locs hX hS hF => ?_)
    refine lv_aload_n hx hb d_X_shut_23 rfl (lv_at hl 1 rfl) ?_
    refine lv_iconst (v := (-1)) hx hb d_X_shut_24 (by decide) ?_
    refine pf_X_C_account hx hb hts hown hK hX hS hi d_X_shut_25 (fun H locs hX hS hF => ?_)
    refine lv_aload_n hx hb d_X_shut_28 rfl (lv_at hl 1 rfl) ?_
    refine lv_iconst (v := (-1)) hx hb d_X_shut_29 (by decide) ?_
    refine pf_X_C_resource hx hb hts hown hK hX hS hi d_X_shut_30 (fun H locs hX hS hF => ?_)
    exact xr_V (τ := xm_shut σ i) hC hW hX hS (by omega) (by omega) (by simp only [xm_shut, xm_quiet, xm_sav_ac, c_1, if_true, if_false, reduceIte, Bool.false_eq_true, Bool.true_eq_false, and_true, true_and, and_false, false_and, or_true, true_or, or_false, false_or, not_true_eq_false, not_false_eq_true] <;> rfl) d_X_shut_33
set_option maxHeartbeats 4000000 in
set_option maxRecDepth 100000 in
theorem c_X_keptForAll (l : Launch) (g : xw_G) (B : Nat → Prop) (o lim : Nat) (σ : xs_S) : xc_Q l y_X_keptForAll (Cond.code y_X_keptForAll b_X_keptForAll 6 (some .int)) g B o lim σ σ [.ref o] (fun _ => True) (fun v _ => v = .int (xm_kall 8 0 σ 0)) 0 0 0 0 := by
  refine xh_Q (own := R_X) (by decide) rfl (Nat.le_of_ble_eq_true rfl) ?_
  intro p e R s m below meth c ls hRf hRl hRc hRs hC hW hE hl
  obtain ⟨hx, hb, hml, hr, hown, hts, hlk⟩ := id hC
  have hX := hW.1
  have hK := hW.2.1
  have hS : va_S (xw_A o s.heap.size) s.heap s.heap [] := va_S.rf
  have hl : lv_has ls 6 [(0, .ref o)] := hl
  refine lv_iconst (v := 0) hx hb d_X_keptForAll_0 (by decide) ?_
  refine lv_istore_n (lv' := [(1, .int 0), (0, .ref o)]) hx hb d_X_keptForAll_1 rfl hl (by decide) rfl (fun ls hl => ?_)
  refine lv_aload_n hx hb d_X_keptForAll_2 rfl (lv_at hl 1 rfl) ?_
  obtain ⟨v9, hXo, hXl⟩ := hX.1
  refine gf_X_X_accounts hx hb hts hown hK hXo rfl d_X_keptForAll_3 ?_
  refine lv_astore_n (lv' := [(2, .ref (o + 2)), (1, .int 0), (0, .ref o)]) hx hb d_X_keptForAll_6 rfl hl (by decide) rfl (fun ls hl => ?_)
  refine lv_aload_n hx hb d_X_keptForAll_7 rfl (lv_at hl 0 rfl) ?_
  refine xb_alen hx hb hK 0 rfl hX.2.1 d_X_keptForAll_8 ?_
  refine lv_istore_n (lv' := [(3, .int (nI 8)), (2, .ref (o + 2)), (1, .int 0), (0, .ref o)]) hx hb d_X_keptForAll_9 rfl hl (by decide) rfl (fun ls hl => ?_)
  refine lv_iconst (v := 0) hx hb d_X_keptForAll_10 (by decide) ?_
  refine lv_istore (lv' := [(4, .int 0), (3, .int (nI 8)), (2, .ref (o + 2)), (1, .int 0), (0, .ref o)]) hx hb d_X_keptForAll_11 hl (by decide) rfl (fun ls hl => ?_)
  have loop : ∀ (n i : Nat) (g0 : Int32) (H : Heap) (locs : List Loc) (cells slots : Nat) (ls : Array Slot), i + n = 8 → xw_R g B o σ H → va_S (xw_A o s.heap.size) s.heap H locs → cells + n * 0 ≤ 0 → slots + n * 0 ≤ 0 → lv_has ls 6 [(4, .int (nI i)), (3, .int (nI 8)), (2, .ref (o + 2)), (1, .int g0), (0, .ref o)] → xm_kall n i σ g0 = xm_kall 8 0 σ 0 → W p l e R s m ([.ref o] : List Value).toArray below meth c H locs cells slots (MQ below (xb_Q (fun v t => (fun v _ => v = .int (xm_kall 8 0 σ 0)) v t.heap ∧ xw_W g B o lim σ t) (xw_A o s.heap.size)) ([.ref o] : List Value).toArray s 0 0 (xw_A o s.heap.size)) (F0 m 13 ls []) := by
    intro n
    induction n with
    | zero =>
      intro i g0 H locs cells slots ls hi hX hS  hc hs hl hres 
      obtain rfl : i = 8 := by omega
      refine lv_iload hx hb d_X_keptForAll_13 (lv_at hl 0 rfl) ?_
      refine lv_iload_n hx hb d_X_keptForAll_15 rfl (lv_at hl 1 rfl) ?_
      refine lv_icmp_ge (tgt := 42) hx hb d_X_keptForAll_16 (by decide) (fun c_1 => ?_) (fun c_1 => absurd (nI_le (Nat.le_refl 8) (by decide)) c_1)
      refine lv_iload_n hx hb d_X_keptForAll_42 rfl (lv_at hl 3 rfl) ?_
      exact xr_I (τ := σ) (val := (fun v _ => v = .int (xm_kall 8 0 σ 0))) hC hW hX hS (by omega) (by omega) rfl (by rw [← hres]; rfl) d_X_keptForAll_43
    | succ n ih =>
      intro i g0 H locs cells slots ls hi hX hS  hc hs hl hres 
      refine lv_iload hx hb d_X_keptForAll_13 (lv_at hl 0 rfl) ?_
      refine lv_iload_n hx hb d_X_keptForAll_15 rfl (lv_at hl 1 rfl) ?_
      refine lv_icmp_ge (tgt := 42) hx hb d_X_keptForAll_16 (by decide) (fun c_2 => absurd c_2 (nI_ge (show i < 8 by omega) (by decide))) (fun c_2 => ?_)
      refine lv_aload_n hx hb d_X_keptForAll_19 rfl (lv_at hl 2 rfl) ?_
      refine lv_iload hx hb d_X_keptForAll_20 (lv_at hl 0 rfl) ?_
      refine xb_aald (v := o + 3 + 4 * i) hx hb hK 0 rfl hX.2.1 (vp_in_nI (show i < 8 by omega) (by decide)) (by rw [nI_clamp (by omega)]) d_X_keptForAll_22 ?_
      refine lv_astore (lv' := [(5, .ref (o + 3 + 4 * i)), (4, .int (nI i)), (3, .int (nI 8)), (2, .ref (o + 2)), (1, .int g0), (0, .ref o)]) hx hb d_X_keptForAll_23 hl (by decide) rfl (fun ls hl => ?_)
      refine lv_iload_n hx hb d_X_keptForAll_25 rfl (lv_at hl 4 rfl) ?_
      refine lv_aload hx hb d_X_keptForAll_26 (lv_at hl 0 rfl) ?_
      refine gf_X_A_kept hx hb hts hown hK (hX.2.2.2.1 i (show i < 8 by omega)) rfl d_X_keptForAll_28 ?_
      obtain ⟨f9, hq9, hl9, hz9⟩ := hX.2.2.2.2.2.2.1 i (Nat.lt_of_lt_of_le (show i < 8 by omega) (by decide))
      refine gf_X_Q_size hx hb hts hown hK hq9.1 rfl d_X_keptForAll_31 ?_
      refine lv_iadd hx hb d_X_keptForAll_34 ?_
      refine lv_istore_n (lv' := [(1, .int (g0 + (nI (xs_q σ i).length))), (5, .ref (o + 3 + 4 * i)), (4, .int (nI i)), (3, .int (nI 8)), (2, .ref (o + 2)), (0, .ref o)]) hx hb d_X_keptForAll_35 rfl hl (by decide) rfl (fun ls hl => ?_)
      refine lv_iinc (v := nI (i + 1)) (lv' := [(4, .int (nI (i + 1))), (1, .int (g0 + (nI (xs_q σ i).length))), (5, .ref (o + 3 + 4 * i)), (3, .int (nI 8)), (2, .ref (o + 2)), (0, .ref o)]) hx hb d_X_keptForAll_36 hl (k := 2) rfl (nI_1 _) (by decide) rfl (fun ls hl => ?_)
      refine lv_goto (tgt := 13) hx hb d_X_keptForAll_39 (by decide) ?_
      exact ih (i + 1) (g0 + (nI (xs_q σ i).length)) _ _ _ _ ls (by omega) hX hS  (by omega) (by omega) (lv_sub hl [0, 3, 4, 1, 5] rfl) (by rw [← hres]; simp only [xm_kall, if_true, if_false, reduceIte, Bool.false_eq_true, Bool.true_eq_false, and_true, true_and, and_false, false_and, or_true, true_or, or_false, false_or, not_true_eq_false, not_false_eq_true] <;> rfl) 
  exact loop 8 0 0 _ _ _ _ ls (by omega) hX hS  (by omega) (by omega) (lv_sub hl [0, 1, 2, 3, 4] rfl) rfl 
set_option maxHeartbeats 4000000 in
set_option maxRecDepth 100000 in
theorem c_X_lostByAll (l : Launch) (g : xw_G) (B : Nat → Prop) (o lim : Nat) (σ : xs_S) : xc_Q l y_X_lostByAll (Cond.code y_X_lostByAll b_X_lostByAll 6 (some .int)) g B o lim σ σ [.ref o] (fun _ => True) (fun v _ => v = .int (xm_lall 6 0 σ 0)) 0 0 0 0 := by
  refine xh_Q (own := R_X) (by decide) rfl (Nat.le_of_ble_eq_true rfl) ?_
  intro p e R s m below meth c ls hRf hRl hRc hRs hC hW hE hl
  obtain ⟨hx, hb, hml, hr, hown, hts, hlk⟩ := id hC
  have hX := hW.1
  have hK := hW.2.1
  have hS : va_S (xw_A o s.heap.size) s.heap s.heap [] := va_S.rf
  have hl : lv_has ls 6 [(0, .ref o)] := hl
  refine lv_iconst (v := 0) hx hb d_X_lostByAll_0 (by decide) ?_
  refine lv_istore_n (lv' := [(1, .int 0), (0, .ref o)]) hx hb d_X_lostByAll_1 rfl hl (by decide) rfl (fun ls hl => ?_)
  refine lv_aload_n hx hb d_X_lostByAll_2 rfl (lv_at hl 1 rfl) ?_
  obtain ⟨v9, hXo, hXl⟩ := hX.1
  refine gf_X_X_connections hx hb hts hown hK hXo rfl d_X_lostByAll_3 ?_
  refine lv_astore_n (lv' := [(2, .ref (o + 35)), (1, .int 0), (0, .ref o)]) hx hb d_X_lostByAll_6 rfl hl (by decide) rfl (fun ls hl => ?_)
  refine lv_aload_n hx hb d_X_lostByAll_7 rfl (lv_at hl 0 rfl) ?_
  refine xb_alen hx hb hK 1 rfl hX.2.2.1 d_X_lostByAll_8 ?_
  refine lv_istore_n (lv' := [(3, .int (nI 6)), (2, .ref (o + 35)), (1, .int 0), (0, .ref o)]) hx hb d_X_lostByAll_9 rfl hl (by decide) rfl (fun ls hl => ?_)
  refine lv_iconst (v := 0) hx hb d_X_lostByAll_10 (by decide) ?_
  refine lv_istore (lv' := [(4, .int 0), (3, .int (nI 6)), (2, .ref (o + 35)), (1, .int 0), (0, .ref o)]) hx hb d_X_lostByAll_11 hl (by decide) rfl (fun ls hl => ?_)
  have loop : ∀ (n i : Nat) (g0 : Int32) (H : Heap) (locs : List Loc) (cells slots : Nat) (ls : Array Slot), i + n = 6 → xw_R g B o σ H → va_S (xw_A o s.heap.size) s.heap H locs → cells + n * 0 ≤ 0 → slots + n * 0 ≤ 0 → lv_has ls 6 [(4, .int (nI i)), (3, .int (nI 6)), (2, .ref (o + 35)), (1, .int g0), (0, .ref o)] → xm_lall n i σ g0 = xm_lall 6 0 σ 0 → W p l e R s m ([.ref o] : List Value).toArray below meth c H locs cells slots (MQ below (xb_Q (fun v t => (fun v _ => v = .int (xm_lall 6 0 σ 0)) v t.heap ∧ xw_W g B o lim σ t) (xw_A o s.heap.size)) ([.ref o] : List Value).toArray s 0 0 (xw_A o s.heap.size)) (F0 m 13 ls []) := by
    intro n
    induction n with
    | zero =>
      intro i g0 H locs cells slots ls hi hX hS  hc hs hl hres 
      obtain rfl : i = 6 := by omega
      refine lv_iload hx hb d_X_lostByAll_13 (lv_at hl 0 rfl) ?_
      refine lv_iload_n hx hb d_X_lostByAll_15 rfl (lv_at hl 1 rfl) ?_
      refine lv_icmp_ge (tgt := 42) hx hb d_X_lostByAll_16 (by decide) (fun c_1 => ?_) (fun c_1 => absurd (nI_le (Nat.le_refl 6) (by decide)) c_1)
      refine lv_iload_n hx hb d_X_lostByAll_42 rfl (lv_at hl 3 rfl) ?_
      exact xr_I (τ := σ) (val := (fun v _ => v = .int (xm_lall 6 0 σ 0))) hC hW hX hS (by omega) (by omega) rfl (by rw [← hres]; rfl) d_X_lostByAll_43
    | succ n ih =>
      intro i g0 H locs cells slots ls hi hX hS  hc hs hl hres 
      refine lv_iload hx hb d_X_lostByAll_13 (lv_at hl 0 rfl) ?_
      refine lv_iload_n hx hb d_X_lostByAll_15 rfl (lv_at hl 1 rfl) ?_
      refine lv_icmp_ge (tgt := 42) hx hb d_X_lostByAll_16 (by decide) (fun c_2 => absurd c_2 (nI_ge (show i < 6 by omega) (by decide))) (fun c_2 => ?_)
      refine lv_aload_n hx hb d_X_lostByAll_19 rfl (lv_at hl 2 rfl) ?_
      refine lv_iload hx hb d_X_lostByAll_20 (lv_at hl 0 rfl) ?_
      refine xb_aald (v := o + 36 + 3 * i) hx hb hK 1 rfl hX.2.2.1 (vp_in_nI (show i < 6 by omega) (by decide)) (by rw [nI_clamp (by omega)]) d_X_lostByAll_22 ?_
      refine lv_astore (lv' := [(5, .ref (o + 36 + 3 * i)), (4, .int (nI i)), (3, .int (nI 6)), (2, .ref (o + 35)), (1, .int g0), (0, .ref o)]) hx hb d_X_lostByAll_23 hl (by decide) rfl (fun ls hl => ?_)
      refine lv_iload_n hx hb d_X_lostByAll_25 rfl (lv_at hl 4 rfl) ?_
      refine lv_aload hx hb d_X_lostByAll_26 (lv_at hl 0 rfl) ?_
      refine gf_X_C_inbox hx hb hts hown hK (hX.2.2.2.2.2.1 i (show i < 6 by omega)) rfl d_X_lostByAll_28 ?_
      obtain ⟨f9, hq9, hl9, hz9⟩ := hX.2.2.2.2.2.2.1 (8 + i) (xs_8 (show i < 6 by omega))
      refine gf_X_Q_lost hx hb hts hown hK hq9.1 rfl d_X_lostByAll_31 ?_
      refine lv_iadd hx hb d_X_lostByAll_34 ?_
      refine lv_istore_n (lv' := [(1, .int (g0 + (xs_lo σ (8 + i)))), (5, .ref (o + 36 + 3 * i)), (4, .int (nI i)), (3, .int (nI 6)), (2, .ref (o + 35)), (0, .ref o)]) hx hb d_X_lostByAll_35 rfl hl (by decide) rfl (fun ls hl => ?_)
      refine lv_iinc (v := nI (i + 1)) (lv' := [(4, .int (nI (i + 1))), (1, .int (g0 + (xs_lo σ (8 + i)))), (5, .ref (o + 36 + 3 * i)), (3, .int (nI 6)), (2, .ref (o + 35)), (0, .ref o)]) hx hb d_X_lostByAll_36 hl (k := 2) rfl (nI_1 _) (by decide) rfl (fun ls hl => ?_)
      refine lv_goto (tgt := 13) hx hb d_X_lostByAll_39 (by decide) ?_
      exact ih (i + 1) (g0 + (xs_lo σ (8 + i))) _ _ _ _ ls (by omega) hX hS  (by omega) (by omega) (lv_sub hl [0, 3, 4, 1, 5] rfl) (by rw [← hres]; simp only [xm_lall, if_true, if_false, reduceIte, Bool.false_eq_true, Bool.true_eq_false, and_true, true_and, and_false, false_and, or_true, true_or, or_false, false_or, not_true_eq_false, not_false_eq_true] <;> rfl) 
  exact loop 6 0 0 _ _ _ _ ls (by omega) hX hS  (by omega) (by omega) (lv_sub hl [0, 1, 2, 3, 4] rfl) rfl 
