/-! The reference: taking the first stanza. -/
def xu_sft (a : xu_M) (i m : Nat) : xu_M := fun k j => if (10 ≤ k ∧ k ≤ 13) ∧ 10 * i ≤ j ∧ j < 10 * i + m then a k (j + 1) else a k j
section XUK
variable {a : xu_M} {σ : xs_S} {i m n : Nat} {z : xs_Z} {r : List xs_Z} {th rp : Int32} {t : xu_X}
theorem xu_sft0 : xu_sft a i 0 = a := by
  funext k j
  unfold xu_sft
  rw [if_neg (by omega)]
theorem xu_sft_ne {k j : Nat} (h : ¬ ((10 ≤ k ∧ k ≤ 13) ∧ 10 * i ≤ j ∧ j < 10 * i + m)) : xu_sft a i m k j = a k j := by
  unfold xu_sft
  rw [if_neg h]
theorem xu_sft_eq {k j : Nat} (h : (10 ≤ k ∧ k ≤ 13) ∧ 10 * i ≤ j ∧ j < 10 * i + m) : xu_sft a i m k j = a k (j + 1) := by
  unfold xu_sft
  rw [if_pos h]
theorem xu_set_at {b : xu_M} {k i : Nat} {v : Int32} {k' j : Nat} : xu_set b k i v k' j = if k' = k ∧ j = i then v else b k' j := by
  by_cases h : k' = k
  · subst h
    by_cases h2 : j = i
    · subst h2
      rw [xu_set_eq, if_pos ⟨rfl, rfl⟩]
    · rw [xu_set_nj h2, if_neg (fun q => h2 q.2)]
  · rw [xu_set_ne h, if_neg (fun q => h q.1)]
theorem xu_sft1 : xu_set (xu_set (xu_set (xu_set (xu_sft a i m) 10 (10 * i + m) (xu_sft a i m 10 (10 * i + m + 1))) 11 (10 * i + m) (xu_set (xu_sft a i m) 10 (10 * i + m) (xu_sft a i m 10 (10 * i + m + 1)) 11 (10 * i + m + 1))) 12 (10 * i + m) (xu_set (xu_set (xu_sft a i m) 10 (10 * i + m) (xu_sft a i m 10 (10 * i + m + 1))) 11 (10 * i + m) (xu_set (xu_sft a i m) 10 (10 * i + m) (xu_sft a i m 10 (10 * i + m + 1)) 11 (10 * i + m + 1)) 12 (10 * i + m + 1))) 13 (10 * i + m)
    (xu_set (xu_set (xu_set (xu_sft a i m) 10 (10 * i + m) (xu_sft a i m 10 (10 * i + m + 1))) 11 (10 * i + m) (xu_set (xu_sft a i m) 10 (10 * i + m) (xu_sft a i m 10 (10 * i + m + 1)) 11 (10 * i + m + 1))) 12 (10 * i + m) (xu_set (xu_set (xu_sft a i m) 10 (10 * i + m) (xu_sft a i m 10 (10 * i + m + 1))) 11 (10 * i + m) (xu_set (xu_sft a i m) 10 (10 * i + m) (xu_sft a i m 10 (10 * i + m + 1)) 11 (10 * i + m + 1)) 12 (10 * i + m + 1)) 13 (10 * i + m + 1)) = xu_sft a i (m + 1) := by
  have hv : ∀ k, xu_sft a i m k (10 * i + m + 1) = a k (10 * i + m + 1) := fun k => xu_sft_ne (by omega)
  rw [xu_set_ne (by decide : 11 ≠ 10), hv, hv, xu_set_ne (by decide : 12 ≠ 11), xu_set_ne (by decide : 12 ≠ 10), hv, xu_set_ne (by decide : 13 ≠ 12), xu_set_ne (by decide : 13 ≠ 11), xu_set_ne (by decide : 13 ≠ 10), hv]
  funext k j
  by_cases hj : j = 10 * i + m
  · subst hj
    by_cases hk : 10 ≤ k ∧ k ≤ 13
    · rw [xu_sft_eq ⟨hk, by omega, by omega⟩]
      have h4 : k = 10 ∨ k = 11 ∨ k = 12 ∨ k = 13 := by omega
      rcases h4 with rfl | rfl | rfl | rfl
      · rw [xu_set_ne (by decide), xu_set_ne (by decide), xu_set_ne (by decide), xu_set_eq]
      · rw [xu_set_ne (by decide), xu_set_ne (by decide), xu_set_eq]
      · rw [xu_set_ne (by decide), xu_set_eq]
      · rw [xu_set_eq]
    · rw [xu_set_ne (by omega), xu_set_ne (by omega), xu_set_ne (by omega), xu_set_ne (by omega), xu_sft_ne (by omega), xu_sft_ne (by omega)]
  · have hs : ∀ {b : xu_M} {q : Nat} {v : Int32}, xu_set b q (10 * i + m) v k j = b k j := by
      intro b q v
      by_cases e : k = q
      · subst e
        exact xu_set_nj hj
      · rw [xu_set_ne e]
    rw [hs, hs, hs, hs]
    by_cases hk : (10 ≤ k ∧ k ≤ 13) ∧ 10 * i ≤ j ∧ j < 10 * i + m
    · rw [xu_sft_eq hk, xu_sft_eq ⟨hk.1, by omega, by omega⟩]
    · rw [xu_sft_ne hk, xu_sft_ne (by omega)]
theorem xu_take1 (h : xu_rel a σ) (hi : i < 6) (hq : xs_q σ (8 + i) = z :: r) {w : Int32} : xu_rel (xu_sft (xu_set a 14 i (nI r.length)) i r.length) (xs_sq σ (8 + i) r w) := by
  obtain ⟨q1, q2, q3⟩ := h.2.2.2.1 i hi
  rw [hq] at q2 q3
  have q2 : r.length + 1 ≤ 10 := q2
  refine h.box hi ⟨?_, by omega, fun j y hj => ?_⟩ (fun k hk => ?_) (fun j hj => ?_) (fun k k1 k2 j hj => ?_)
  · rw [xu_sft_ne (by omega), xu_set_eq]
  · have hjl := (List.getElem?_eq_some_iff.mp hj).1
    have h4 := q3 (j + 1) y hj
    rw [xu_sft_eq ⟨by decide, by omega, by omega⟩, xu_sft_eq ⟨by decide, by omega, by omega⟩, xu_sft_eq ⟨by decide, by omega, by omega⟩, xu_sft_eq ⟨by decide, by omega, by omega⟩, xu_set_ne (by decide : 10 ≠ 14), xu_set_ne (by decide : 11 ≠ 14), xu_set_ne (by decide : 12 ≠ 14), xu_set_ne (by decide : 13 ≠ 14)]
    exact h4
  · funext j
    rw [xu_sft_ne (by omega), xu_set_ne (by omega)]
  · rw [xu_sft_ne (by omega), xu_set_nj hj]
  · rw [xu_sft_ne (by omega), xu_set_ne (by omega)]
theorem xu_num_take (hi : i < 6) : xu_num (xs_sg (xm_pop σ (8 + i)) (xs_up σ) (xs_nx σ) (some z)) th rp n t = (th, nI n, nI (xs_q σ 14).length, xs_b (xs_up σ), xm_lall 6 0 σ 0, rp, 1, t.1, t.2.1, t.2.2) := by
  unfold xu_num
  have h1 : xm_lall 6 0 (xs_sg (xm_pop σ (8 + i)) (xs_up σ) (xs_nx σ) (some z)) 0 = xm_lall 6 0 σ 0 := by
    refine xm_lall_eq fun j hj => ?_
    show va_up (xs_lo σ) (8 + i) (xs_lo σ (8 + i)) (8 + j) = _
    by_cases e : 8 + j = 8 + i
    · rw [e, va_up_self]
    · rw [va_up_ne _ _ e]
  rw [h1]
  show (th, nI n, nI (va_up (xs_q σ) (8 + i) _ 14).length, _) = _
  rw [va_up_ne _ _ (by omega)]
  rfl
theorem xu_nIp {k l : List xs_Z} (h : k = z :: l) : nI k.length - 1 = nI l.length := by
  rw [h]
  exact nI_pred _
end XUK
/-! The reference, by program. -/
set_option maxHeartbeats 4000000 in
set_option maxRecDepth 100000 in
theorem c_U_take (l : Launch) (g : xw_G) (o : Nat) (σ : xs_S) (th rp : Int32) (n : Nat) (t : xu_X) (a : xu_M) (x : Int32) : uc_Q l y_U_take (Cond.code y_U_take b_U_take 5 (some .int)) g o σ th rp n t a ((xp_take σ x).2.1) ((xp_take σ x).2.2) (if (xp_take σ x).1 = 4 then 2 else nI (xp_take σ x).1) n (fun _ _ => True) [.ref o, .int x] 2 42 := by
  refine uh_Q (own := R_U) (by decide) rfl (Nat.le_of_ble_eq_true rfl) ?_
  intro p e R s m below meth c ls hRf hRl hC hK hX hl
  obtain ⟨hx, hb, hml, hr, hown, hts, hlk⟩ := id hC
  have hS : va_S (xu_W o) s.heap s.heap [] := va_S.rf
  have hl : lv_has ls 5 [(0, .ref o), (1, .int x)] := hl
  refine lv_aload_n hx hb d_U_take_0 rfl (lv_at hl 0 rfl) ?_
  refine lv_iconst (v := 0) hx hb d_U_take_1 (by decide) ?_
  refine uo_put (sc' := xu_num σ 0 rp n t) hx hb hts hown hK hX.1 hX.2.1 hS 0 (by decide) lk_U_87 rfl rfl rfl rfl rfl d_U_take_2 (fun H locs hO hA hS => ?_)
  have hX : xu_R g o σ 0 rp n t a H := ⟨hO, hA, hX.2.2.1, hX.2.2.2.1, hX.2.2.2.2⟩
  refine lv_iload_n hx hb d_U_take_5 rfl (lv_at hl 1 rfl) ?_
  refine uk_sQ (rest := []) (c_U_isConnection l g o σ 0 rp n t a x) gd_U_U_isConnection hd_U_isConnection hC hK hX hS (fun _ h => h) (by omega) (by omega) (by omega) (by omega) hl.1 rfl (Nat.le_of_ble_eq_true rfl) d_U_take_6 (fun rp9 t b9 H locs hG9 hX hS _ _ => ?_)
  rw [hG9.1] at hX
  refine lv_if_ne (tgt := 18) hx hb d_U_take_9 (by decide) (fun c_1 => ?_) (fun c_1 => ?_)
  · have c_1 := xs_b1 c_1
    refine lv_aload_n hx hb d_U_take_18 rfl (lv_at hl 0 rfl) ?_
    refine xb_get (v := .ref (o + 14)) hx hb hts xw_in_U hown hK (ci := xi_U) rfl 15 (by decide) (hts _ lk_U_50) rfl hX.1 rfl d_U_take_19 ?_
    refine lv_iload_n hx hb d_U_take_22 rfl (lv_at hl 1 rfl) ?_
    refine ug_i (v := nI (xs_q σ (8 + (xs_ix x))).length) hx hb hK hX.2.1 14 (by decide) (by decide) rfl rfl (xm_in6t c_1) ((hX.2.2.1.2.2.2.1 (xs_ix x) (xs_ixl (xm_in6t c_1))).1) d_U_take_23 ?_
    refine lv_if_ne (tgt := 33) hx hb d_U_take_24 (by decide) (fun c_2 => ?_) (fun c_2 => ?_)
    · obtain ⟨z9, r9, hq9⟩ := xm_len1 c_2
      have hI6 := xs_ixl (xm_in6t c_1)
      have hbx := hX.2.2.1.2.2.2.1 (xs_ix x) hI6
      have hr9 : r9.length + 1 ≤ 10 := by have := hbx.2.1; rw [hq9] at this; exact this
      have hbz := hbx.2.2 0 z9 (by rw [hq9]; rfl)
      have e4 : 10 * x = nI (10 * xs_ix x + 0) := by obtain ⟨q9, q1, q2, q3⟩ := xu_of (xm_in6t c_1); rw [q3, xs_ix_nI q2]; exact nI_mul 10 q9
      refine lv_bipush (v := 10) hx hb d_U_take_33 (by decide) ?_
      refine lv_iload_n hx hb d_U_take_35 rfl (lv_at hl 1 rfl) ?_
      refine lv_imul hx hb d_U_take_36 ?_
      refine lv_istore_n (lv' := [(2, .int (10 * x)), (0, .ref o), (1, .int x)]) hx hb d_U_take_37 rfl hl (by decide) rfl (fun ls hl => ?_)
      refine lv_aload_n hx hb d_U_take_38 rfl (lv_at hl 1 rfl) ?_
      refine xb_get (v := .ref (o + 10)) hx hb hts xw_in_U hown hK (ci := xi_U) rfl 11 (by decide) (hts _ lk_U_38) rfl hX.1 rfl d_U_take_39 ?_
      refine lv_iload_n hx hb d_U_take_42 rfl (lv_at hl 0 rfl) ?_
      refine ug_i (v := z9.1) hx hb hK hX.2.1 10 (by decide) (by decide) rfl rfl (by rw [e4]; exact vp_in_nI (show 10 * xs_ix x + 0 < 60 by omega) (by decide)) (by rw [show xs_ix (10 * x) = 10 * xs_ix x + 0 from by rw [e4]; exact xs_ix_nI (show 10 * xs_ix x + 0 < 2 ^ 31 by omega)]; exact hbz.1) d_U_take_43 ?_
      refine lv_istore_n (lv' := [(3, .int z9.1), (2, .int (10 * x)), (0, .ref o), (1, .int x)]) hx hb d_U_take_44 rfl hl (by decide) rfl (fun ls hl => ?_)
      refine lv_aload_n hx hb d_U_take_45 rfl (lv_at hl 2 rfl) ?_
      refine lv_iconst (v := 1) hx hb d_U_take_46 (by decide) ?_
      have hO := hX.1
      have hA := hX.2.1
      have hR := hX.2.2.1
      refine uo_put (sc' := (0, nI n, nI (xs_q σ 14).length, xs_b (xs_up σ), xm_lall 6 0 σ 0, rp, 1, t.1, t.2.1, t.2.2)) hx hb hts hown hK hO hA hS 30 (by decide) lk_U_173 rfl rfl rfl rfl rfl d_U_take_47 (fun H locs hO hA hS => ?_)
      refine lv_aload_n hx hb d_U_take_50 rfl (lv_at hl 2 rfl) ?_
      refine lv_aload_n hx hb d_U_take_51 rfl (lv_at hl 2 rfl) ?_
      refine xb_get (v := .ref (o + 11)) hx hb hts xw_in_U hown hK (ci := xi_U) rfl 12 (by decide) (hts _ lk_U_41) rfl hO rfl d_U_take_52 ?_
      refine lv_iload_n hx hb d_U_take_55 rfl (lv_at hl 1 rfl) ?_
      refine ug_i (v := z9.2.1) hx hb hK hA 11 (by decide) (by decide) rfl rfl (by rw [e4]; exact vp_in_nI (show 10 * xs_ix x + 0 < 60 by omega) (by decide)) (by rw [show xs_ix (10 * x) = 10 * xs_ix x + 0 from by rw [e4]; exact xs_ix_nI (show 10 * xs_ix x + 0 < 2 ^ 31 by omega)]; exact hbz.2.1) d_U_take_56 ?_
      refine uo_put (sc' := (0, nI n, nI (xs_q σ 14).length, xs_b (xs_up σ), xm_lall 6 0 σ 0, rp, 1, z9.2.1, t.2.1, t.2.2)) hx hb hts hown hK hO hA hS 31 (by decide) lk_U_176 rfl rfl rfl rfl rfl d_U_take_57 (fun H locs hO hA hS => ?_)
      refine lv_aload_n hx hb d_U_take_60 rfl (lv_at hl 2 rfl) ?_
      refine lv_aload_n hx hb d_U_take_61 rfl (lv_at hl 2 rfl) ?_
      refine xb_get (v := .ref (o + 12)) hx hb hts xw_in_U hown hK (ci := xi_U) rfl 13 (by decide) (hts _ lk_U_44) rfl hO rfl d_U_take_62 ?_
      refine lv_iload_n hx hb d_U_take_65 rfl (lv_at hl 1 rfl) ?_
      refine ug_i (v := z9.2.2.1) hx hb hK hA 12 (by decide) (by decide) rfl rfl (by rw [e4]; exact vp_in_nI (show 10 * xs_ix x + 0 < 60 by omega) (by decide)) (by rw [show xs_ix (10 * x) = 10 * xs_ix x + 0 from by rw [e4]; exact xs_ix_nI (show 10 * xs_ix x + 0 < 2 ^ 31 by omega)]; exact hbz.2.2.1) d_U_take_66 ?_
      refine uo_put (sc' := (0, nI n, nI (xs_q σ 14).length, xs_b (xs_up σ), xm_lall 6 0 σ 0, rp, 1, z9.2.1, z9.2.2.1, t.2.2)) hx hb hts hown hK hO hA hS 32 (by decide) lk_U_179 rfl rfl rfl rfl rfl d_U_take_67 (fun H locs hO hA hS => ?_)
      refine lv_aload_n hx hb d_U_take_70 rfl (lv_at hl 2 rfl) ?_
      refine lv_aload_n hx hb d_U_take_71 rfl (lv_at hl 2 rfl) ?_
      refine xb_get (v := .ref (o + 13)) hx hb hts xw_in_U hown hK (ci := xi_U) rfl 14 (by decide) (hts _ lk_U_47) rfl hO rfl d_U_take_72 ?_
      refine lv_iload_n hx hb d_U_take_75 rfl (lv_at hl 1 rfl) ?_
      refine ug_i (v := z9.2.2.2.1) hx hb hK hA 13 (by decide) (by decide) rfl rfl (by rw [e4]; exact vp_in_nI (show 10 * xs_ix x + 0 < 60 by omega) (by decide)) (by rw [show xs_ix (10 * x) = 10 * xs_ix x + 0 from by rw [e4]; exact xs_ix_nI (show 10 * xs_ix x + 0 < 2 ^ 31 by omega)]; exact hbz.2.2.2) d_U_take_76 ?_
      refine uo_put (sc' := (0, nI n, nI (xs_q σ 14).length, xs_b (xs_up σ), xm_lall 6 0 σ 0, rp, 1, z9.2.1, z9.2.2.1, z9.2.2.2.1)) hx hb hts hown hK hO hA hS 33 (by decide) lk_U_182 rfl rfl rfl rfl rfl d_U_take_77 (fun H locs hO hA hS => ?_)
      refine lv_aload_n hx hb d_U_take_80 rfl (lv_at hl 2 rfl) ?_
      refine xb_get (v := .ref (o + 14)) hx hb hts xw_in_U hown hK (ci := xi_U) rfl 15 (by decide) (hts _ lk_U_50) rfl hO rfl d_U_take_81 ?_
      refine lv_iload_n hx hb d_U_take_84 rfl (lv_at hl 3 rfl) ?_
      refine lv_dup2_11 hx hb d_U_take_85 rfl rfl ?_
      refine ug_i (v := nI (xs_q σ (8 + (xs_ix x))).length) hx hb hK hA 14 (by decide) (by decide) rfl rfl (xm_in6t c_1) hbx.1 d_U_take_86 ?_
      refine lv_iconst (v := 1) hx hb d_U_take_87 (by decide) ?_
      refine lv_isub hx hb d_U_take_88 ?_
      refine uq_i hx hb hK hO hA hS 14 (by decide) (by decide) rfl rfl (xm_in6t c_1) d_U_take_89 (fun H locs hO hA hS => ?_)
      refine lv_iload_n hx hb d_U_take_90 rfl (lv_at hl 1 rfl) ?_
      refine lv_istore (lv' := [(4, .int (10 * x)), (3, .int z9.1), (2, .int (10 * x)), (0, .ref o), (1, .int x)]) hx hb d_U_take_91 hl (by decide) rfl (fun ls hl => ?_)
      rw [xu_nIp hq9, ← xu_sft0 (a := xu_set b9 14 (xs_ix x) (nI r9.length)) (i := xs_ix x)] at hA
      have loopT : ∀ (n9 m9 : Nat) (H : Heap) (locs : List Loc) (ls : Array Slot), m9 + n9 = r9.length → va_at g.1 vwCl (o, .inr (xi_U, xu_O o (0, nI n, nI (xs_q σ 14).length, xs_b (xs_up σ), xm_lall 6 0 σ 0, rp, 1, z9.2.1, z9.2.2.1, z9.2.2.2.1))) H → xu_A g o (xu_sft (xu_set b9 14 (xs_ix x) (nI r9.length)) (xs_ix x) m9) H → va_S (xu_W o) s.heap H locs → lv_has ls 5 [(4, .int (nI (10 * xs_ix x + m9))), (3, .int z9.1), (0, .ref o), (1, .int x), (2, .int (10 * x))] → W p l e R s m ([.ref o, .int x] : List Value).toArray below meth c H locs 0 0 (MQ below (xb_Q (fun v T => v = .int ((xp_take σ x).2.1) ∧ ∃ rp9 t9 b9, (fun _ _ => True) rp9 b9 ∧ uw_W g o ((xp_take σ x).2.2) (if (xp_take σ x).1 = 4 then 2 else nI (xp_take σ x).1) rp9 n t9 b9 T) (xu_W o)) ([.ref o, .int x] : List Value).toArray s 0 0 (xu_W o)) (F0 m 93 ls []) := by
        intro n9
        induction n9 with
        | zero =>
          intro m9 H locs ls hi hO hA hS hl
          have e5 : 10 * x + nI r9.length = nI (10 * xs_ix x + r9.length) := by rw [e4, nI_add]; rfl
          refine lv_iload hx hb d_U_take_93 (lv_at hl 0 rfl) ?_
          refine lv_iload_n hx hb d_U_take_95 rfl (lv_at hl 4 rfl) ?_
          refine lv_aload_n hx hb d_U_take_96 rfl (lv_at hl 2 rfl) ?_
          refine xb_get (v := .ref (o + 14)) hx hb hts xw_in_U hown hK (ci := xi_U) rfl 15 (by decide) (hts _ lk_U_50) rfl hO rfl d_U_take_97 ?_
          refine lv_iload_n hx hb d_U_take_100 rfl (lv_at hl 3 rfl) ?_
          refine ug_i (v := nI r9.length) hx hb hK hA 14 (by decide) (by decide) rfl rfl (xm_in6t c_1) (by rw [xu_sft_ne (by omega), xu_set_eq]) d_U_take_101 ?_
          refine lv_iadd hx hb d_U_take_102 ?_
          refine lv_icmp_ge (tgt := 176) hx hb d_U_take_103 (by decide) (fun c_3 => ?_) (fun c_3 => absurd (by rw [e5]; exact nI_le (by omega) (by omega)) c_3)
          refine lv_iload_n hx hb d_U_take_176 rfl (lv_at hl 1 rfl) ?_
          obtain rfl : m9 = r9.length := by omega
          have e8 : xm_pop σ (8 + xs_ix x) = xs_sq σ (8 + xs_ix x) r9 (xs_lo σ (8 + xs_ix x)) := by unfold xm_pop; rw [hq9]; rfl
          have hX : xu_R g o (xs_sg (xm_pop σ (8 + xs_ix x)) (xs_up σ) (xs_nx σ) (some z9)) 0 rp n (z9.2.1, z9.2.2.1, z9.2.2.2.1) (xu_sft (xu_set b9 14 (xs_ix x) (nI r9.length)) (xs_ix x) r9.length) H := ⟨by rw [xu_num_take hI6]; exact hO, hA, by rw [e8]; exact xu_take1 (w := xs_lo σ (8 + xs_ix x)) hR hI6 hq9, fun y hy => by cases hy; rfl, hX.2.2.2.2⟩
          have e9 : xp_take σ x = (0, z9.1, xs_sg (xm_pop σ (8 + xs_ix x)) (xs_up σ) (xs_nx σ) (some z9)) := by simp only [xp_take, c_1, hq9, if_true, if_false, reduceIte, Bool.false_eq_true, Bool.true_eq_false, and_true, true_and, and_false, false_and, or_true, true_or, or_false, false_or, not_true_eq_false, not_false_eq_true]
          exact ur_I (G := (fun _ _ => True)) (τ := (xp_take σ x).2.2) (r := (xp_take σ x).2.1) hC hK hX hS trivial (by rw [e9]) (by rw [e9]; rfl) rfl (by rw [e9]) d_U_take_177
        | succ n9 ihn9 =>
          intro m9 H locs ls hi hO hA hS hl
          have e5 : 10 * x + nI r9.length = nI (10 * xs_ix x + r9.length) := by rw [e4, nI_add]; rfl
          refine lv_iload hx hb d_U_take_93 (lv_at hl 0 rfl) ?_
          refine lv_iload_n hx hb d_U_take_95 rfl (lv_at hl 4 rfl) ?_
          refine lv_aload_n hx hb d_U_take_96 rfl (lv_at hl 2 rfl) ?_
          refine xb_get (v := .ref (o + 14)) hx hb hts xw_in_U hown hK (ci := xi_U) rfl 15 (by decide) (hts _ lk_U_50) rfl hO rfl d_U_take_97 ?_
          refine lv_iload_n hx hb d_U_take_100 rfl (lv_at hl 3 rfl) ?_
          refine ug_i (v := nI r9.length) hx hb hK hA 14 (by decide) (by decide) rfl rfl (xm_in6t c_1) (by rw [xu_sft_ne (by omega), xu_set_eq]) d_U_take_101 ?_
          refine lv_iadd hx hb d_U_take_102 ?_
          refine lv_icmp_ge (tgt := 176) hx hb d_U_take_103 (by decide) (fun c_4 => absurd c_4 (by rw [e5]; exact nI_ge (by omega) (by omega))) (fun c_4 => ?_)
          refine lv_aload_n hx hb d_U_take_106 rfl (lv_at hl 2 rfl) ?_
          refine xb_get (v := .ref (o + 10)) hx hb hts xw_in_U hown hK (ci := xi_U) rfl 11 (by decide) (hts _ lk_U_38) rfl hO rfl d_U_take_107 ?_
          refine lv_iload hx hb d_U_take_110 (lv_at hl 0 rfl) ?_
          refine lv_aload_n hx hb d_U_take_112 rfl (lv_at hl 2 rfl) ?_
          refine xb_get (v := .ref (o + 10)) hx hb hts xw_in_U hown hK (ci := xi_U) rfl 11 (by decide) (hts _ lk_U_38) rfl hO rfl d_U_take_113 ?_
          refine lv_iload hx hb d_U_take_116 (lv_at hl 0 rfl) ?_
          refine lv_iconst (v := 1) hx hb d_U_take_118 (by decide) ?_
          refine lv_iadd hx hb d_U_take_119 ?_
          refine ug_i (v := (xu_sft (xu_set b9 14 (xs_ix x) (nI r9.length)) (xs_ix x) m9) 10 (10 * xs_ix x + m9 + 1)) hx hb hK hA 10 (by decide) (by decide) rfl rfl (by rw [nI_1]; exact vp_in_nI (show 10 * xs_ix x + m9 + 1 < 60 by omega) (by decide)) (by rw [(show xs_ix (nI (10 * xs_ix x + m9) + 1) = 10 * xs_ix x + m9 + 1 from by rw [nI_1]; exact xs_ix_nI (show 10 * xs_ix x + m9 + 1 < 2 ^ 31 by omega))]) d_U_take_120 ?_
          refine uq_i hx hb hK hO hA hS 10 (by decide) (by decide) rfl rfl (vp_in_nI (show 10 * xs_ix x + m9 < 60 by omega) (by decide)) d_U_take_121 (fun H locs hO hA hS => ?_)
          rw [(xs_ix_nI (show 10 * xs_ix x + m9 < 2 ^ 31 by omega))] at hA
          refine lv_aload_n hx hb d_U_take_122 rfl (lv_at hl 2 rfl) ?_
          refine xb_get (v := .ref (o + 11)) hx hb hts xw_in_U hown hK (ci := xi_U) rfl 12 (by decide) (hts _ lk_U_41) rfl hO rfl d_U_take_123 ?_
          refine lv_iload hx hb d_U_take_126 (lv_at hl 0 rfl) ?_
          refine lv_aload_n hx hb d_U_take_128 rfl (lv_at hl 2 rfl) ?_
          refine xb_get (v := .ref (o + 11)) hx hb hts xw_in_U hown hK (ci := xi_U) rfl 12 (by decide) (hts _ lk_U_41) rfl hO rfl d_U_take_129 ?_
          refine lv_iload hx hb d_U_take_132 (lv_at hl 0 rfl) ?_
          refine lv_iconst (v := 1) hx hb d_U_take_134 (by decide) ?_
          refine lv_iadd hx hb d_U_take_135 ?_
          refine ug_i (v := (xu_set (xu_sft (xu_set b9 14 (xs_ix x) (nI r9.length)) (xs_ix x) m9) 10 (10 * xs_ix x + m9) ((xu_sft (xu_set b9 14 (xs_ix x) (nI r9.length)) (xs_ix x) m9) 10 (10 * xs_ix x + m9 + 1))) 11 (10 * xs_ix x + m9 + 1)) hx hb hK hA 11 (by decide) (by decide) rfl rfl (by rw [nI_1]; exact vp_in_nI (show 10 * xs_ix x + m9 + 1 < 60 by omega) (by decide)) (by rw [(show xs_ix (nI (10 * xs_ix x + m9) + 1) = 10 * xs_ix x + m9 + 1 from by rw [nI_1]; exact xs_ix_nI (show 10 * xs_ix x + m9 + 1 < 2 ^ 31 by omega))]) d_U_take_136 ?_
          refine uq_i hx hb hK hO hA hS 11 (by decide) (by decide) rfl rfl (vp_in_nI (show 10 * xs_ix x + m9 < 60 by omega) (by decide)) d_U_take_137 (fun H locs hO hA hS => ?_)
          rw [(xs_ix_nI (show 10 * xs_ix x + m9 < 2 ^ 31 by omega))] at hA
          refine lv_aload_n hx hb d_U_take_138 rfl (lv_at hl 2 rfl) ?_
          refine xb_get (v := .ref (o + 12)) hx hb hts xw_in_U hown hK (ci := xi_U) rfl 13 (by decide) (hts _ lk_U_44) rfl hO rfl d_U_take_139 ?_
          refine lv_iload hx hb d_U_take_142 (lv_at hl 0 rfl) ?_
          refine lv_aload_n hx hb d_U_take_144 rfl (lv_at hl 2 rfl) ?_
          refine xb_get (v := .ref (o + 12)) hx hb hts xw_in_U hown hK (ci := xi_U) rfl 13 (by decide) (hts _ lk_U_44) rfl hO rfl d_U_take_145 ?_
          refine lv_iload hx hb d_U_take_148 (lv_at hl 0 rfl) ?_
          refine lv_iconst (v := 1) hx hb d_U_take_150 (by decide) ?_
          refine lv_iadd hx hb d_U_take_151 ?_
          refine ug_i (v := (xu_set (xu_set (xu_sft (xu_set b9 14 (xs_ix x) (nI r9.length)) (xs_ix x) m9) 10 (10 * xs_ix x + m9) ((xu_sft (xu_set b9 14 (xs_ix x) (nI r9.length)) (xs_ix x) m9) 10 (10 * xs_ix x + m9 + 1))) 11 (10 * xs_ix x + m9) ((xu_set (xu_sft (xu_set b9 14 (xs_ix x) (nI r9.length)) (xs_ix x) m9) 10 (10 * xs_ix x + m9) ((xu_sft (xu_set b9 14 (xs_ix x) (nI r9.length)) (xs_ix x) m9) 10 (10 * xs_ix x + m9 + 1))) 11 (10 * xs_ix x + m9 + 1))) 12 (10 * xs_ix x + m9 + 1)) hx hb hK hA 12 (by decide) (by decide) rfl rfl (by rw [nI_1]; exact vp_in_nI (show 10 * xs_ix x + m9 + 1 < 60 by omega) (by decide)) (by rw [(show xs_ix (nI (10 * xs_ix x + m9) + 1) = 10 * xs_ix x + m9 + 1 from by rw [nI_1]; exact xs_ix_nI (show 10 * xs_ix x + m9 + 1 < 2 ^ 31 by omega))]) d_U_take_152 ?_
          refine uq_i hx hb hK hO hA hS 12 (by decide) (by decide) rfl rfl (vp_in_nI (show 10 * xs_ix x + m9 < 60 by omega) (by decide)) d_U_take_153 (fun H locs hO hA hS => ?_)
          rw [(xs_ix_nI (show 10 * xs_ix x + m9 < 2 ^ 31 by omega))] at hA
          refine lv_aload_n hx hb d_U_take_154 rfl (lv_at hl 2 rfl) ?_
          refine xb_get (v := .ref (o + 13)) hx hb hts xw_in_U hown hK (ci := xi_U) rfl 14 (by decide) (hts _ lk_U_47) rfl hO rfl d_U_take_155 ?_
          refine lv_iload hx hb d_U_take_158 (lv_at hl 0 rfl) ?_
          refine lv_aload_n hx hb d_U_take_160 rfl (lv_at hl 2 rfl) ?_
          refine xb_get (v := .ref (o + 13)) hx hb hts xw_in_U hown hK (ci := xi_U) rfl 14 (by decide) (hts _ lk_U_47) rfl hO rfl d_U_take_161 ?_
          refine lv_iload hx hb d_U_take_164 (lv_at hl 0 rfl) ?_
          refine lv_iconst (v := 1) hx hb d_U_take_166 (by decide) ?_
          refine lv_iadd hx hb d_U_take_167 ?_
          refine ug_i (v := (xu_set (xu_set (xu_set (xu_sft (xu_set b9 14 (xs_ix x) (nI r9.length)) (xs_ix x) m9) 10 (10 * xs_ix x + m9) ((xu_sft (xu_set b9 14 (xs_ix x) (nI r9.length)) (xs_ix x) m9) 10 (10 * xs_ix x + m9 + 1))) 11 (10 * xs_ix x + m9) ((xu_set (xu_sft (xu_set b9 14 (xs_ix x) (nI r9.length)) (xs_ix x) m9) 10 (10 * xs_ix x + m9) ((xu_sft (xu_set b9 14 (xs_ix x) (nI r9.length)) (xs_ix x) m9) 10 (10 * xs_ix x + m9 + 1))) 11 (10 * xs_ix x + m9 + 1))) 12 (10 * xs_ix x + m9) ((xu_set (xu_set (xu_sft (xu_set b9 14 (xs_ix x) (nI r9.length)) (xs_ix x) m9) 10 (10 * xs_ix x + m9) ((xu_sft (xu_set b9 14 (xs_ix x) (nI r9.length)) (xs_ix x) m9) 10 (10 * xs_ix x + m9 + 1))) 11 (10 * xs_ix x + m9) ((xu_set (xu_sft (xu_set b9 14 (xs_ix x) (nI r9.length)) (xs_ix x) m9) 10 (10 * xs_ix x + m9) ((xu_sft (xu_set b9 14 (xs_ix x) (nI r9.length)) (xs_ix x) m9) 10 (10 * xs_ix x + m9 + 1))) 11 (10 * xs_ix x + m9 + 1))) 12 (10 * xs_ix x + m9 + 1))) 13 (10 * xs_ix x + m9 + 1)) hx hb hK hA 13 (by decide) (by decide) rfl rfl (by rw [nI_1]; exact vp_in_nI (show 10 * xs_ix x + m9 + 1 < 60 by omega) (by decide)) (by rw [(show xs_ix (nI (10 * xs_ix x + m9) + 1) = 10 * xs_ix x + m9 + 1 from by rw [nI_1]; exact xs_ix_nI (show 10 * xs_ix x + m9 + 1 < 2 ^ 31 by omega))]) d_U_take_168 ?_
          refine uq_i hx hb hK hO hA hS 13 (by decide) (by decide) rfl rfl (vp_in_nI (show 10 * xs_ix x + m9 < 60 by omega) (by decide)) d_U_take_169 (fun H locs hO hA hS => ?_)
          rw [(xs_ix_nI (show 10 * xs_ix x + m9 < 2 ^ 31 by omega))] at hA
          refine lv_iinc (v := nI (10 * xs_ix x + m9 + 1)) (lv' := [(4, .int (nI (10 * xs_ix x + m9 + 1))), (3, .int z9.1), (0, .ref o), (1, .int x), (2, .int (10 * x))]) hx hb d_U_take_170 hl (k := 0) rfl (nI_1 _) (by decide) rfl (fun ls hl => ?_)
          refine lv_goto (tgt := 93) hx hb d_U_take_173 (by decide) ?_
          rw [xu_sft1] at hA
          exact ihn9 (m9 + 1) _ _ ls (by omega) hO hA hS (lv_sub hl [0, 1, 2, 3, 4] rfl)
      rw [e4] at hl
      have hl : lv_has ls 5 [(4, .int (nI (10 * xs_ix x + 0))), (3, .int z9.1), (0, .ref o), (1, .int x), (2, .int (10 * x))] := by rw [e4]; exact lv_sub hl [0, 1, 3, 4, 2] rfl
      exact loopT r9.length 0 _ _ ls (by omega) hO hA hS hl
    · refine lv_aload_n hx hb d_U_take_27 rfl (lv_at hl 0 rfl) ?_
      refine lv_iconst (v := 2) hx hb d_U_take_28 (by decide) ?_
      refine uk_iQ (rest := []) (c_U_raise l g o σ 0 rp n t b9 2) gd_U_U_raise hd_U_raise hC hK hX hS (fun _ h => h) (by omega) (by omega) (by omega) (by omega) hl.1 rfl (Nat.le_of_ble_eq_true rfl) d_U_take_29 (fun rp9 t b9 H locs hG9 hX hS _ _ => ?_)
      rw [hG9.1] at hX
      have e9 : xp_take σ x = (4, 0, σ) := by have e8 := xm_len0 c_2 (Nat.lt_of_le_of_lt (hX.2.2.1.2.2.2.1 (xs_ix x) (xs_ixl (xm_in6t c_1))).2.1 (by decide)); simp only [xp_take, c_1, e8, if_true, if_false, reduceIte, Bool.false_eq_true, Bool.true_eq_false, and_true, true_and, and_false, false_and, or_true, true_or, or_false, false_or, not_true_eq_false, not_false_eq_true]
      exact ur_I (G := (fun _ _ => True)) (τ := (xp_take σ x).2.2) (r := (xp_take σ x).2.1) hC hK hX hS trivial (by rw [e9]) (by rw [e9]; rfl) rfl (by rw [e9]) d_U_take_32
  · have c_1 := xs_b0 c_1
    refine lv_aload_n hx hb d_U_take_12 rfl (lv_at hl 0 rfl) ?_
    refine lv_iconst (v := 1) hx hb d_U_take_13 (by decide) ?_
    refine uk_iQ (rest := []) (c_U_raise l g o σ 0 rp n t b9 1) gd_U_U_raise hd_U_raise hC hK hX hS (fun _ h => h) (by omega) (by omega) (by omega) (by omega) hl.1 rfl (Nat.le_of_ble_eq_true rfl) d_U_take_14 (fun rp9 t b9 H locs hG9 hX hS _ _ => ?_)
    rw [hG9.1] at hX
    have e9 : xp_take σ x = (1, 0, σ) := by simp only [xp_take, c_1, xs_cn_scn, xs_nx_scn, xs_up_scn, xs_lt_scn, xs_q_scn, xs_ac_scn, xs_mk_scn, xs_ac_sac, xs_sac_sac, xs_nx_sg, xs_up_sg, xs_lt_sg, xs_cn_sg, xs_q_sg, if_true, if_false, reduceIte, Bool.false_eq_true, Bool.true_eq_false, and_true, true_and, and_false, false_and, or_true, true_or, or_false, false_or, not_true_eq_false, not_false_eq_true] <;> rfl
    exact ur_I (G := (fun _ _ => True)) (τ := (xp_take σ x).2.2) (r := (xp_take σ x).2.1) hC hK hX hS trivial (by rw [e9]) (by rw [e9]; rfl) rfl (by rw [e9]) d_U_take_17
