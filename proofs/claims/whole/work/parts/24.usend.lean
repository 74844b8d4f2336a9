/-! The reference, by program. -/
set_option maxHeartbeats 4000000 in
set_option maxRecDepth 100000 in
theorem c_U_route (l : Launch) (g : xw_G) (o : Nat) (σ : xs_S) (th rp : Int32) (n : Nat) (t : xu_X) (a : xu_M) (tt f r b u w : Int32) (hvt : vp_in tt 8) : uc_Q l y_U_route (Cond.code y_U_route b_U_route 8 (some .int)) g o σ th rp n t a ((xu_route σ f r b tt u w).1) ((xu_route σ f r b tt u w).2) th n (fun rp9 b9 => rp9 = rp ∧ xu_K a b9) [.ref o, .int tt, .int f, .int r, .int b, .int w] 1 26 := by
  refine uh_Q (own := R_U) (by decide) rfl (Nat.le_of_ble_eq_true rfl) ?_
  intro p e R s m below meth c ls hRf hRl hC hK hX hl
  obtain ⟨hx, hb, hml, hr, hown, hts, hlk⟩ := id hC
  have hS : va_S (xu_W o) s.heap s.heap [] := va_S.rf
  have hF : xu_K a a := xu_K.rf
  have hl : lv_has ls 8 [(0, .ref o), (1, .int tt), (2, .int f), (3, .int r), (4, .int b), (5, .int w)] := hl
  refine lv_iconst (v := 0) hx hb d_U_route_0 (by decide) ?_
  refine lv_istore (lv' := [(6, .int 0), (0, .ref o), (1, .int tt), (2, .int f), (3, .int r), (4, .int b), (5, .int w)]) hx hb d_U_route_1 hl (by decide) rfl (fun ls hl => ?_)
  have loop3 : ∀ (n9 i : Nat)  (rp9 : Int32) (t : xu_X) (b9 : xu_M) (H : Heap) (locs : List Loc) (ls : Array Slot), i + n9 = 6 → xu_R g o σ th rp n t b9 H → va_S (xu_W o) s.heap H locs → xu_K a b9 → lv_has ls 8 [(6, .int (nI i)), (0, .ref o), (1, .int tt), (2, .int f), (3, .int r), (4, .int b), (5, .int w)] → xu_first n9 i σ tt w = xu_first 6 0 σ tt w → W p l e R s m ([.ref o, .int tt, .int f, .int r, .int b, .int w] : List Value).toArray below meth c H locs 0 0 (MQ below (xb_Q (fun v T => v = .int ((xu_route σ f r b tt u w).1) ∧ ∃ rp9 t9 b9, (fun rp9 b9 => rp9 = rp ∧ xu_K a b9) rp9 b9 ∧ uw_W g o ((xu_route σ f r b tt u w).2) th rp9 n t9 b9 T) (xu_W o)) ([.ref o, .int tt, .int f, .int r, .int b, .int w] : List Value).toArray s 0 0 (xu_W o)) (F0 m 3 ls []) := by
    intro n9
    induction n9 with
    | zero =>
      intro i  rp9 t b9 H locs ls hi hX hS hF hl hres 
      have e9 : i = 6 := by omega
      refine lv_iload hx hb d_U_route_3 (lv_at hl 0 rfl) ?_
      refine lv_bipush (v := 6) hx hb d_U_route_5 (by decide) ?_
      refine lv_icmp_ge (tgt := 65) hx hb d_U_route_7 (by decide) (fun c_1 => ?_) (fun c_1 => absurd (nI_le (show 6 ≤ i by omega) (show i < 2 ^ 31 by omega)) c_1)
      have hfst : xu_first 6 0 σ tt w = none := hres.symm
      refine lv_iconst (v := (-1)) hx hb d_U_route_65 (by decide) ?_
      refine lv_istore (lv' := [(6, .int (-1)), (0, .ref o), (1, .int tt), (2, .int f), (3, .int r), (4, .int b), (5, .int w)]) hx hb d_U_route_66 hl (by decide) rfl (fun ls hl => ?_)
      refine lv_iconst (v := 0) hx hb d_U_route_68 (by decide) ?_
      refine lv_istore (lv' := [(7, .int 0), (6, .int (-1)), (0, .ref o), (1, .int tt), (2, .int f), (3, .int r), (4, .int b), (5, .int w)]) hx hb d_U_route_69 hl (by decide) rfl (fun ls hl => ?_)
      have loop71 : ∀ (n9 i : Nat) (g0 : Int32) (rp9 : Int32) (t : xu_X) (b9 : xu_M) (H : Heap) (locs : List Loc) (ls : Array Slot), i + n9 = 6 → xu_R g o σ th rp n t b9 H → va_S (xu_W o) s.heap H locs → xu_K a b9 → lv_has ls 8 [(7, .int (nI i)), (6, .int g0), (0, .ref o), (1, .int tt), (2, .int f), (3, .int r), (4, .int b), (5, .int w)] → xm_great n9 i σ tt g0 = xm_great 6 0 σ tt (-1) → W p l e R s m ([.ref o, .int tt, .int f, .int r, .int b, .int w] : List Value).toArray below meth c H locs 0 0 (MQ below (xb_Q (fun v T => v = .int ((xu_route σ f r b tt u w).1) ∧ ∃ rp9 t9 b9, (fun rp9 b9 => rp9 = rp ∧ xu_K a b9) rp9 b9 ∧ uw_W g o ((xu_route σ f r b tt u w).2) th rp9 n t9 b9 T) (xu_W o)) ([.ref o, .int tt, .int f, .int r, .int b, .int w] : List Value).toArray s 0 0 (xu_W o)) (F0 m 71 ls []) := by
        intro n9
        induction n9 with
        | zero =>
          intro i g0 rp9 t b9 H locs ls hi hX hS hF hl hres 
          have e9 : i = 6 := by omega
          refine lv_iload hx hb d_U_route_71 (lv_at hl 0 rfl) ?_
          refine lv_bipush (v := 6) hx hb d_U_route_73 (by decide) ?_
          refine lv_icmp_ge (tgt := 126) hx hb d_U_route_75 (by decide) (fun c_2 => ?_) (fun c_2 => absurd (nI_le (show 6 ≤ i by omega) (show i < 2 ^ 31 by omega)) c_2)
          have hbest : g0 = xm_great 6 0 σ tt (-1) := hres
          by_cases c_3 : g0 < 0
          · skip
            refine lv_iconst (v := 0) hx hb d_U_route_126 (by decide) ?_
            refine lv_istore (lv' := [(7, .int 0), (6, .int g0), (0, .ref o), (1, .int tt), (2, .int f), (3, .int r), (4, .int b), (5, .int w)]) hx hb d_U_route_127 hl (by decide) rfl (fun ls hl => ?_)
            have loop129 : ∀ (n9 i : Nat)  (rp9 : Int32) (t : xu_X) (b9 : xu_M) (H : Heap) (locs : List Loc) (ls : Array Slot), i + n9 = 6 → xu_R g o σ th rp n t b9 H → va_S (xu_W o) s.heap H locs → xu_K a b9 → lv_has ls 8 [(7, .int (nI i)), (6, .int g0), (0, .ref o), (1, .int tt), (2, .int f), (3, .int r), (4, .int b), (5, .int w)] → (0 : Nat) = (0 : Nat) → W p l e R s m ([.ref o, .int tt, .int f, .int r, .int b, .int w] : List Value).toArray below meth c H locs 0 0 (MQ below (xb_Q (fun v T => v = .int ((xu_route σ f r b tt u w).1) ∧ ∃ rp9 t9 b9, (fun rp9 b9 => rp9 = rp ∧ xu_K a b9) rp9 b9 ∧ uw_W g o ((xu_route σ f r b tt u w).2) th rp9 n t9 b9 T) (xu_W o)) ([.ref o, .int tt, .int f, .int r, .int b, .int w] : List Value).toArray s 0 0 (xu_W o)) (F0 m 129 ls []) := by
              intro n9
              induction n9 with
              | zero =>
                intro i  rp9 t b9 H locs ls hi hX hS hF hl hres 
                have e9 : i = 6 := by omega
                refine lv_iload hx hb d_U_route_129 (lv_at hl 0 rfl) ?_
                refine lv_bipush (v := 6) hx hb d_U_route_131 (by decide) ?_
                refine lv_icmp_ge (tgt := 191) hx hb d_U_route_133 (by decide) (fun c_4 => ?_) (fun c_4 => absurd (nI_le (show 6 ≤ i by omega) (show i < 2 ^ 31 by omega)) c_4)
                refine lv_iload hx hb d_U_route_191 (lv_at hl 1 rfl) ?_
                refine lv_if_lt (tgt := 198) hx hb d_U_route_193 (by decide) (fun c_5 => ?_) (fun c_5 => absurd c_3 c_5)
                have hlen := (hX.2.2.1.2.2.2.2.1 (xs_ix tt) (xs_ixl hvt)).2.1
                refine lv_aload_n hx hb d_U_route_198 rfl (lv_at hl 2 rfl) ?_
                refine xb_get (v := .ref (o + 1)) hx hb hts xw_in_U hown hK (ci := xi_U) rfl 1 (by decide) (hts _ lk_U_7) rfl hX.1 rfl d_U_route_199 ?_
                refine lv_iload_n hx hb d_U_route_202 rfl (lv_at hl 3 rfl) ?_
                refine ug_z (v := xs_b (xs_ac σ (xs_ix tt)).1) hx hb hK hX.2.1 1 (by decide) (by decide) rfl rfl hvt ((hX.2.2.1.1 (xs_ix tt) (xs_ixl hvt)).1) d_U_route_203 ?_
                refine lv_if_eq (tgt := 217) hx hb d_U_route_204 (by decide) (fun c_6 => ?_) (fun c_6 => ?_)
                · have c_6 := xs_b0 c_6
                  refine lv_bipush (v := 8) hx hb d_U_route_217 (by decide) ?_
                  have e9 : xu_route σ f r b tt u w = (8, σ) := by unfold xu_route xu_route2; rw [hfst]; show (if ¬ xm_great 6 0 σ tt (-1) < 0 then _ else if (xs_ac σ (xs_ix tt)).1 = true ∧ xm_full σ (xs_ix tt) = false then _ else _) = _; rw [← hbest, if_neg (fun q => q c_3), if_neg (fun q => absurd q.1 (by rw [c_6]; decide))]
                  exact ur_I (G := (fun rp9 b9 => rp9 = rp ∧ xu_K a b9)) (τ := (xu_route σ f r b tt u w).2) (r := (xu_route σ f r b tt u w).1) hC hK hX hS ⟨rfl, hF⟩ (by rw [e9]) rfl rfl (by rw [e9]) d_U_route_219
                · have c_6 := xs_b1 c_6
                  refine lv_aload_n hx hb d_U_route_207 rfl (lv_at hl 2 rfl) ?_
                  refine xb_get (v := .ref (o + 18)) hx hb hts xw_in_U hown hK (ci := xi_U) rfl 19 (by decide) (hts _ lk_U_62) rfl hX.1 rfl d_U_route_208 ?_
                  refine lv_iload_n hx hb d_U_route_211 rfl (lv_at hl 3 rfl) ?_
                  refine ug_i (v := nI (xs_q σ (xs_ix tt)).length) hx hb hK hX.2.1 18 (by decide) (by decide) rfl rfl hvt ((hX.2.2.1.2.2.2.2.1 (xs_ix tt) (xs_ixl hvt)).1) d_U_route_212 ?_
                  refine lv_iconst (v := 4) hx hb d_U_route_213 (by decide) ?_
                  refine lv_icmp_ne (tgt := 220) hx hb d_U_route_214 (by decide) (fun c_7 => ?_) (fun c_7 => ?_)
                  · have hlt := xu_ne4 hlen c_7
                    have hm := xu_ix4 hvt hlt
                    refine lv_iconst (v := 4) hx hb d_U_route_220 (by decide) ?_
                    refine lv_iload_n hx hb d_U_route_221 rfl (lv_at hl 3 rfl) ?_
                    refine lv_imul hx hb d_U_route_222 ?_
                    refine lv_aload_n hx hb d_U_route_223 rfl (lv_at hl 2 rfl) ?_
                    refine xb_get (v := .ref (o + 18)) hx hb hts xw_in_U hown hK (ci := xi_U) rfl 19 (by decide) (hts _ lk_U_62) rfl hX.1 rfl d_U_route_224 ?_
                    refine lv_iload_n hx hb d_U_route_227 rfl (lv_at hl 3 rfl) ?_
                    refine ug_i (v := nI (xs_q σ (xs_ix tt)).length) hx hb hK hX.2.1 18 (by decide) (by decide) rfl rfl hvt ((hX.2.2.1.2.2.2.2.1 (xs_ix tt) (xs_ixl hvt)).1) d_U_route_228 ?_
                    refine lv_iadd hx hb d_U_route_229 ?_
                    refine lv_istore (lv' := [(7, .int ((4 * tt) + (nI (xs_q σ (xs_ix tt)).length))), (6, .int g0), (0, .ref o), (1, .int tt), (2, .int f), (3, .int r), (4, .int b), (5, .int w)]) hx hb d_U_route_230 hl (by decide) rfl (fun ls hl => ?_)
                    refine lv_aload_n hx hb d_U_route_232 rfl (lv_at hl 2 rfl) ?_
                    refine xb_get (v := .ref (o + 15)) hx hb hts xw_in_U hown hK (ci := xi_U) rfl 16 (by decide) (hts _ lk_U_53) rfl hX.1 rfl d_U_route_233 ?_
                    refine lv_iload hx hb d_U_route_236 (lv_at hl 0 rfl) ?_
                    refine lv_iload_n hx hb d_U_route_238 rfl (lv_at hl 4 rfl) ?_
                    have hO := hX.1
                    have hA := hX.2.1
                    have hR := hX.2.2.1
                    refine uq_i hx hb hK hO hA hS 15 (by decide) (by decide) rfl rfl hm.1 d_U_route_239 (fun H locs hO hA hS => ?_)
                    rw [hm.2] at hA
                    refine lv_aload_n hx hb d_U_route_240 rfl (lv_at hl 2 rfl) ?_
                    refine xb_get (v := .ref (o + 16)) hx hb hts xw_in_U hown hK (ci := xi_U) rfl 17 (by decide) (hts _ lk_U_56) rfl hO rfl d_U_route_241 ?_
                    refine lv_iload hx hb d_U_route_244 (lv_at hl 0 rfl) ?_
                    refine lv_iload_n hx hb d_U_route_246 rfl (lv_at hl 5 rfl) ?_
                    refine uq_i hx hb hK hO hA hS 16 (by decide) (by decide) rfl rfl hm.1 d_U_route_247 (fun H locs hO hA hS => ?_)
                    rw [hm.2] at hA
                    refine lv_aload_n hx hb d_U_route_248 rfl (lv_at hl 2 rfl) ?_
                    refine xb_get (v := .ref (o + 17)) hx hb hts xw_in_U hown hK (ci := xi_U) rfl 18 (by decide) (hts _ lk_U_59) rfl hO rfl d_U_route_249 ?_
                    refine lv_iload hx hb d_U_route_252 (lv_at hl 0 rfl) ?_
                    refine lv_iload hx hb d_U_route_254 (lv_at hl 6 rfl) ?_
                    refine uq_i hx hb hK hO hA hS 17 (by decide) (by decide) rfl rfl hm.1 d_U_route_256 (fun H locs hO hA hS => ?_)
                    rw [hm.2] at hA
                    refine lv_aload_n hx hb d_U_route_257 rfl (lv_at hl 2 rfl) ?_
                    refine xb_get (v := .ref (o + 18)) hx hb hts xw_in_U hown hK (ci := xi_U) rfl 19 (by decide) (hts _ lk_U_62) rfl hO rfl d_U_route_258 ?_
                    refine lv_iload_n hx hb d_U_route_261 rfl (lv_at hl 3 rfl) ?_
                    refine lv_dup2_11 hx hb d_U_route_262 rfl rfl ?_
                    refine ug_i (v := nI (xs_q σ (xs_ix tt)).length) hx hb hK hA 18 (by decide) (by decide) rfl rfl hvt (by simp only [xu_set_ne (by decide : (18 : Nat) ≠ 17), xu_set_ne (by decide : (18 : Nat) ≠ 16), xu_set_ne (by decide : (18 : Nat) ≠ 15)]; exact (hR.2.2.2.2.1 (xs_ix tt) (xs_ixl hvt)).1) d_U_route_263 ?_
                    refine lv_iconst (v := 1) hx hb d_U_route_264 (by decide) ?_
                    refine lv_iadd hx hb d_U_route_265 ?_
                    refine uq_i hx hb hK hO hA hS 18 (by decide) (by decide) rfl rfl hvt d_U_route_266 (fun H locs hO hA hS => ?_)
                    refine lv_iconst (v := 0) hx hb d_U_route_267 (by decide) ?_
                    have hX : xu_R g o (xm_add σ (xs_ix tt) (1, f, r, b, tt, u)) th rp n t (xu_set (xu_set (xu_set (xu_set b9 15 (4 * xs_ix tt + (xs_q σ (xs_ix tt)).length) f) 16 (4 * xs_ix tt + (xs_q σ (xs_ix tt)).length) r) 17 (4 * xs_ix tt + (xs_q σ (xs_ix tt)).length) b) 18 (xs_ix tt) ((nI (xs_q σ (xs_ix tt)).length) + 1)) H := ⟨by rw [show xu_num (xm_add σ (xs_ix tt) (1, f, r, b, tt, u)) th rp n t = xu_num σ th rp n t from xu_num_addk (xs_ixl hvt) hlt]; exact hO, hA, xu_keep1 hR (xs_ixl hvt) rfl hlt, xu_tk_add hX.2.2.2.1, xu_nx_add hX.2.2.2.2⟩
                    have hF := (((hF.set (k := 15) (i := 4 * xs_ix tt + (xs_q σ (xs_ix tt)).length) (v := f) (by decide)).set (k := 16) (i := 4 * xs_ix tt + (xs_q σ (xs_ix tt)).length) (v := r) (by decide)).set (k := 17) (i := 4 * xs_ix tt + (xs_q σ (xs_ix tt)).length) (v := b) (by decide)).set (k := 18) (i := xs_ix tt) (v := nI (xs_q σ (xs_ix tt)).length + 1) (by decide)
                    have e9 : xu_route σ f r b tt u w = (0, xm_add σ (xs_ix tt) (1, f, r, b, tt, u)) := by unfold xu_route xu_route2; rw [hfst]; show (if ¬ xm_great 6 0 σ tt (-1) < 0 then _ else if (xs_ac σ (xs_ix tt)).1 = true ∧ xm_full σ (xs_ix tt) = false then _ else _) = _; rw [← hbest, if_neg (fun q => q c_3), if_pos ⟨c_6, xm_full_n4 (xs_ixl hvt) hlt⟩]
                    exact ur_I (G := (fun rp9 b9 => rp9 = rp ∧ xu_K a b9)) (τ := (xu_route σ f r b tt u w).2) (r := (xu_route σ f r b tt u w).1) hC hK hX hS ⟨rfl, hF⟩ (by rw [e9]) rfl rfl (by rw [e9]) d_U_route_268
                  · refine lv_bipush (v := 8) hx hb d_U_route_217 (by decide) ?_
                    have e9 : xu_route σ f r b tt u w = (8, σ) := by unfold xu_route xu_route2; rw [hfst]; show (if ¬ xm_great 6 0 σ tt (-1) < 0 then _ else if (xs_ac σ (xs_ix tt)).1 = true ∧ xm_full σ (xs_ix tt) = false then _ else _) = _; rw [← hbest, if_neg (fun q => q c_3), if_neg (fun q => absurd q.2 (by rw [xm_full_4 (xs_ixl hvt) (xu_eq4 hlen c_7)]; decide))]
                    exact ur_I (G := (fun rp9 b9 => rp9 = rp ∧ xu_K a b9)) (τ := (xu_route σ f r b tt u w).2) (r := (xu_route σ f r b tt u w).1) hC hK hX hS ⟨rfl, hF⟩ (by rw [e9]) rfl rfl (by rw [e9]) d_U_route_219
              | succ n9 ihn9 =>
                intro i  rp9 t b9 H locs ls hi hX hS hF hl hres 
                refine lv_iload hx hb d_U_route_129 (lv_at hl 0 rfl) ?_
                refine lv_bipush (v := 6) hx hb d_U_route_131 (by decide) ?_
                refine lv_icmp_ge (tgt := 191) hx hb d_U_route_133 (by decide) (fun c_8 => absurd c_8 (nI_ge (show i < 6 by omega) (by decide))) (fun c_8 => ?_)
                refine lv_iload hx hb d_U_route_136 (lv_at hl 1 rfl) ?_
                refine lv_if_lt (tgt := 185) hx hb d_U_route_138 (by decide) (fun c_9 => ?_) (fun c_9 => absurd c_3 c_9)
                refine lv_iinc (v := nI (i + 1)) (lv' := [(7, .int (nI (i + 1))), (6, .int g0), (0, .ref o), (1, .int tt), (2, .int f), (3, .int r), (4, .int b), (5, .int w)]) hx hb d_U_route_185 hl (k := 0) rfl (nI_1 _) (by decide) rfl (fun ls hl => ?_)
                refine lv_goto (tgt := 129) hx hb d_U_route_188 (by decide) ?_
                exact ihn9 (i + 1)  rp _ _ _ _ ls (by omega) hX hS hF (lv_sub hl [0, 1, 2, 3, 4, 5, 6, 7] rfl) rfl 
            exact loop129 6 0  rp _ _ _ _ ls (by omega) hX hS hF (lv_sub hl [0, 1, 2, 3, 4, 5, 6, 7] rfl) rfl 
          · skip
            refine lv_iconst (v := 0) hx hb d_U_route_126 (by decide) ?_
            refine lv_istore (lv' := [(7, .int 0), (6, .int g0), (0, .ref o), (1, .int tt), (2, .int f), (3, .int r), (4, .int b), (5, .int w)]) hx hb d_U_route_127 hl (by decide) rfl (fun ls hl => ?_)
            have loop129 : ∀ (n9 i : Nat) (τ : xs_S) (rp9 : Int32) (t : xu_X) (b9 : xu_M) (H : Heap) (locs : List Loc) (ls : Array Slot), i + n9 = 6 → xu_R g o τ th rp n t b9 H → va_S (xu_W o) s.heap H locs → xu_K a b9 → lv_has ls 8 [(7, .int (nI i)), (6, .int g0), (0, .ref o), (1, .int tt), (2, .int f), (3, .int r), (4, .int b), (5, .int w)] → xm_gp n9 i τ (1, f, r, b, tt, u) g0 = xm_gp 6 0 σ (1, f, r, b, tt, u) g0 → W p l e R s m ([.ref o, .int tt, .int f, .int r, .int b, .int w] : List Value).toArray below meth c H locs 0 0 (MQ below (xb_Q (fun v T => v = .int ((xu_route σ f r b tt u w).1) ∧ ∃ rp9 t9 b9, (fun rp9 b9 => rp9 = rp ∧ xu_K a b9) rp9 b9 ∧ uw_W g o ((xu_route σ f r b tt u w).2) th rp9 n t9 b9 T) (xu_W o)) ([.ref o, .int tt, .int f, .int r, .int b, .int w] : List Value).toArray s 0 0 (xu_W o)) (F0 m 129 ls []) := by
              intro n9
              induction n9 with
              | zero =>
                intro i τ rp9 t b9 H locs ls hi hX hS hF hl hres 
                have e9 : i = 6 := by omega
                refine lv_iload hx hb d_U_route_129 (lv_at hl 0 rfl) ?_
                refine lv_bipush (v := 6) hx hb d_U_route_131 (by decide) ?_
                refine lv_icmp_ge (tgt := 191) hx hb d_U_route_133 (by decide) (fun c_10 => ?_) (fun c_10 => absurd (nI_le (show 6 ≤ i by omega) (show i < 2 ^ 31 by omega)) c_10)
                refine lv_iload hx hb d_U_route_191 (lv_at hl 1 rfl) ?_
                refine lv_if_lt (tgt := 198) hx hb d_U_route_193 (by decide) (fun c_11 => absurd c_11 c_3) (fun c_11 => ?_)
                refine lv_iconst (v := 0) hx hb d_U_route_196 (by decide) ?_
                have e9 : xu_route σ f r b tt u w = (0, τ) := by unfold xu_route xu_route2; rw [hfst]; show (if ¬ xm_great 6 0 σ tt (-1) < 0 then _ else _) = _; rw [← hbest, if_pos c_3, ← hres]; rfl
                exact ur_I (G := (fun rp9 b9 => rp9 = rp ∧ xu_K a b9)) (τ := (xu_route σ f r b tt u w).2) (r := (xu_route σ f r b tt u w).1) hC hK hX hS ⟨rfl, hF⟩ (by rw [e9]) rfl rfl (by rw [e9]) d_U_route_197
              | succ n9 ihn9 =>
                intro i τ rp9 t b9 H locs ls hi hX hS hF hl hres 
                refine lv_iload hx hb d_U_route_129 (lv_at hl 0 rfl) ?_
                refine lv_bipush (v := 6) hx hb d_U_route_131 (by decide) ?_
                refine lv_icmp_ge (tgt := 191) hx hb d_U_route_133 (by decide) (fun c_12 => absurd c_12 (nI_ge (show i < 6 by omega) (by decide))) (fun c_12 => ?_)
                refine lv_iload hx hb d_U_route_136 (lv_at hl 1 rfl) ?_
                refine lv_if_lt (tgt := 185) hx hb d_U_route_138 (by decide) (fun c_13 => absurd c_13 c_3) (fun c_13 => ?_)
                refine lv_aload_n hx hb d_U_route_141 rfl (lv_at hl 2 rfl) ?_
                refine xb_get (v := .ref (o + 7)) hx hb hts xw_in_U hown hK (ci := xi_U) rfl 7 (by decide) (hts _ lk_U_29) rfl hX.1 rfl d_U_route_142 ?_
                refine lv_iload hx hb d_U_route_145 (lv_at hl 0 rfl) ?_
                refine ug_z (v := xs_b (xs_cn τ i).2.2.2.2.2) hx hb hK hX.2.1 7 (by decide) (by decide) rfl rfl (vp_in_nI (show i < 6 by omega) (by decide)) ((by rw [(xs_ix_nI (show i < 2 ^ 31 by omega))]; exact (hX.2.2.1.2.2.1 i ((xs_ix_nI (show i < 2 ^ 31 by omega)) ▸ xs_ixl (vp_in_nI (show i < 6 by omega) (by decide)))).2.2.2.1)) d_U_route_147 ?_
                refine lv_if_eq (tgt := 185) hx hb d_U_route_148 (by decide) (fun c_14 => ?_) (fun c_14 => ?_)
                · have c_14 := xs_b0 c_14
                  refine lv_iinc (v := nI (i + 1)) (lv' := [(7, .int (nI (i + 1))), (6, .int g0), (0, .ref o), (1, .int tt), (2, .int f), (3, .int r), (4, .int b), (5, .int w)]) hx hb d_U_route_185 hl (k := 0) rfl (nI_1 _) (by decide) rfl (fun ls hl => ?_)
                  refine lv_goto (tgt := 129) hx hb d_U_route_188 (by decide) ?_
                  exact ihn9 (i + 1) τ rp _ _ _ _ ls (by omega) hX hS hF (lv_sub hl [0, 1, 2, 3, 4, 5, 6, 7] rfl) (by rw [← hres]; simp only [xm_gp, xm_av, xs_b, Bool.true_and, Bool.false_and, decide_true, decide_false, c_14, if_true, if_false, reduceIte, Bool.false_eq_true, Bool.true_eq_false, and_true, true_and, and_false, false_and, or_true, true_or, or_false, false_or, not_true_eq_false, not_false_eq_true] <;> rfl) 
                · have c_14 := xs_b1 c_14
                  refine lv_aload_n hx hb d_U_route_151 rfl (lv_at hl 2 rfl) ?_
                  refine xb_get (v := .ref (o + 5)) hx hb hts xw_in_U hown hK (ci := xi_U) rfl 5 (by decide) (hts _ lk_U_23) rfl hX.1 rfl d_U_route_152 ?_
                  refine lv_iload hx hb d_U_route_155 (lv_at hl 0 rfl) ?_
                  refine ug_i (v := (xs_cn τ i).2.1) hx hb hK hX.2.1 5 (by decide) (by decide) rfl rfl (vp_in_nI (show i < 6 by omega) (by decide)) ((by rw [(xs_ix_nI (show i < 2 ^ 31 by omega))]; exact (hX.2.2.1.2.2.1 i ((xs_ix_nI (show i < 2 ^ 31 by omega)) ▸ xs_ixl (vp_in_nI (show i < 6 by omega) (by decide)))).2.1)) d_U_route_157 ?_
                  refine lv_iload_n hx hb d_U_route_158 rfl (lv_at hl 3 rfl) ?_
                  refine lv_icmp_ne (tgt := 185) hx hb d_U_route_159 (by decide) (fun c_15 => ?_) (fun c_15 => ?_)
                  · refine lv_iinc (v := nI (i + 1)) (lv' := [(7, .int (nI (i + 1))), (6, .int g0), (0, .ref o), (1, .int tt), (2, .int f), (3, .int r), (4, .int b), (5, .int w)]) hx hb d_U_route_185 hl (k := 0) rfl (nI_1 _) (by decide) rfl (fun ls hl => ?_)
                    refine lv_goto (tgt := 129) hx hb d_U_route_188 (by decide) ?_
                    exact ihn9 (i + 1) τ rp _ _ _ _ ls (by omega) hX hS hF (lv_sub hl [0, 1, 2, 3, 4, 5, 6, 7] rfl) (by rw [← hres]; simp only [xm_gp, xm_av, xs_b, Bool.true_and, Bool.false_and, decide_true, decide_false, c_14, c_15, if_true, if_false, reduceIte, Bool.false_eq_true, Bool.true_eq_false, and_true, true_and, and_false, false_and, or_true, true_or, or_false, false_or, not_true_eq_false, not_false_eq_true] <;> rfl) 
                  · refine lv_aload_n hx hb d_U_route_162 rfl (lv_at hl 2 rfl) ?_
                    refine xb_get (v := .ref (o + 8)) hx hb hts xw_in_U hown hK (ci := xi_U) rfl 8 (by decide) (hts _ lk_U_32) rfl hX.1 rfl d_U_route_163 ?_
                    refine lv_iload hx hb d_U_route_166 (lv_at hl 0 rfl) ?_
                    refine ug_i (v := (xs_cn τ i).2.2.2.1) hx hb hK hX.2.1 8 (by decide) (by decide) rfl rfl (vp_in_nI (show i < 6 by omega) (by decide)) ((by rw [(xs_ix_nI (show i < 2 ^ 31 by omega))]; exact (hX.2.2.1.2.2.1 i ((xs_ix_nI (show i < 2 ^ 31 by omega)) ▸ xs_ixl (vp_in_nI (show i < 6 by omega) (by decide)))).2.2.2.2.1)) d_U_route_168 ?_
                    refine lv_iload hx hb d_U_route_169 (lv_at hl 1 rfl) ?_
                    refine lv_icmp_ne (tgt := 185) hx hb d_U_route_171 (by decide) (fun c_16 => ?_) (fun c_16 => ?_)
                    · refine lv_iinc (v := nI (i + 1)) (lv' := [(7, .int (nI (i + 1))), (6, .int g0), (0, .ref o), (1, .int tt), (2, .int f), (3, .int r), (4, .int b), (5, .int w)]) hx hb d_U_route_185 hl (k := 0) rfl (nI_1 _) (by decide) rfl (fun ls hl => ?_)
                      refine lv_goto (tgt := 129) hx hb d_U_route_188 (by decide) ?_
                      exact ihn9 (i + 1) τ rp _ _ _ _ ls (by omega) hX hS hF (lv_sub hl [0, 1, 2, 3, 4, 5, 6, 7] rfl) (by rw [← hres]; simp only [xm_gp, xm_av, xs_b, Bool.true_and, Bool.false_and, decide_true, decide_false, c_14, c_15, c_16, if_true, if_false, reduceIte, Bool.false_eq_true, Bool.true_eq_false, and_true, true_and, and_false, false_and, or_true, true_or, or_false, false_or, not_true_eq_false, not_false_eq_true] <;> rfl) 
                    · refine lv_aload_n hx hb d_U_route_174 rfl (lv_at hl 2 rfl) ?_
                      refine lv_iload hx hb d_U_route_175 (lv_at hl 0 rfl) ?_
                      refine lv_iconst (v := 1) hx hb d_U_route_177 (by decide) ?_
                      refine lv_iload_n hx hb d_U_route_178 rfl (lv_at hl 4 rfl) ?_
                      refine lv_iload_n hx hb d_U_route_179 rfl (lv_at hl 5 rfl) ?_
                      refine lv_iload hx hb d_U_route_180 (lv_at hl 6 rfl) ?_
                      refine uk_iV (rest := []) (c_U_put l g o τ th rp n t b9 (nI i) i (vp_in_nI (show i < 6 by omega) (by decide)) (xs_ix_nI (show i < 2 ^ 31 by omega)) (1, f, r, b, tt, u)) gd_U_U_put hd_U_put hC hK hX hS (fun _ h => h) (by omega) (by omega) (by omega) (by omega) hl.1 rfl (Nat.le_of_ble_eq_true rfl) d_U_route_182 (fun rp9 t b9 H locs hG9 hX hS _ _ => ?_)
                      rw [hG9.1] at hX
                      have hF := hF.tr hG9.2
                      refine lv_iinc (v := nI (i + 1)) (lv' := [(7, .int (nI (i + 1))), (6, .int g0), (0, .ref o), (1, .int tt), (2, .int f), (3, .int r), (4, .int b), (5, .int w)]) hx hb d_U_route_185 hl (k := 0) rfl (nI_1 _) (by decide) rfl (fun ls hl => ?_)
                      refine lv_goto (tgt := 129) hx hb d_U_route_188 (by decide) ?_
                      exact ihn9 (i + 1) (xm_add τ (8 + i) (1, f, r, b, tt, u)) rp _ _ _ _ ls (by omega) hX hS hF (lv_sub hl [0, 1, 2, 3, 4, 5, 6, 7] rfl) (by rw [← hres]; simp only [xm_gp, xm_av, xs_b, Bool.true_and, Bool.false_and, decide_true, decide_false, c_14, c_15, c_16, if_true, if_false, reduceIte, Bool.false_eq_true, Bool.true_eq_false, and_true, true_and, and_false, false_and, or_true, true_or, or_false, false_or, not_true_eq_false, not_false_eq_true] <;> rfl) 
            exact loop129 6 0 σ rp _ _ _ _ ls (by omega) hX hS hF (lv_sub hl [0, 1, 2, 3, 4, 5, 6, 7] rfl) rfl 
        | succ n9 ihn9 =>
          intro i g0 rp9 t b9 H locs ls hi hX hS hF hl hres 
          refine lv_iload hx hb d_U_route_71 (lv_at hl 0 rfl) ?_
          refine lv_bipush (v := 6) hx hb d_U_route_73 (by decide) ?_
          refine lv_icmp_ge (tgt := 126) hx hb d_U_route_75 (by decide) (fun c_17 => absurd c_17 (nI_ge (show i < 6 by omega) (by decide))) (fun c_17 => ?_)
          refine lv_aload_n hx hb d_U_route_78 rfl (lv_at hl 2 rfl) ?_
          refine xb_get (v := .ref (o + 7)) hx hb hts xw_in_U hown hK (ci := xi_U) rfl 7 (by decide) (hts _ lk_U_29) rfl hX.1 rfl d_U_route_79 ?_
          refine lv_iload hx hb d_U_route_82 (lv_at hl 0 rfl) ?_
          refine ug_z (v := xs_b (xs_cn σ i).2.2.2.2.2) hx hb hK hX.2.1 7 (by decide) (by decide) rfl rfl (vp_in_nI (show i < 6 by omega) (by decide)) ((by rw [(xs_ix_nI (show i < 2 ^ 31 by omega))]; exact (hX.2.2.1.2.2.1 i ((xs_ix_nI (show i < 2 ^ 31 by omega)) ▸ xs_ixl (vp_in_nI (show i < 6 by omega) (by decide)))).2.2.2.1)) d_U_route_84 ?_
          refine lv_if_eq (tgt := 120) hx hb d_U_route_85 (by decide) (fun c_18 => ?_) (fun c_18 => ?_)
          · have c_18 := xs_b0 c_18
            refine lv_iinc (v := nI (i + 1)) (lv' := [(7, .int (nI (i + 1))), (6, .int g0), (0, .ref o), (1, .int tt), (2, .int f), (3, .int r), (4, .int b), (5, .int w)]) hx hb d_U_route_120 hl (k := 0) rfl (nI_1 _) (by decide) rfl (fun ls hl => ?_)
            refine lv_goto (tgt := 71) hx hb d_U_route_123 (by decide) ?_
            exact ihn9 (i + 1) g0 rp _ _ _ _ ls (by omega) hX hS hF (lv_sub hl [0, 1, 2, 3, 4, 5, 6, 7] rfl) (by rw [← hres]; simp only [xm_great, xm_av, xs_b, Bool.true_and, Bool.false_and, decide_true, decide_false, c_18, if_true, if_false, reduceIte, Bool.false_eq_true, Bool.true_eq_false, and_true, true_and, and_false, false_and, or_true, true_or, or_false, false_or, not_true_eq_false, not_false_eq_true] <;> rfl) 
          · have c_18 := xs_b1 c_18
            refine lv_aload_n hx hb d_U_route_88 rfl (lv_at hl 2 rfl) ?_
            refine xb_get (v := .ref (o + 5)) hx hb hts xw_in_U hown hK (ci := xi_U) rfl 5 (by decide) (hts _ lk_U_23) rfl hX.1 rfl d_U_route_89 ?_
            refine lv_iload hx hb d_U_route_92 (lv_at hl 0 rfl) ?_
            refine ug_i (v := (xs_cn σ i).2.1) hx hb hK hX.2.1 5 (by decide) (by decide) rfl rfl (vp_in_nI (show i < 6 by omega) (by decide)) ((by rw [(xs_ix_nI (show i < 2 ^ 31 by omega))]; exact (hX.2.2.1.2.2.1 i ((xs_ix_nI (show i < 2 ^ 31 by omega)) ▸ xs_ixl (vp_in_nI (show i < 6 by omega) (by decide)))).2.1)) d_U_route_94 ?_
            refine lv_iload_n hx hb d_U_route_95 rfl (lv_at hl 3 rfl) ?_
            refine lv_icmp_ne (tgt := 120) hx hb d_U_route_96 (by decide) (fun c_19 => ?_) (fun c_19 => ?_)
            · refine lv_iinc (v := nI (i + 1)) (lv' := [(7, .int (nI (i + 1))), (6, .int g0), (0, .ref o), (1, .int tt), (2, .int f), (3, .int r), (4, .int b), (5, .int w)]) hx hb d_U_route_120 hl (k := 0) rfl (nI_1 _) (by decide) rfl (fun ls hl => ?_)
              refine lv_goto (tgt := 71) hx hb d_U_route_123 (by decide) ?_
              exact ihn9 (i + 1) g0 rp _ _ _ _ ls (by omega) hX hS hF (lv_sub hl [0, 1, 2, 3, 4, 5, 6, 7] rfl) (by rw [← hres]; simp only [xm_great, xm_av, xs_b, Bool.true_and, Bool.false_and, decide_true, decide_false, c_18, c_19, if_true, if_false, reduceIte, Bool.false_eq_true, Bool.true_eq_false, and_true, true_and, and_false, false_and, or_true, true_or, or_false, false_or, not_true_eq_false, not_false_eq_true] <;> rfl) 
            · refine lv_aload_n hx hb d_U_route_99 rfl (lv_at hl 2 rfl) ?_
              refine xb_get (v := .ref (o + 8)) hx hb hts xw_in_U hown hK (ci := xi_U) rfl 8 (by decide) (hts _ lk_U_32) rfl hX.1 rfl d_U_route_100 ?_
              refine lv_iload hx hb d_U_route_103 (lv_at hl 0 rfl) ?_
              refine ug_i (v := (xs_cn σ i).2.2.2.1) hx hb hK hX.2.1 8 (by decide) (by decide) rfl rfl (vp_in_nI (show i < 6 by omega) (by decide)) ((by rw [(xs_ix_nI (show i < 2 ^ 31 by omega))]; exact (hX.2.2.1.2.2.1 i ((xs_ix_nI (show i < 2 ^ 31 by omega)) ▸ xs_ixl (vp_in_nI (show i < 6 by omega) (by decide)))).2.2.2.2.1)) d_U_route_105 ?_
              refine lv_iload hx hb d_U_route_106 (lv_at hl 1 rfl) ?_
              refine lv_icmp_le (tgt := 120) hx hb d_U_route_108 (by decide) (fun c_20 => ?_) (fun c_20 => ?_)
              · refine lv_iinc (v := nI (i + 1)) (lv' := [(7, .int (nI (i + 1))), (6, .int g0), (0, .ref o), (1, .int tt), (2, .int f), (3, .int r), (4, .int b), (5, .int w)]) hx hb d_U_route_120 hl (k := 0) rfl (nI_1 _) (by decide) rfl (fun ls hl => ?_)
                refine lv_goto (tgt := 71) hx hb d_U_route_123 (by decide) ?_
                exact ihn9 (i + 1) g0 rp _ _ _ _ ls (by omega) hX hS hF (lv_sub hl [0, 1, 2, 3, 4, 5, 6, 7] rfl) (by rw [← hres]; simp only [xm_great, xm_av, xs_b, Bool.true_and, Bool.false_and, decide_true, decide_false, c_18, c_19, c_20, if_true, if_false, reduceIte, Bool.false_eq_true, Bool.true_eq_false, and_true, true_and, and_false, false_and, or_true, true_or, or_false, false_or, not_true_eq_false, not_false_eq_true] <;> rfl) 
              · refine lv_aload_n hx hb d_U_route_111 rfl (lv_at hl 2 rfl) ?_
                refine xb_get (v := .ref (o + 8)) hx hb hts xw_in_U hown hK (ci := xi_U) rfl 8 (by decide) (hts _ lk_U_32) rfl hX.1 rfl d_U_route_112 ?_
                refine lv_iload hx hb d_U_route_115 (lv_at hl 0 rfl) ?_
                refine ug_i (v := (xs_cn σ i).2.2.2.1) hx hb hK hX.2.1 8 (by decide) (by decide) rfl rfl (vp_in_nI (show i < 6 by omega) (by decide)) ((by rw [(xs_ix_nI (show i < 2 ^ 31 by omega))]; exact (hX.2.2.1.2.2.1 i ((xs_ix_nI (show i < 2 ^ 31 by omega)) ▸ xs_ixl (vp_in_nI (show i < 6 by omega) (by decide)))).2.2.2.2.1)) d_U_route_117 ?_
                refine lv_istore (lv' := [(6, .int ((xs_cn σ i).2.2.2.1)), (7, .int (nI i)), (0, .ref o), (1, .int tt), (2, .int f), (3, .int r), (4, .int b), (5, .int w)]) hx hb d_U_route_118 hl (by decide) rfl (fun ls hl => ?_)
                refine lv_iinc (v := nI (i + 1)) (lv' := [(7, .int (nI (i + 1))), (6, .int ((xs_cn σ i).2.2.2.1)), (0, .ref o), (1, .int tt), (2, .int f), (3, .int r), (4, .int b), (5, .int w)]) hx hb d_U_route_120 hl (k := 1) rfl (nI_1 _) (by decide) rfl (fun ls hl => ?_)
                refine lv_goto (tgt := 71) hx hb d_U_route_123 (by decide) ?_
                exact ihn9 (i + 1) ((xs_cn σ i).2.2.2.1) rp _ _ _ _ ls (by omega) hX hS hF (lv_sub hl [0, 1, 2, 3, 4, 5, 6, 7] rfl) (by rw [← hres]; simp only [xm_great, xm_av, xs_b, Bool.true_and, Bool.false_and, decide_true, decide_false, c_18, c_19, c_20, if_true, if_false, reduceIte, Bool.false_eq_true, Bool.true_eq_false, and_true, true_and, and_false, false_and, or_true, true_or, or_false, false_or, not_true_eq_false, not_false_eq_true] <;> rfl) 
      exact loop71 6 0 (-1) rp _ _ _ _ ls (by omega) hX hS hF (lv_sub hl [0, 1, 2, 3, 4, 5, 6, 7] rfl) rfl 
    | succ n9 ihn9 =>
      intro i  rp9 t b9 H locs ls hi hX hS hF hl hres 
      refine lv_iload hx hb d_U_route_3 (lv_at hl 0 rfl) ?_
      refine lv_bipush (v := 6) hx hb d_U_route_5 (by decide) ?_
      refine lv_icmp_ge (tgt := 65) hx hb d_U_route_7 (by decide) (fun c_21 => absurd c_21 (nI_ge (show i < 6 by omega) (by decide))) (fun c_21 => ?_)
      refine lv_aload_n hx hb d_U_route_10 rfl (lv_at hl 1 rfl) ?_
      refine xb_get (v := .ref (o + 7)) hx hb hts xw_in_U hown hK (ci := xi_U) rfl 7 (by decide) (hts _ lk_U_29) rfl hX.1 rfl d_U_route_11 ?_
      refine lv_iload hx hb d_U_route_14 (lv_at hl 0 rfl) ?_
      refine ug_z (v := xs_b (xs_cn σ i).2.2.2.2.2) hx hb hK hX.2.1 7 (by decide) (by decide) rfl rfl (vp_in_nI (show i < 6 by omega) (by decide)) ((by rw [(xs_ix_nI (show i < 2 ^ 31 by omega))]; exact (hX.2.2.1.2.2.1 i ((xs_ix_nI (show i < 2 ^ 31 by omega)) ▸ xs_ixl (vp_in_nI (show i < 6 by omega) (by decide)))).2.2.2.1)) d_U_route_16 ?_
      refine lv_if_eq (tgt := 59) hx hb d_U_route_17 (by decide) (fun c_22 => ?_) (fun c_22 => ?_)
      · have c_22 := xs_b0 c_22
        refine lv_iinc (v := nI (i + 1)) (lv' := [(6, .int (nI (i + 1))), (0, .ref o), (1, .int tt), (2, .int f), (3, .int r), (4, .int b), (5, .int w)]) hx hb d_U_route_59 hl (k := 0) rfl (nI_1 _) (by decide) rfl (fun ls hl => ?_)
        refine lv_goto (tgt := 3) hx hb d_U_route_62 (by decide) ?_
        exact ihn9 (i + 1)  rp _ _ _ _ ls (by omega) hX hS hF (lv_sub hl [0, 1, 2, 3, 4, 5, 6] rfl) (by rw [← hres]; simp only [xu_first, c_22, if_true, if_false, reduceIte, Bool.false_eq_true, Bool.true_eq_false, and_true, true_and, and_false, false_and, or_true, true_or, or_false, false_or, not_true_eq_false, not_false_eq_true] <;> rfl) 
      · have c_22 := xs_b1 c_22
        refine lv_aload_n hx hb d_U_route_20 rfl (lv_at hl 1 rfl) ?_
        refine xb_get (v := .ref (o + 5)) hx hb hts xw_in_U hown hK (ci := xi_U) rfl 5 (by decide) (hts _ lk_U_23) rfl hX.1 rfl d_U_route_21 ?_
        refine lv_iload hx hb d_U_route_24 (lv_at hl 0 rfl) ?_
        refine ug_i (v := (xs_cn σ i).2.1) hx hb hK hX.2.1 5 (by decide) (by decide) rfl rfl (vp_in_nI (show i < 6 by omega) (by decide)) ((by rw [(xs_ix_nI (show i < 2 ^ 31 by omega))]; exact (hX.2.2.1.2.2.1 i ((xs_ix_nI (show i < 2 ^ 31 by omega)) ▸ xs_ixl (vp_in_nI (show i < 6 by omega) (by decide)))).2.1)) d_U_route_26 ?_
        refine lv_iload_n hx hb d_U_route_27 rfl (lv_at hl 2 rfl) ?_
        refine lv_icmp_ne (tgt := 59) hx hb d_U_route_28 (by decide) (fun c_23 => ?_) (fun c_23 => ?_)
        · refine lv_iinc (v := nI (i + 1)) (lv' := [(6, .int (nI (i + 1))), (0, .ref o), (1, .int tt), (2, .int f), (3, .int r), (4, .int b), (5, .int w)]) hx hb d_U_route_59 hl (k := 0) rfl (nI_1 _) (by decide) rfl (fun ls hl => ?_)
          refine lv_goto (tgt := 3) hx hb d_U_route_62 (by decide) ?_
          exact ihn9 (i + 1)  rp _ _ _ _ ls (by omega) hX hS hF (lv_sub hl [0, 1, 2, 3, 4, 5, 6] rfl) (by rw [← hres]; simp only [xu_first, c_22, c_23, if_true, if_false, reduceIte, Bool.false_eq_true, Bool.true_eq_false, and_true, true_and, and_false, false_and, or_true, true_or, or_false, false_or, not_true_eq_false, not_false_eq_true] <;> rfl) 
        · refine lv_aload_n hx hb d_U_route_31 rfl (lv_at hl 1 rfl) ?_
          refine xb_get (v := .ref (o + 6)) hx hb hts xw_in_U hown hK (ci := xi_U) rfl 6 (by decide) (hts _ lk_U_26) rfl hX.1 rfl d_U_route_32 ?_
          refine lv_iload hx hb d_U_route_35 (lv_at hl 0 rfl) ?_
          refine ug_i (v := (xs_cn σ i).2.2.1) hx hb hK hX.2.1 6 (by decide) (by decide) rfl rfl (vp_in_nI (show i < 6 by omega) (by decide)) ((by rw [(xs_ix_nI (show i < 2 ^ 31 by omega))]; exact (hX.2.2.1.2.2.1 i ((xs_ix_nI (show i < 2 ^ 31 by omega)) ▸ xs_ixl (vp_in_nI (show i < 6 by omega) (by decide)))).2.2.1)) d_U_route_37 ?_
          refine lv_iload hx hb d_U_route_38 (lv_at hl 6 rfl) ?_
          refine lv_icmp_eq (tgt := 46) hx hb d_U_route_40 (by decide) (fun c_24 => ?_) (fun c_24 => ?_)
          · refine lv_aload_n hx hb d_U_route_46 rfl (lv_at hl 1 rfl) ?_
            refine lv_iload hx hb d_U_route_47 (lv_at hl 0 rfl) ?_
            refine lv_iconst (v := 1) hx hb d_U_route_49 (by decide) ?_
            refine lv_iload_n hx hb d_U_route_50 rfl (lv_at hl 3 rfl) ?_
            refine lv_iload_n hx hb d_U_route_51 rfl (lv_at hl 4 rfl) ?_
            refine lv_iload hx hb d_U_route_52 (lv_at hl 5 rfl) ?_
            refine uk_iV (rest := []) (c_U_put l g o σ th rp n t b9 (nI i) i (vp_in_nI (show i < 6 by omega) (by decide)) (xs_ix_nI (show i < 2 ^ 31 by omega)) (1, f, r, b, tt, u)) gd_U_U_put hd_U_put hC hK hX hS (fun _ h => h) (by omega) (by omega) (by omega) (by omega) hl.1 rfl (Nat.le_of_ble_eq_true rfl) d_U_route_54 (fun rp9 t b9 H locs hG9 hX hS _ _ => ?_)
            rw [hG9.1] at hX
            have hF := hF.tr hG9.2
            refine lv_iconst (v := 0) hx hb d_U_route_57 (by decide) ?_
            have e9 : xu_route σ f r b tt u w = (0, xm_add σ (8 + i) (1, f, r, b, tt, u)) := by unfold xu_route; rw [show xu_first 6 0 σ tt w = some i from by rw [← hres]; simp only [xu_first, c_22, c_23, c_24, if_true, if_false, reduceIte, Bool.false_eq_true, Bool.true_eq_false, and_true, true_and, and_false, false_and, or_true, true_or, or_false, false_or, not_true_eq_false, not_false_eq_true]]
            exact ur_I (G := (fun rp9 b9 => rp9 = rp ∧ xu_K a b9)) (τ := (xu_route σ f r b tt u w).2) (r := (xu_route σ f r b tt u w).1) hC hK hX hS ⟨rfl, hF⟩ (by rw [e9]) rfl rfl (by rw [e9]) d_U_route_58
          · refine lv_goto (tgt := 59) hx hb d_U_route_43 (by decide) ?_
            refine lv_iinc (v := nI (i + 1)) (lv' := [(6, .int (nI (i + 1))), (0, .ref o), (1, .int tt), (2, .int f), (3, .int r), (4, .int b), (5, .int w)]) hx hb d_U_route_59 hl (k := 0) rfl (nI_1 _) (by decide) rfl (fun ls hl => ?_)
            refine lv_goto (tgt := 3) hx hb d_U_route_62 (by decide) ?_
            exact ihn9 (i + 1)  rp _ _ _ _ ls (by omega) hX hS hF (lv_sub hl [0, 1, 2, 3, 4, 5, 6] rfl) (by rw [← hres]; simp only [xu_first, c_22, c_23, c_24, if_true, if_false, reduceIte, Bool.false_eq_true, Bool.true_eq_false, and_true, true_and, and_false, false_and, or_true, true_or, or_false, false_or, not_true_eq_false, not_false_eq_true] <;> rfl) 
  exact loop3 6 0  rp _ _ _ _ ls (by omega) hX hS hF (lv_sub hl [0, 1, 2, 3, 4, 5, 6] rfl) rfl 
set_option maxHeartbeats 4000000 in
set_option maxRecDepth 100000 in
theorem c_U_end (l : Launch) (g : xw_G) (o : Nat) (σ : xs_S) (th rp : Int32) (n : Nat) (t : xu_X) (a : xu_M) (tt f k w u : Int32) (hvt : vp_in tt 8) (hvf : vp_in f 8) : uc_V l y_U_end (Cond.code y_U_end b_U_end 5 none) g o σ th rp n t a (xm_end σ (k, f, -1, 0, tt, u) w) th n (fun rp9 b9 => rp9 = rp ∧ xu_K a b9) [.ref o, .int tt, .int f, .int k, .int w] 2 52 := by
  refine uh_V (own := R_U) (by decide) rfl (Nat.le_of_ble_eq_true rfl) ?_
  intro p e R s m below meth c ls hRf hRl hC hK hX hl
  obtain ⟨hx, hb, hml, hr, hown, hts, hlk⟩ := id hC
  have hS : va_S (xu_W o) s.heap s.heap [] := va_S.rf
  have hF : xu_K a a := xu_K.rf
  have hl : lv_has ls 5 [(0, .ref o), (1, .int tt), (2, .int f), (3, .int k), (4, .int w)] := hl
  refine lv_aload_n hx hb d_U_end_0 rfl (lv_at hl 0 rfl) ?_
  refine lv_iload_n hx hb d_U_end_1 rfl (lv_at hl 1 rfl) ?_
  refine lv_iload_n hx hb d_U_end_2 rfl (lv_at hl 2 rfl) ?_
  refine lv_iload hx hb d_U_end_3 (lv_at hl 4 rfl) ?_
  refine uk_iQ (rest := []) (c_U_marked l g o σ th rp n t a tt (xs_ix tt) hvt rfl f (xs_ix f) hvf rfl w) gd_U_U_marked hd_U_marked hC hK hX hS (fun _ h => h) (by omega) (by omega) (by omega) (by omega) hl.1 rfl (Nat.le_of_ble_eq_true rfl) d_U_end_5 (fun rp9 t b9 H locs hG9 hX hS _ _ => ?_)
  rw [hG9.1] at hX
  have hF := hF.tr hG9.2
  refine lv_if_ne (tgt := 12) hx hb d_U_end_8 (by decide) (fun c_1 => ?_) (fun c_1 => ?_)
  · have c_1 := xs_b1 c_1
    refine lv_aload_n hx hb d_U_end_12 rfl (lv_at hl 0 rfl) ?_
    refine lv_iload_n hx hb d_U_end_13 rfl (lv_at hl 1 rfl) ?_
    refine lv_iload_n hx hb d_U_end_14 rfl (lv_at hl 2 rfl) ?_
    refine lv_iload hx hb d_U_end_15 (lv_at hl 4 rfl) ?_
    refine uk_iV (rest := []) (c_U_unmark l g o σ th rp n t b9 tt (xs_ix tt) hvt rfl f (xs_ix f) hvf rfl w) gd_U_U_unmark hd_U_unmark hC hK hX hS (fun _ h => h) (by omega) (by omega) (by omega) (by omega) hl.1 rfl (Nat.le_of_ble_eq_true rfl) d_U_end_17 (fun rp9 t b9 H locs hG9 hX hS _ _ => ?_)
    rw [hG9.1] at hX
    have hF := hF.tr hG9.2
    refine lv_aload_n hx hb d_U_end_20 rfl (lv_at hl 0 rfl) ?_
    refine lv_iload_n hx hb d_U_end_21 rfl (lv_at hl 1 rfl) ?_
    refine lv_iload_n hx hb d_U_end_22 rfl (lv_at hl 3 rfl) ?_
    refine lv_iload_n hx hb d_U_end_23 rfl (lv_at hl 2 rfl) ?_
    refine lv_iconst (v := (-1)) hx hb d_U_end_24 (by decide) ?_
    refine lv_iconst (v := 0) hx hb d_U_end_25 (by decide) ?_
    refine uk_iV (rest := []) (c_U_putAll l g o (xm_drop σ (xs_ix tt) (xs_ix f) w) th rp n t b9 (k, f, (-1), 0, tt, u)) gd_U_U_putAll hd_U_putAll hC hK hX hS (fun _ h => h) (by omega) (by omega) (by omega) (by omega) hl.1 rfl (Nat.le_of_ble_eq_true rfl) d_U_end_26 (fun rp9 t b9 H locs hG9 hX hS _ _ => ?_)
    rw [hG9.1] at hX
    have hF := hF.tr hG9.2
    exact ur_V (G := (fun rp9 b9 => rp9 = rp ∧ xu_K a b9)) (τ := xm_end σ (k, f, -1, 0, tt, u) w) hC hK hX hS ⟨rfl, hF⟩ (by simp only [xm_end, c_1, if_true, if_false, reduceIte, Bool.false_eq_true, Bool.true_eq_false, and_true, true_and, and_false, false_and, or_true, true_or, or_false, false_or, not_true_eq_false, not_false_eq_true] <;> rfl) rfl rfl d_U_end_29
  · have c_1 := xs_b0 c_1
    exact ur_V (G := (fun rp9 b9 => rp9 = rp ∧ xu_K a b9)) (τ := xm_end σ (k, f, -1, 0, tt, u) w) hC hK hX hS ⟨rfl, hF⟩ (by simp only [xm_end, c_1, if_true, if_false, reduceIte, Bool.false_eq_true, Bool.true_eq_false, and_true, true_and, and_false, false_and, or_true, true_or, or_false, false_or, not_true_eq_false, not_false_eq_true] <;> rfl) rfl rfl d_U_end_11
set_option maxHeartbeats 4000000 in
set_option maxRecDepth 100000 in
theorem c_U_arrive (l : Launch) (g : xw_G) (o : Nat) (σ : xs_S) (th rp : Int32) (n : Nat) (t : xu_X) (a : xu_M) (k f tt r v u w : Int32) (hvt : vp_in tt 8) (hvf : vp_in f 8) : uc_V l y_U_arrive (Cond.code y_U_arrive b_U_arrive 7 none) g o σ th rp n t a ((xu_arr σ k f r v tt u w).2) th n (fun rp9 b9 => rp9 = (xu_arr σ k f r v tt u w).1 ∧ xu_K a b9) [.ref o, .int k, .int f, .int tt, .int r, .int v, .int w] 3 76 := by
  refine uh_V (own := R_U) (by decide) rfl (Nat.le_of_ble_eq_true rfl) ?_
  intro p e R s m below meth c ls hRf hRl hC hK hX hl
  obtain ⟨hx, hb, hml, hr, hown, hts, hlk⟩ := id hC
  have hS : va_S (xu_W o) s.heap s.heap [] := va_S.rf
  have hF : xu_K a a := xu_K.rf
  have hl : lv_has ls 7 [(0, .ref o), (1, .int k), (2, .int f), (3, .int tt), (4, .int r), (5, .int v), (6, .int w)] := hl
  refine lv_aload_n hx hb d_U_arrive_0 rfl (lv_at hl 0 rfl) ?_
  refine lv_iconst (v := 0) hx hb d_U_arrive_1 (by decide) ?_
  refine uo_put (sc' := xu_num σ th 0 n t) hx hb hts hown hK hX.1 hX.2.1 hS 29 (by decide) lk_U_112 rfl rfl rfl rfl rfl d_U_arrive_2 (fun H locs hO hA hS => ?_)
  have hX : xu_R g o σ th 0 n t a H := ⟨hO, hA, hX.2.2.1, hX.2.2.2.1, hX.2.2.2.2⟩
  refine lv_iload_n hx hb d_U_arrive_5 rfl (lv_at hl 1 rfl) ?_
  by_cases c_1 : k = 1
  · refine lv_tableIn (tgt := 48) (off := 42) hx hb d_U_arrive_6 (by rw [c_1]; decide) (by rw [c_1]; decide) (by rw [c_1]; rfl) (by decide) ?_
    refine lv_aload_n hx hb d_U_arrive_48 rfl (lv_at hl 0 rfl) ?_
    refine lv_aload_n hx hb d_U_arrive_49 rfl (lv_at hl 0 rfl) ?_
    refine lv_iload_n hx hb d_U_arrive_50 rfl (lv_at hl 3 rfl) ?_
    refine lv_iload_n hx hb d_U_arrive_51 rfl (lv_at hl 2 rfl) ?_
    refine lv_iload hx hb d_U_arrive_52 (lv_at hl 4 rfl) ?_
    refine lv_iload hx hb d_U_arrive_54 (lv_at hl 5 rfl) ?_
    refine lv_iload hx hb d_U_arrive_56 (lv_at hl 6 rfl) ?_
    refine uk_iQ (rest := [.ref o]) (c_U_route l g o σ th 0 n t a tt f r v u w hvt) gd_U_U_route hd_U_route hC hK hX hS (fun _ h => h) (by omega) (by omega) (by omega) (by omega) hl.1 rfl (Nat.le_of_ble_eq_true rfl) d_U_arrive_58 (fun rp9 t b9 H locs hG9 hX hS _ _ => ?_)
    rw [hG9.1] at hX
    have hF := hF.tr hG9.2
    refine uo_put (sc' := xu_num ((xu_route σ f r v tt u w).2) th ((xu_route σ f r v tt u w).1) n t) hx hb hts hown hK hX.1 hX.2.1 hS 29 (by decide) lk_U_112 rfl rfl rfl rfl rfl d_U_arrive_61 (fun H locs hO hA hS => ?_)
    have hX : xu_R g o ((xu_route σ f r v tt u w).2) th ((xu_route σ f r v tt u w).1) n t b9 H := ⟨hO, hA, hX.2.2.1, hX.2.2.2.1, hX.2.2.2.2⟩
    refine lv_goto (tgt := 210) hx hb d_U_arrive_64 (by decide) ?_
    have e9 : xu_arr σ k f r v tt u w = ((xu_route σ f r v tt u w).1, (xu_route σ f r v tt u w).2) := by simp only [xu_arr, c_1, if_true, if_false, reduceIte, Bool.false_eq_true, Bool.true_eq_false, and_true, true_and, and_false, false_and, or_true, true_or, or_false, false_or, not_true_eq_false, not_false_eq_true] <;> rfl
    exact ur_V (G := (fun rp9 b9 => rp9 = (xu_arr σ k f r v tt u w).1 ∧ xu_K a b9)) (τ := (xu_arr σ k f r v tt u w).2) hC hK hX hS ⟨by rw [e9], hF⟩ (by rw [e9]) rfl rfl d_U_arrive_210
  by_cases c_2 : k = 2
  · refine lv_tableIn (tgt := 67) (off := 61) hx hb d_U_arrive_6 (by rw [c_2]; decide) (by rw [c_2]; decide) (by rw [c_2]; rfl) (by decide) ?_
    refine lv_aload_n hx hb d_U_arrive_67 rfl (lv_at hl 0 rfl) ?_
    refine lv_iload_n hx hb d_U_arrive_68 rfl (lv_at hl 3 rfl) ?_
    refine lv_iload_n hx hb d_U_arrive_69 rfl (lv_at hl 2 rfl) ?_
    refine lv_iconst (v := 1) hx hb d_U_arrive_70 (by decide) ?_
    refine uk_iQ (rest := []) (c_U_marked l g o σ th 0 n t a tt (xs_ix tt) hvt rfl f (xs_ix f) hvf rfl 1) gd_U_U_marked hd_U_marked hC hK hX hS (fun _ h => h) (by omega) (by omega) (by omega) (by omega) hl.1 rfl (Nat.le_of_ble_eq_true rfl) d_U_arrive_71 (fun rp9 t b9 H locs hG9 hX hS _ _ => ?_)
    rw [hG9.1] at hX
    have hF := hF.tr hG9.2
    refine lv_if_eq (tgt := 210) hx hb d_U_arrive_74 (by decide) (fun c_3 => ?_) (fun c_3 => ?_)
    · have c_3 := xs_b0 c_3
      have e9 : xu_arr σ k f r v tt u w = (0, σ) := by simp only [xu_arr, c_1, c_2, c_3, if_true, if_false, reduceIte, Bool.false_eq_true, Bool.true_eq_false, and_true, true_and, and_false, false_and, or_true, true_or, or_false, false_or, not_true_eq_false, not_false_eq_true] <;> rfl
      exact ur_V (G := (fun rp9 b9 => rp9 = (xu_arr σ k f r v tt u w).1 ∧ xu_K a b9)) (τ := (xu_arr σ k f r v tt u w).2) hC hK hX hS ⟨by rw [e9], hF⟩ (by rw [e9]) rfl rfl d_U_arrive_210
    · have c_3 := xs_b1 c_3
      refine lv_aload_n hx hb d_U_arrive_77 rfl (lv_at hl 0 rfl) ?_
      refine lv_iload_n hx hb d_U_arrive_78 rfl (lv_at hl 3 rfl) ?_
      refine lv_iload_n hx hb d_U_arrive_79 rfl (lv_at hl 1 rfl) ?_
      refine lv_iload_n hx hb d_U_arrive_80 rfl (lv_at hl 2 rfl) ?_
      refine lv_iload hx hb d_U_arrive_81 (lv_at hl 4 rfl) ?_
      refine lv_iload hx hb d_U_arrive_83 (lv_at hl 5 rfl) ?_
      refine uk_iV (rest := []) (c_U_putAll l g o σ th 0 n t b9 (k, f, r, v, tt, u)) gd_U_U_putAll hd_U_putAll hC hK hX hS (fun _ h => h) (by omega) (by omega) (by omega) (by omega) hl.1 rfl (Nat.le_of_ble_eq_true rfl) d_U_arrive_85 (fun rp9 t b9 H locs hG9 hX hS _ _ => ?_)
      rw [hG9.1] at hX
      have hF := hF.tr hG9.2
      refine lv_goto (tgt := 210) hx hb d_U_arrive_88 (by decide) ?_
      have e9 : xu_arr σ k f r v tt u w = (0, xm_give 6 0 σ (k, f, r, v, tt, u)) := by simp only [xu_arr, c_1, c_2, c_3, if_true, if_false, reduceIte, Bool.false_eq_true, Bool.true_eq_false, and_true, true_and, and_false, false_and, or_true, true_or, or_false, false_or, not_true_eq_false, not_false_eq_true] <;> rfl
      exact ur_V (G := (fun rp9 b9 => rp9 = (xu_arr σ k f r v tt u w).1 ∧ xu_K a b9)) (τ := (xu_arr σ k f r v tt u w).2) hC hK hX hS ⟨by rw [e9], hF⟩ (by rw [e9]) rfl rfl d_U_arrive_210
  by_cases c_4 : k = 3
  · refine lv_tableIn (tgt := 67) (off := 61) hx hb d_U_arrive_6 (by rw [c_4]; decide) (by rw [c_4]; decide) (by rw [c_4]; rfl) (by decide) ?_
    refine lv_aload_n hx hb d_U_arrive_67 rfl (lv_at hl 0 rfl) ?_
    refine lv_iload_n hx hb d_U_arrive_68 rfl (lv_at hl 3 rfl) ?_
    refine lv_iload_n hx hb d_U_arrive_69 rfl (lv_at hl 2 rfl) ?_
    refine lv_iconst (v := 1) hx hb d_U_arrive_70 (by decide) ?_
    refine uk_iQ (rest := []) (c_U_marked l g o σ th 0 n t a tt (xs_ix tt) hvt rfl f (xs_ix f) hvf rfl 1) gd_U_U_marked hd_U_marked hC hK hX hS (fun _ h => h) (by omega) (by omega) (by omega) (by omega) hl.1 rfl (Nat.le_of_ble_eq_true rfl) d_U_arrive_71 (fun rp9 t b9 H locs hG9 hX hS _ _ => ?_)
    rw [hG9.1] at hX
    have hF := hF.tr hG9.2
    refine lv_if_eq (tgt := 210) hx hb d_U_arrive_74 (by decide) (fun c_5 => ?_) (fun c_5 => ?_)
    · have c_5 := xs_b0 c_5
      have e9 : xu_arr σ k f r v tt u w = (0, σ) := by simp only [xu_arr, c_1, c_2, c_4, c_5, if_true, if_false, reduceIte, Bool.false_eq_true, Bool.true_eq_false, and_true, true_and, and_false, false_and, or_true, true_or, or_false, false_or, not_true_eq_false, not_false_eq_true] <;> rfl
      exact ur_V (G := (fun rp9 b9 => rp9 = (xu_arr σ k f r v tt u w).1 ∧ xu_K a b9)) (τ := (xu_arr σ k f r v tt u w).2) hC hK hX hS ⟨by rw [e9], hF⟩ (by rw [e9]) rfl rfl d_U_arrive_210
    · have c_5 := xs_b1 c_5
      refine lv_aload_n hx hb d_U_arrive_77 rfl (lv_at hl 0 rfl) ?_
      refine lv_iload_n hx hb d_U_arrive_78 rfl (lv_at hl 3 rfl) ?_
      refine lv_iload_n hx hb d_U_arrive_79 rfl (lv_at hl 1 rfl) ?_
      refine lv_iload_n hx hb d_U_arrive_80 rfl (lv_at hl 2 rfl) ?_
      refine lv_iload hx hb d_U_arrive_81 (lv_at hl 4 rfl) ?_
      refine lv_iload hx hb d_U_arrive_83 (lv_at hl 5 rfl) ?_
      refine uk_iV (rest := []) (c_U_putAll l g o σ th 0 n t b9 (k, f, r, v, tt, u)) gd_U_U_putAll hd_U_putAll hC hK hX hS (fun _ h => h) (by omega) (by omega) (by omega) (by omega) hl.1 rfl (Nat.le_of_ble_eq_true rfl) d_U_arrive_85 (fun rp9 t b9 H locs hG9 hX hS _ _ => ?_)
      rw [hG9.1] at hX
      have hF := hF.tr hG9.2
      refine lv_goto (tgt := 210) hx hb d_U_arrive_88 (by decide) ?_
      have e9 : xu_arr σ k f r v tt u w = (0, xm_give 6 0 σ (k, f, r, v, tt, u)) := by simp only [xu_arr, c_1, c_2, c_4, c_5, if_true, if_false, reduceIte, Bool.false_eq_true, Bool.true_eq_false, and_true, true_and, and_false, false_and, or_true, true_or, or_false, false_or, not_true_eq_false, not_false_eq_true] <;> rfl
      exact ur_V (G := (fun rp9 b9 => rp9 = (xu_arr σ k f r v tt u w).1 ∧ xu_K a b9)) (τ := (xu_arr σ k f r v tt u w).2) hC hK hX hS ⟨by rw [e9], hF⟩ (by rw [e9]) rfl rfl d_U_arrive_210
  by_cases c_6 : k = 4
  · refine lv_tableIn (tgt := 91) (off := 85) hx hb d_U_arrive_6 (by rw [c_6]; decide) (by rw [c_6]; decide) (by rw [c_6]; rfl) (by decide) ?_
    refine lv_aload_n hx hb d_U_arrive_91 rfl (lv_at hl 0 rfl) ?_
    refine lv_iload_n hx hb d_U_arrive_92 rfl (lv_at hl 3 rfl) ?_
    refine lv_iload_n hx hb d_U_arrive_93 rfl (lv_at hl 2 rfl) ?_
    refine lv_iconst (v := 2) hx hb d_U_arrive_94 (by decide) ?_
    refine uk_iQ (rest := []) (c_U_marked l g o σ th 0 n t a tt (xs_ix tt) hvt rfl f (xs_ix f) hvf rfl 2) gd_U_U_marked hd_U_marked hC hK hX hS (fun _ h => h) (by omega) (by omega) (by omega) (by omega) hl.1 rfl (Nat.le_of_ble_eq_true rfl) d_U_arrive_95 (fun rp9 t b9 H locs hG9 hX hS _ _ => ?_)
    rw [hG9.1] at hX
    have hF := hF.tr hG9.2
    refine lv_if_eq (tgt := 109) hx hb d_U_arrive_98 (by decide) (fun c_7 => ?_) (fun c_7 => ?_)
    · have c_7 := xs_b0 c_7
      refine lv_aload_n hx hb d_U_arrive_109 rfl (lv_at hl 0 rfl) ?_
      refine xb_get (v := .ref (o + 1)) hx hb hts xw_in_U hown hK (ci := xi_U) rfl 1 (by decide) (hts _ lk_U_7) rfl hX.1 rfl d_U_arrive_110 ?_
      refine lv_iload_n hx hb d_U_arrive_113 rfl (lv_at hl 3 rfl) ?_
      refine ug_z (v := xs_b (xs_ac σ (xs_ix tt)).1) hx hb hK hX.2.1 1 (by decide) (by decide) rfl rfl hvt ((hX.2.2.1.1 (xs_ix tt) (xs_ixl hvt)).1) d_U_arrive_114 ?_
      refine lv_if_eq (tgt := 210) hx hb d_U_arrive_115 (by decide) (fun c_8 => ?_) (fun c_8 => ?_)
      · have c_8 := xs_b0 c_8
        have e9 : xu_arr σ k f r v tt u w = (0, σ) := by simp only [xu_arr, c_1, c_2, c_4, c_6, c_7, c_8, if_true, if_false, reduceIte, Bool.false_eq_true, Bool.true_eq_false, and_true, true_and, and_false, false_and, or_true, true_or, or_false, false_or, not_true_eq_false, not_false_eq_true] <;> rfl
        exact ur_V (G := (fun rp9 b9 => rp9 = (xu_arr σ k f r v tt u w).1 ∧ xu_K a b9)) (τ := (xu_arr σ k f r v tt u w).2) hC hK hX hS ⟨by rw [e9], hF⟩ (by rw [e9]) rfl rfl d_U_arrive_210
      · have c_8 := xs_b1 c_8
        refine lv_aload_n hx hb d_U_arrive_118 rfl (lv_at hl 0 rfl) ?_
        refine lv_iload_n hx hb d_U_arrive_119 rfl (lv_at hl 3 rfl) ?_
        refine lv_iload_n hx hb d_U_arrive_120 rfl (lv_at hl 2 rfl) ?_
        refine lv_bipush (v := 8) hx hb d_U_arrive_121 (by decide) ?_
        refine uk_iV (rest := []) (c_U_mark l g o σ th 0 n t b9 tt (xs_ix tt) hvt rfl f (xs_ix f) hvf rfl 8) gd_U_U_mark hd_U_mark hC hK hX hS (fun _ h => h) (by omega) (by omega) (by omega) (by omega) hl.1 rfl (Nat.le_of_ble_eq_true rfl) d_U_arrive_123 (fun rp9 t b9 H locs hG9 hX hS _ _ => ?_)
        rw [hG9.1] at hX
        have hF := hF.tr hG9.2
        refine lv_aload_n hx hb d_U_arrive_126 rfl (lv_at hl 0 rfl) ?_
        refine lv_iload_n hx hb d_U_arrive_127 rfl (lv_at hl 3 rfl) ?_
        refine lv_iload_n hx hb d_U_arrive_128 rfl (lv_at hl 1 rfl) ?_
        refine lv_iload_n hx hb d_U_arrive_129 rfl (lv_at hl 2 rfl) ?_
        refine lv_iconst (v := (-1)) hx hb d_U_arrive_130 (by decide) ?_
        refine lv_iconst (v := 0) hx hb d_U_arrive_131 (by decide) ?_
        refine uk_iV (rest := []) (c_U_putAll l g o (xm_mark σ (xs_ix tt) (xs_ix f) 8) th 0 n t b9 (k, f, (-1), 0, tt, u)) gd_U_U_putAll hd_U_putAll hC hK hX hS (fun _ h => h) (by omega) (by omega) (by omega) (by omega) hl.1 rfl (Nat.le_of_ble_eq_true rfl) d_U_arrive_132 (fun rp9 t b9 H locs hG9 hX hS _ _ => ?_)
        rw [hG9.1] at hX
        have hF := hF.tr hG9.2
        refine lv_goto (tgt := 210) hx hb d_U_arrive_135 (by decide) ?_
        have e9 : xu_arr σ k f r v tt u w = (0, xm_give 6 0 (xm_mark σ (xs_ix tt) (xs_ix f) 8) (k, f, (-1), 0, tt, u)) := by simp only [xu_arr, c_1, c_2, c_4, c_6, c_7, c_8, if_true, if_false, reduceIte, Bool.false_eq_true, Bool.true_eq_false, and_true, true_and, and_false, false_and, or_true, true_or, or_false, false_or, not_true_eq_false, not_false_eq_true] <;> rfl
        exact ur_V (G := (fun rp9 b9 => rp9 = (xu_arr σ k f r v tt u w).1 ∧ xu_K a b9)) (τ := (xu_arr σ k f r v tt u w).2) hC hK hX hS ⟨by rw [e9], hF⟩ (by rw [e9]) rfl rfl d_U_arrive_210
    · have c_7 := xs_b1 c_7
      refine lv_aload_n hx hb d_U_arrive_101 rfl (lv_at hl 0 rfl) ?_
      refine lv_iconst (v := 5) hx hb d_U_arrive_102 (by decide) ?_
      refine uo_put (sc' := xu_num σ th 5 n t) hx hb hts hown hK hX.1 hX.2.1 hS 29 (by decide) lk_U_112 rfl rfl rfl rfl rfl d_U_arrive_103 (fun H locs hO hA hS => ?_)
      have hX : xu_R g o σ th 5 n t b9 H := ⟨hO, hA, hX.2.2.1, hX.2.2.2.1, hX.2.2.2.2⟩
      refine lv_goto (tgt := 210) hx hb d_U_arrive_106 (by decide) ?_
      have e9 : xu_arr σ k f r v tt u w = (5, σ) := by simp only [xu_arr, c_1, c_2, c_4, c_6, c_7, if_true, if_false, reduceIte, Bool.false_eq_true, Bool.true_eq_false, and_true, true_and, and_false, false_and, or_true, true_or, or_false, false_or, not_true_eq_false, not_false_eq_true] <;> rfl
      exact ur_V (G := (fun rp9 b9 => rp9 = (xu_arr σ k f r v tt u w).1 ∧ xu_K a b9)) (τ := (xu_arr σ k f r v tt u w).2) hC hK hX hS ⟨by rw [e9], hF⟩ (by rw [e9]) rfl rfl d_U_arrive_210
  by_cases c_9 : k = 5
  · refine lv_tableIn (tgt := 138) (off := 132) hx hb d_U_arrive_6 (by rw [c_9]; decide) (by rw [c_9]; decide) (by rw [c_9]; rfl) (by decide) ?_
    refine lv_aload_n hx hb d_U_arrive_138 rfl (lv_at hl 0 rfl) ?_
    refine lv_iload_n hx hb d_U_arrive_139 rfl (lv_at hl 3 rfl) ?_
    refine lv_iload_n hx hb d_U_arrive_140 rfl (lv_at hl 2 rfl) ?_
    refine lv_iconst (v := 4) hx hb d_U_arrive_141 (by decide) ?_
    refine uk_iQ (rest := []) (c_U_marked l g o σ th 0 n t a tt (xs_ix tt) hvt rfl f (xs_ix f) hvf rfl 4) gd_U_U_marked hd_U_marked hC hK hX hS (fun _ h => h) (by omega) (by omega) (by omega) (by omega) hl.1 rfl (Nat.le_of_ble_eq_true rfl) d_U_arrive_142 (fun rp9 t b9 H locs hG9 hX hS _ _ => ?_)
    rw [hG9.1] at hX
    have hF := hF.tr hG9.2
    refine lv_if_ne (tgt := 151) hx hb d_U_arrive_145 (by decide) (fun c_10 => ?_) (fun c_10 => ?_)
    · have c_10 := xs_b1 c_10
      refine lv_aload_n hx hb d_U_arrive_151 rfl (lv_at hl 0 rfl) ?_
      refine lv_iload_n hx hb d_U_arrive_152 rfl (lv_at hl 3 rfl) ?_
      refine lv_iload_n hx hb d_U_arrive_153 rfl (lv_at hl 2 rfl) ?_
      refine lv_iconst (v := 4) hx hb d_U_arrive_154 (by decide) ?_
      refine uk_iV (rest := []) (c_U_unmark l g o σ th 0 n t b9 tt (xs_ix tt) hvt rfl f (xs_ix f) hvf rfl 4) gd_U_U_unmark hd_U_unmark hC hK hX hS (fun _ h => h) (by omega) (by omega) (by omega) (by omega) hl.1 rfl (Nat.le_of_ble_eq_true rfl) d_U_arrive_155 (fun rp9 t b9 H locs hG9 hX hS _ _ => ?_)
      rw [hG9.1] at hX
      have hF := hF.tr hG9.2
      refine lv_aload_n hx hb d_U_arrive_158 rfl (lv_at hl 0 rfl) ?_
      refine lv_iload_n hx hb d_U_arrive_159 rfl (lv_at hl 3 rfl) ?_
      refine lv_iload_n hx hb d_U_arrive_160 rfl (lv_at hl 2 rfl) ?_
      refine lv_iconst (v := 1) hx hb d_U_arrive_161 (by decide) ?_
      refine uk_iV (rest := []) (c_U_mark l g o (xm_drop σ (xs_ix tt) (xs_ix f) 4) th 0 n t b9 tt (xs_ix tt) hvt rfl f (xs_ix f) hvf rfl 1) gd_U_U_mark hd_U_mark hC hK hX hS (fun _ h => h) (by omega) (by omega) (by omega) (by omega) hl.1 rfl (Nat.le_of_ble_eq_true rfl) d_U_arrive_162 (fun rp9 t b9 H locs hG9 hX hS _ _ => ?_)
      rw [hG9.1] at hX
      have hF := hF.tr hG9.2
      refine lv_aload_n hx hb d_U_arrive_165 rfl (lv_at hl 0 rfl) ?_
      refine lv_iload_n hx hb d_U_arrive_166 rfl (lv_at hl 3 rfl) ?_
      refine lv_iload_n hx hb d_U_arrive_167 rfl (lv_at hl 1 rfl) ?_
      refine lv_iload_n hx hb d_U_arrive_168 rfl (lv_at hl 2 rfl) ?_
      refine lv_iconst (v := (-1)) hx hb d_U_arrive_169 (by decide) ?_
      refine lv_iconst (v := 0) hx hb d_U_arrive_170 (by decide) ?_
      refine uk_iV (rest := []) (c_U_putAll l g o (xm_mark (xm_drop σ (xs_ix tt) (xs_ix f) 4) (xs_ix tt) (xs_ix f) 1) th 0 n t b9 (k, f, (-1), 0, tt, u)) gd_U_U_putAll hd_U_putAll hC hK hX hS (fun _ h => h) (by omega) (by omega) (by omega) (by omega) hl.1 rfl (Nat.le_of_ble_eq_true rfl) d_U_arrive_171 (fun rp9 t b9 H locs hG9 hX hS _ _ => ?_)
      rw [hG9.1] at hX
      have hF := hF.tr hG9.2
      refine lv_goto (tgt := 210) hx hb d_U_arrive_174 (by decide) ?_
      have e9 : xu_arr σ k f r v tt u w = (0, xm_give 6 0 (xm_mark (xm_drop σ (xs_ix tt) (xs_ix f) 4) (xs_ix tt) (xs_ix f) 1) (k, f, (-1), 0, tt, u)) := by simp only [xu_arr, c_1, c_2, c_4, c_6, c_9, c_10, if_true, if_false, reduceIte, Bool.false_eq_true, Bool.true_eq_false, and_true, true_and, and_false, false_and, or_true, true_or, or_false, false_or, not_true_eq_false, not_false_eq_true] <;> rfl
      exact ur_V (G := (fun rp9 b9 => rp9 = (xu_arr σ k f r v tt u w).1 ∧ xu_K a b9)) (τ := (xu_arr σ k f r v tt u w).2) hC hK hX hS ⟨by rw [e9], hF⟩ (by rw [e9]) rfl rfl d_U_arrive_210
    · have c_10 := xs_b0 c_10
      refine lv_goto (tgt := 210) hx hb d_U_arrive_148 (by decide) ?_
      have e9 : xu_arr σ k f r v tt u w = (0, σ) := by simp only [xu_arr, c_1, c_2, c_4, c_6, c_9, c_10, if_true, if_false, reduceIte, Bool.false_eq_true, Bool.true_eq_false, and_true, true_and, and_false, false_and, or_true, true_or, or_false, false_or, not_true_eq_false, not_false_eq_true] <;> rfl
      exact ur_V (G := (fun rp9 b9 => rp9 = (xu_arr σ k f r v tt u w).1 ∧ xu_K a b9)) (τ := (xu_arr σ k f r v tt u w).2) hC hK hX hS ⟨by rw [e9], hF⟩ (by rw [e9]) rfl rfl d_U_arrive_210
  by_cases c_11 : k = 6
  · refine lv_tableIn (tgt := 177) (off := 171) hx hb d_U_arrive_6 (by rw [c_11]; decide) (by rw [c_11]; decide) (by rw [c_11]; rfl) (by decide) ?_
    refine lv_aload_n hx hb d_U_arrive_177 rfl (lv_at hl 0 rfl) ?_
    refine lv_iload_n hx hb d_U_arrive_178 rfl (lv_at hl 3 rfl) ?_
    refine lv_iload_n hx hb d_U_arrive_179 rfl (lv_at hl 2 rfl) ?_
    refine lv_iload_n hx hb d_U_arrive_180 rfl (lv_at hl 1 rfl) ?_
    refine lv_bipush (v := 10) hx hb d_U_arrive_181 (by decide) ?_
    refine uk_iV (rest := []) (c_U_end l g o σ th 0 n t a tt f k 10 u hvt hvf) gd_U_U_end hd_U_end hC hK hX hS (fun _ h => h) (by omega) (by omega) (by omega) (by omega) hl.1 rfl (Nat.le_of_ble_eq_true rfl) d_U_arrive_183 (fun rp9 t b9 H locs hG9 hX hS _ _ => ?_)
    rw [hG9.1] at hX
    have hF := hF.tr hG9.2
    refine lv_goto (tgt := 210) hx hb d_U_arrive_186 (by decide) ?_
    have e9 : xu_arr σ k f r v tt u w = (0, xm_end σ (k, f, -1, 0, tt, u) 10) := by simp only [xu_arr, c_1, c_2, c_4, c_6, c_9, c_11, if_true, if_false, reduceIte, Bool.false_eq_true, Bool.true_eq_false, and_true, true_and, and_false, false_and, or_true, true_or, or_false, false_or, not_true_eq_false, not_false_eq_true] <;> rfl
    exact ur_V (G := (fun rp9 b9 => rp9 = (xu_arr σ k f r v tt u w).1 ∧ xu_K a b9)) (τ := (xu_arr σ k f r v tt u w).2) hC hK hX hS ⟨by rw [e9], hF⟩ (by rw [e9]) rfl rfl d_U_arrive_210
  by_cases c_12 : k = 7
  · refine lv_tableIn (tgt := 189) (off := 183) hx hb d_U_arrive_6 (by rw [c_12]; decide) (by rw [c_12]; decide) (by rw [c_12]; rfl) (by decide) ?_
    refine lv_aload_n hx hb d_U_arrive_189 rfl (lv_at hl 0 rfl) ?_
    refine lv_iload_n hx hb d_U_arrive_190 rfl (lv_at hl 3 rfl) ?_
    refine lv_iload_n hx hb d_U_arrive_191 rfl (lv_at hl 2 rfl) ?_
    refine lv_iload_n hx hb d_U_arrive_192 rfl (lv_at hl 1 rfl) ?_
    refine lv_iconst (v := 5) hx hb d_U_arrive_193 (by decide) ?_
    refine uk_iV (rest := []) (c_U_end l g o σ th 0 n t a tt f k 5 u hvt hvf) gd_U_U_end hd_U_end hC hK hX hS (fun _ h => h) (by omega) (by omega) (by omega) (by omega) hl.1 rfl (Nat.le_of_ble_eq_true rfl) d_U_arrive_194 (fun rp9 t b9 H locs hG9 hX hS _ _ => ?_)
    rw [hG9.1] at hX
    have hF := hF.tr hG9.2
    refine lv_goto (tgt := 210) hx hb d_U_arrive_197 (by decide) ?_
    have e9 : xu_arr σ k f r v tt u w = (0, xm_end σ (k, f, -1, 0, tt, u) 5) := by simp only [xu_arr, c_1, c_2, c_4, c_6, c_9, c_11, c_12, if_true, if_false, reduceIte, Bool.false_eq_true, Bool.true_eq_false, and_true, true_and, and_false, false_and, or_true, true_or, or_false, false_or, not_true_eq_false, not_false_eq_true] <;> rfl
    exact ur_V (G := (fun rp9 b9 => rp9 = (xu_arr σ k f r v tt u w).1 ∧ xu_K a b9)) (τ := (xu_arr σ k f r v tt u w).2) hC hK hX hS ⟨by rw [e9], hF⟩ (by rw [e9]) rfl rfl d_U_arrive_210
  refine lv_tableOut (tgt := 200) hx hb d_U_arrive_6 (by have q0 := lv_neT c_1 (a := 1) rfl; have q1 := lv_neT c_2 (a := 2) rfl; have q2 := lv_neT c_4 (a := 3) rfl; have q3 := lv_neT c_6 (a := 4) rfl; have q4 := lv_neT c_9 (a := 5) rfl; have q5 := lv_neT c_11 (a := 6) rfl; have q6 := lv_neT c_12 (a := 7) rfl; omega) (by decide) ?_
  refine lv_aload_n hx hb d_U_arrive_200 rfl (lv_at hl 0 rfl) ?_
  refine lv_iload_n hx hb d_U_arrive_201 rfl (lv_at hl 3 rfl) ?_
  refine lv_iload_n hx hb d_U_arrive_202 rfl (lv_at hl 1 rfl) ?_
  refine lv_iload_n hx hb d_U_arrive_203 rfl (lv_at hl 2 rfl) ?_
  refine lv_iconst (v := (-1)) hx hb d_U_arrive_204 (by decide) ?_
  refine lv_iload hx hb d_U_arrive_205 (lv_at hl 5 rfl) ?_
  refine uk_iV (rest := []) (c_U_putAll l g o σ th 0 n t a (k, f, (-1), v, tt, u)) gd_U_U_putAll hd_U_putAll hC hK hX hS (fun _ h => h) (by omega) (by omega) (by omega) (by omega) hl.1 rfl (Nat.le_of_ble_eq_true rfl) d_U_arrive_207 (fun rp9 t b9 H locs hG9 hX hS _ _ => ?_)
  rw [hG9.1] at hX
  have hF := hF.tr hG9.2
  have e9 : xu_arr σ k f r v tt u w = (0, xm_give 6 0 σ (k, f, (-1), v, tt, u)) := by simp only [xu_arr, c_1, c_2, c_4, c_6, c_9, c_11, c_12, if_true, if_false, reduceIte, Bool.false_eq_true, Bool.true_eq_false, and_true, true_and, and_false, false_and, or_true, true_or, or_false, false_or, not_true_eq_false, not_false_eq_true] <;> rfl
  exact ur_V (G := (fun rp9 b9 => rp9 = (xu_arr σ k f r v tt u w).1 ∧ xu_K a b9)) (τ := (xu_arr σ k f r v tt u w).2) hC hK hX hS ⟨by rw [e9], hF⟩ (by rw [e9]) rfl rfl d_U_arrive_210
set_option maxHeartbeats 4000000 in
set_option maxRecDepth 100000 in
theorem c_U_hold (l : Launch) (g : xw_G) (o : Nat) (σ : xs_S) (th rp : Int32) (n : Nat) (t : xu_X) (a : xu_M) (k f tt r v u w : Int32) (hw : w = xu_tg (k, f, r, v, tt, u)) : uc_V l y_U_hold (Cond.code y_U_hold b_U_hold 7 none) g o σ th rp n t a (xu_hold σ (k, f, r, v, tt, u)) th n (fun _ _ => True) [.ref o, .int k, .int f, .int tt, .int r, .int v, .int w] 2 52 := by
  refine uh_V (own := R_U) (by decide) rfl (Nat.le_of_ble_eq_true rfl) ?_
  intro p e R s m below meth c ls hRf hRl hC hK hX hl
  obtain ⟨hx, hb, hml, hr, hown, hts, hlk⟩ := id hC
  have hS : va_S (xu_W o) s.heap s.heap [] := va_S.rf
  have hl : lv_has ls 7 [(0, .ref o), (1, .int k), (2, .int f), (3, .int tt), (4, .int r), (5, .int v), (6, .int w)] := hl
  have hlen := hX.2.2.1.2.2.2.2.2.1
  refine lv_aload_n hx hb d_U_hold_0 rfl (lv_at hl 0 rfl) ?_
  refine xb_get (v := .int (nI (xs_q σ 14).length)) hx hb hts xw_in_U hown hK (ci := xi_U) rfl 26 (by decide) (hts _ lk_U_126) rfl hX.1 rfl d_U_hold_1 ?_
  refine lv_bipush (v := 8) hx hb d_U_hold_4 (by decide) ?_
  refine lv_icmp_ne (tgt := 26) hx hb d_U_hold_6 (by decide) (fun c_1 => ?_) (fun c_1 => ?_)
  · have hlt := xu_ne8 hlen c_1
    refine lv_aload_n hx hb d_U_hold_26 rfl (lv_at hl 0 rfl) ?_
    refine xb_get (v := .ref (o + 19)) hx hb hts xw_in_U hown hK (ci := xi_U) rfl 20 (by decide) (hts _ lk_U_65) rfl hX.1 rfl d_U_hold_27 ?_
    refine lv_aload_n hx hb d_U_hold_30 rfl (lv_at hl 0 rfl) ?_
    refine xb_get (v := .int (nI (xs_q σ 14).length)) hx hb hts xw_in_U hown hK (ci := xi_U) rfl 26 (by decide) (hts _ lk_U_126) rfl hX.1 rfl d_U_hold_31 ?_
    refine lv_iload_n hx hb d_U_hold_34 rfl (lv_at hl 1 rfl) ?_
    have hO := hX.1
    have hA := hX.2.1
    have hR := hX.2.2.1
    refine uq_i hx hb hK hO hA hS 19 (by decide) (by decide) rfl rfl (vp_in_nI hlt (by decide)) d_U_hold_35 (fun H locs hO hA hS => ?_)
    rw [(xs_ix_nI (show (xs_q σ 14).length < 2 ^ 31 by omega))] at hA
    refine lv_aload_n hx hb d_U_hold_36 rfl (lv_at hl 0 rfl) ?_
    refine xb_get (v := .ref (o + 20)) hx hb hts xw_in_U hown hK (ci := xi_U) rfl 21 (by decide) (hts _ lk_U_68) rfl hO rfl d_U_hold_37 ?_
    refine lv_aload_n hx hb d_U_hold_40 rfl (lv_at hl 0 rfl) ?_
    refine xb_get (v := .int (nI (xs_q σ 14).length)) hx hb hts xw_in_U hown hK (ci := xi_U) rfl 26 (by decide) (hts _ lk_U_126) rfl hO rfl d_U_hold_41 ?_
    refine lv_iload_n hx hb d_U_hold_44 rfl (lv_at hl 2 rfl) ?_
    refine uq_i hx hb hK hO hA hS 20 (by decide) (by decide) rfl rfl (vp_in_nI hlt (by decide)) d_U_hold_45 (fun H locs hO hA hS => ?_)
    rw [(xs_ix_nI (show (xs_q σ 14).length < 2 ^ 31 by omega))] at hA
    refine lv_aload_n hx hb d_U_hold_46 rfl (lv_at hl 0 rfl) ?_
    refine xb_get (v := .ref (o + 21)) hx hb hts xw_in_U hown hK (ci := xi_U) rfl 22 (by decide) (hts _ lk_U_71) rfl hO rfl d_U_hold_47 ?_
    refine lv_aload_n hx hb d_U_hold_50 rfl (lv_at hl 0 rfl) ?_
    refine xb_get (v := .int (nI (xs_q σ 14).length)) hx hb hts xw_in_U hown hK (ci := xi_U) rfl 26 (by decide) (hts _ lk_U_126) rfl hO rfl d_U_hold_51 ?_
    refine lv_iload_n hx hb d_U_hold_54 rfl (lv_at hl 3 rfl) ?_
    refine uq_i hx hb hK hO hA hS 21 (by decide) (by decide) rfl rfl (vp_in_nI hlt (by decide)) d_U_hold_55 (fun H locs hO hA hS => ?_)
    rw [(xs_ix_nI (show (xs_q σ 14).length < 2 ^ 31 by omega))] at hA
    refine lv_aload_n hx hb d_U_hold_56 rfl (lv_at hl 0 rfl) ?_
    refine xb_get (v := .ref (o + 22)) hx hb hts xw_in_U hown hK (ci := xi_U) rfl 23 (by decide) (hts _ lk_U_74) rfl hO rfl d_U_hold_57 ?_
    refine lv_aload_n hx hb d_U_hold_60 rfl (lv_at hl 0 rfl) ?_
    refine xb_get (v := .int (nI (xs_q σ 14).length)) hx hb hts xw_in_U hown hK (ci := xi_U) rfl 26 (by decide) (hts _ lk_U_126) rfl hO rfl d_U_hold_61 ?_
    refine lv_iload hx hb d_U_hold_64 (lv_at hl 4 rfl) ?_
    refine uq_i hx hb hK hO hA hS 22 (by decide) (by decide) rfl rfl (vp_in_nI hlt (by decide)) d_U_hold_66 (fun H locs hO hA hS => ?_)
    rw [(xs_ix_nI (show (xs_q σ 14).length < 2 ^ 31 by omega))] at hA
    refine lv_aload_n hx hb d_U_hold_67 rfl (lv_at hl 0 rfl) ?_
    refine xb_get (v := .ref (o + 23)) hx hb hts xw_in_U hown hK (ci := xi_U) rfl 24 (by decide) (hts _ lk_U_77) rfl hO rfl d_U_hold_68 ?_
    refine lv_aload_n hx hb d_U_hold_71 rfl (lv_at hl 0 rfl) ?_
    refine xb_get (v := .int (nI (xs_q σ 14).length)) hx hb hts xw_in_U hown hK (ci := xi_U) rfl 26 (by decide) (hts _ lk_U_126) rfl hO rfl d_U_hold_72 ?_
    refine lv_iload hx hb d_U_hold_75 (lv_at hl 5 rfl) ?_
    refine uq_i hx hb hK hO hA hS 23 (by decide) (by decide) rfl rfl (vp_in_nI hlt (by decide)) d_U_hold_77 (fun H locs hO hA hS => ?_)
    rw [(xs_ix_nI (show (xs_q σ 14).length < 2 ^ 31 by omega))] at hA
    refine lv_aload_n hx hb d_U_hold_78 rfl (lv_at hl 0 rfl) ?_
    refine xb_get (v := .ref (o + 24)) hx hb hts xw_in_U hown hK (ci := xi_U) rfl 25 (by decide) (hts _ lk_U_80) rfl hO rfl d_U_hold_79 ?_
    refine lv_aload_n hx hb d_U_hold_82 rfl (lv_at hl 0 rfl) ?_
    refine xb_get (v := .int (nI (xs_q σ 14).length)) hx hb hts xw_in_U hown hK (ci := xi_U) rfl 26 (by decide) (hts _ lk_U_126) rfl hO rfl d_U_hold_83 ?_
    refine lv_iload hx hb d_U_hold_86 (lv_at hl 6 rfl) ?_
    refine uq_i hx hb hK hO hA hS 24 (by decide) (by decide) rfl rfl (vp_in_nI hlt (by decide)) d_U_hold_88 (fun H locs hO hA hS => ?_)
    rw [(xs_ix_nI (show (xs_q σ 14).length < 2 ^ 31 by omega))] at hA
    refine lv_aload_n hx hb d_U_hold_89 rfl (lv_at hl 0 rfl) ?_
    refine lv_dup hx hb d_U_hold_90 rfl ?_
    refine xb_get (v := .int (nI (xs_q σ 14).length)) hx hb hts xw_in_U hown hK (ci := xi_U) rfl 26 (by decide) (hts _ lk_U_126) rfl hO rfl d_U_hold_91 ?_
    refine lv_iconst (v := 1) hx hb d_U_hold_94 (by decide) ?_
    refine lv_iadd hx hb d_U_hold_95 ?_
    refine uo_put (sc' := (th, nI n, (nI (xs_q σ 14).length) + 1, xs_b (xs_up σ), xm_lall 6 0 σ 0, rp, xs_b (xs_lt σ).isSome, t.1, t.2.1, t.2.2)) hx hb hts hown hK hO hA hS 26 (by decide) lk_U_126 rfl rfl rfl rfl rfl d_U_hold_96 (fun H locs hO hA hS => ?_)
    have hX : xu_R g o (xm_add σ 14 (k, f, r, v, tt, u)) th rp n t (xu_set (xu_set (xu_set (xu_set (xu_set (xu_set a 19 ((xs_q σ 14).length) k) 20 ((xs_q σ 14).length) f) 21 ((xs_q σ 14).length) tt) 22 ((xs_q σ 14).length) r) 23 ((xs_q σ 14).length) v) 24 ((xs_q σ 14).length) w) H := ⟨by rw [show xu_num (xm_add σ 14 (k, f, r, v, tt, u)) th rp n t = _ from xu_num_addw hlt]; exact hO, hA, xu_wait1 (z := (k, f, r, v, tt, u)) hR hw hlt, xu_tk_add hX.2.2.2.1, xu_nx_add hX.2.2.2.2⟩
    exact ur_V (G := (fun _ _ => True)) (τ := xu_hold σ (k, f, r, v, tt, u)) hC hK hX hS trivial (by unfold xu_hold; rw [if_neg (by rw [xm_full_n8 hlt]; decide)]) rfl rfl d_U_hold_99
  · refine lv_iload_n hx hb d_U_hold_9 rfl (lv_at hl 1 rfl) ?_
    refine lv_iconst (v := 1) hx hb d_U_hold_10 (by decide) ?_
    refine lv_icmp_ne (tgt := 25) hx hb d_U_hold_11 (by decide) (fun c_2 => ?_) (fun c_2 => ?_)
    · exact ur_V (G := (fun _ _ => True)) (τ := xu_hold σ (k, f, r, v, tt, u)) hC hK hX hS trivial (by unfold xu_hold; rw [if_pos (xm_full_8 (xu_eq8 hlen c_1))]; show _ = if k = 1 then _ else _; rw [if_neg c_2] <;> rfl) rfl rfl d_U_hold_25
    · refine lv_aload_n hx hb d_U_hold_14 rfl (lv_at hl 0 rfl) ?_
      refine lv_iload_n hx hb d_U_hold_15 rfl (lv_at hl 2 rfl) ?_
      refine lv_bipush (v := 8) hx hb d_U_hold_16 (by decide) ?_
      refine lv_iload_n hx hb d_U_hold_18 rfl (lv_at hl 3 rfl) ?_
      refine lv_iconst (v := (-1)) hx hb d_U_hold_19 (by decide) ?_
      refine lv_iload hx hb d_U_hold_20 (lv_at hl 5 rfl) ?_
      refine uk_iV (rest := []) (c_U_putAll l g o σ th rp n t a (8, tt, (-1), v, f, (-1))) gd_U_U_putAll hd_U_putAll hC hK hX hS (fun _ h => h) (by omega) (by omega) (by omega) (by omega) hl.1 rfl (Nat.le_of_ble_eq_true rfl) d_U_hold_22 (fun rp9 t b9 H locs hG9 hX hS _ _ => ?_)
      rw [hG9.1] at hX
      exact ur_V (G := (fun _ _ => True)) (τ := xu_hold σ (k, f, r, v, tt, u)) hC hK hX hS trivial (by unfold xu_hold; rw [if_pos (xm_full_8 (xu_eq8 hlen c_1))]; show _ = if k = 1 then _ else _; rw [if_pos c_2] <;> rfl) rfl rfl d_U_hold_25
set_option maxHeartbeats 4000000 in
set_option maxRecDepth 100000 in
theorem c_U_send (l : Launch) (g : xw_G) (o : Nat) (σ : xs_S) (th rp : Int32) (n : Nat) (t : xu_X) (a : xu_M) (k f tt r v u w : Int32) (hvt : vp_in tt 8) (hvf : vp_in f 8) (hs : xu_sh k r v) (hc : k = 1 → xu_cw (xs_cn σ)) (hw : w = xu_tg (k, f, r, v, tt, u)) : uc_V l y_U_send (Cond.code y_U_send b_U_send 12 none) g o σ th rp n t a (xm_send σ (k, f, r, v, tt, u)) th n (fun _ b9 => xs_up σ = true → xu_K a b9) [.ref o, .int k, .int f, .int tt, .int r, .int v, .int w] 4 102 := by
  refine uh_V (own := R_U) (by decide) rfl (Nat.le_of_ble_eq_true rfl) ?_
  intro p e R s m below meth c ls hRf hRl hC hK hX hl
  obtain ⟨hx, hb, hml, hr, hown, hts, hlk⟩ := id hC
  have hS : va_S (xu_W o) s.heap s.heap [] := va_S.rf
  have hF : xu_K a a := xu_K.rf
  have hl : lv_has ls 12 [(0, .ref o), (1, .int k), (2, .int f), (3, .int tt), (4, .int r), (5, .int v), (6, .int w)] := hl
  have hk0 : ¬ k = 0 := xu_sh0 hs
  refine lv_iload_n hx hb d_U_send_0 rfl (lv_at hl 1 rfl) ?_
  refine lv_istore (lv' := [(7, .int k), (0, .ref o), (1, .int k), (2, .int f), (3, .int tt), (4, .int r), (5, .int v), (6, .int w)]) hx hb d_U_send_1 hl (by decide) rfl (fun ls hl => ?_)
  refine lv_iload_n hx hb d_U_send_3 rfl (lv_at hl 3 rfl) ?_
  refine lv_istore (lv' := [(8, .int f), (7, .int k), (0, .ref o), (1, .int k), (2, .int f), (3, .int tt), (4, .int r), (5, .int v), (6, .int w)]) hx hb d_U_send_4 hl (by decide) rfl (fun ls hl => ?_)
  refine lv_iload_n hx hb d_U_send_6 rfl (lv_at hl 5 rfl) ?_
  refine lv_istore (lv' := [(9, .int tt), (8, .int f), (7, .int k), (0, .ref o), (1, .int k), (2, .int f), (3, .int tt), (4, .int r), (5, .int v), (6, .int w)]) hx hb d_U_send_7 hl (by decide) rfl (fun ls hl => ?_)
  refine lv_iload hx hb d_U_send_9 (lv_at hl 7 rfl) ?_
  refine lv_istore (lv' := [(10, .int r), (9, .int tt), (8, .int f), (7, .int k), (0, .ref o), (1, .int k), (2, .int f), (3, .int tt), (4, .int r), (5, .int v), (6, .int w)]) hx hb d_U_send_11 hl (by decide) rfl (fun ls hl => ?_)
  refine lv_iload hx hb d_U_send_13 (lv_at hl 3 rfl) ?_
  refine lv_if_eq (tgt := 93) hx hb d_U_send_15 (by decide) (fun c_1 => absurd c_1 hk0) (fun c_1 => ?_)
  refine lv_iload hx hb d_U_send_18 (lv_at hl 2 rfl) ?_
  refine lv_iconst (v := 4) hx hb d_U_send_20 (by decide) ?_
  refine lv_idiv hx hb d_U_send_21 (by decide) ?_
  refine lv_iload hx hb d_U_send_22 (lv_at hl 1 rfl) ?_
  refine lv_iconst (v := 4) hx hb d_U_send_24 (by decide) ?_
  refine lv_idiv hx hb d_U_send_25 (by decide) ?_
  refine lv_icmp_eq (tgt := 53) hx hb d_U_send_26 (by decide) (fun c_2 => ?_) (fun c_2 => ?_)
  · refine lv_aload_n hx hb d_U_send_53 rfl (lv_at hl 4 rfl) ?_
    refine lv_iload hx hb d_U_send_54 (lv_at hl 3 rfl) ?_
    refine lv_iload hx hb d_U_send_56 (lv_at hl 2 rfl) ?_
    refine lv_iload hx hb d_U_send_58 (lv_at hl 1 rfl) ?_
    refine lv_iload hx hb d_U_send_60 (lv_at hl 0 rfl) ?_
    refine lv_iload hx hb d_U_send_62 (lv_at hl 9 rfl) ?_
    refine lv_iload hx hb d_U_send_64 (lv_at hl 10 rfl) ?_
    refine uk_iV (rest := []) (c_U_arrive l g o σ th rp n t a k f tt r v u w hvt hvf) gd_U_U_arrive hd_U_arrive hC hK hX hS (fun _ h => h) (by omega) (by omega) (by omega) (by omega) hl.1 rfl (Nat.le_of_ble_eq_true rfl) d_U_send_66 (fun rp9 t b9 H locs hG9 hX hS _ _ => ?_)
    rw [hG9.1] at hX
    have hF := hF.tr hG9.2
    refine lv_aload_n hx hb d_U_send_69 rfl (lv_at hl 4 rfl) ?_
    refine xb_get (v := .int ((xu_arr σ k f r v tt u w).1)) hx hb hts xw_in_U hown hK (ci := xi_U) rfl 29 (by decide) (hts _ lk_U_112) rfl hX.1 rfl d_U_send_70 ?_
    refine lv_istore (lv' := [(7, .int ((xu_arr σ k f r v tt u w).1)), (10, .int r), (9, .int tt), (8, .int f), (0, .ref o), (1, .int k), (2, .int f), (3, .int tt), (4, .int r), (5, .int v), (6, .int w)]) hx hb d_U_send_73 hl (by decide) rfl (fun ls hl => ?_)
    refine lv_iload hx hb d_U_send_75 (lv_at hl 3 rfl) ?_
    refine lv_istore (lv' := [(11, .int f), (7, .int ((xu_arr σ k f r v tt u w).1)), (10, .int r), (9, .int tt), (8, .int f), (0, .ref o), (1, .int k), (2, .int f), (3, .int tt), (4, .int r), (5, .int v), (6, .int w)]) hx hb d_U_send_77 hl (by decide) rfl (fun ls hl => ?_)
    refine lv_iload hx hb d_U_send_79 (lv_at hl 3 rfl) ?_
    refine lv_istore (lv' := [(8, .int tt), (11, .int f), (7, .int ((xu_arr σ k f r v tt u w).1)), (10, .int r), (9, .int tt), (0, .ref o), (1, .int k), (2, .int f), (3, .int tt), (4, .int r), (5, .int v), (6, .int w)]) hx hb d_U_send_81 hl (by decide) rfl (fun ls hl => ?_)
    refine lv_iload hx hb d_U_send_83 (lv_at hl 1 rfl) ?_
    refine lv_istore (lv' := [(9, .int f), (8, .int tt), (11, .int f), (7, .int ((xu_arr σ k f r v tt u w).1)), (10, .int r), (0, .ref o), (1, .int k), (2, .int f), (3, .int tt), (4, .int r), (5, .int v), (6, .int w)]) hx hb d_U_send_85 hl (by decide) rfl (fun ls hl => ?_)
    refine lv_iconst (v := (-1)) hx hb d_U_send_87 (by decide) ?_
    refine lv_istore (lv' := [(10, .int (-1)), (9, .int f), (8, .int tt), (11, .int f), (7, .int ((xu_arr σ k f r v tt u w).1)), (0, .ref o), (1, .int k), (2, .int f), (3, .int tt), (4, .int r), (5, .int v), (6, .int w)]) hx hb d_U_send_88 hl (by decide) rfl (fun ls hl => ?_)
    refine lv_goto (tgt := 13) hx hb d_U_send_90 (by decide) ?_
    have hre : xm_reach σ f tt = true := xu_reach1 hvf hvt c_2
    refine lv_iload hx hb d_U_send_13 (lv_at hl 4 rfl) ?_
    refine lv_if_eq (tgt := 93) hx hb d_U_send_15 (by decide) (fun c_4 => ?_) (fun c_4 => ?_)
    · exact ur_V (G := (fun _ b9 => xs_up σ = true → xu_K a b9)) (τ := xm_send σ (k, f, r, v, tt, u)) hC hK hX hS (fun _ => hF) ((xu_arr_0 hs hc hw c_4).trans (xu_send_arr hre)) rfl rfl d_U_send_93
    · refine lv_iload hx hb d_U_send_18 (lv_at hl 2 rfl) ?_
      refine lv_iconst (v := 4) hx hb d_U_send_20 (by decide) ?_
      refine lv_idiv hx hb d_U_send_21 (by decide) ?_
      refine lv_iload hx hb d_U_send_22 (lv_at hl 1 rfl) ?_
      refine lv_iconst (v := 4) hx hb d_U_send_24 (by decide) ?_
      refine lv_idiv hx hb d_U_send_25 (by decide) ?_
      refine lv_icmp_eq (tgt := 53) hx hb d_U_send_26 (by decide) (fun c_5 => ?_) (fun c_5 => absurd c_2.symm c_5)
      refine lv_aload_n hx hb d_U_send_53 rfl (lv_at hl 5 rfl) ?_
      refine lv_iload hx hb d_U_send_54 (lv_at hl 4 rfl) ?_
      refine lv_iload hx hb d_U_send_56 (lv_at hl 2 rfl) ?_
      refine lv_iload hx hb d_U_send_58 (lv_at hl 1 rfl) ?_
      refine lv_iload hx hb d_U_send_60 (lv_at hl 0 rfl) ?_
      refine lv_iload hx hb d_U_send_62 (lv_at hl 10 rfl) ?_
      refine lv_iload hx hb d_U_send_64 (lv_at hl 11 rfl) ?_
      refine uk_iV (rest := []) (c_U_arrive l g o ((xu_arr σ k f r v tt u w).2) th ((xu_arr σ k f r v tt u w).1) n t b9 ((xu_arr σ k f r v tt u w).1) tt f (-1) v (-1) w hvf hvt) gd_U_U_arrive hd_U_arrive hC hK hX hS (fun _ h => h) (by omega) (by omega) (by omega) (by omega) hl.1 rfl (Nat.le_of_ble_eq_true rfl) d_U_send_66 (fun rp9 t b9 H locs hG9 hX hS _ _ => ?_)
      rw [hG9.1] at hX
      have hF := hF.tr hG9.2
      refine lv_aload_n hx hb d_U_send_69 rfl (lv_at hl 5 rfl) ?_
      refine xb_get (v := .int ((xu_arr ((xu_arr σ k f r v tt u w).2) ((xu_arr σ k f r v tt u w).1) tt (-1) v f (-1) w).1)) hx hb hts xw_in_U hown hK (ci := xi_U) rfl 29 (by decide) (hts _ lk_U_112) rfl hX.1 rfl d_U_send_70 ?_
      refine lv_istore (lv' := [(7, .int ((xu_arr ((xu_arr σ k f r v tt u w).2) ((xu_arr σ k f r v tt u w).1) tt (-1) v f (-1) w).1)), (10, .int (-1)), (9, .int f), (8, .int tt), (11, .int f), (0, .ref o), (1, .int k), (2, .int f), (3, .int tt), (4, .int r), (5, .int v), (6, .int w)]) hx hb d_U_send_73 hl (by decide) rfl (fun ls hl => ?_)
      refine lv_iload hx hb d_U_send_75 (lv_at hl 3 rfl) ?_
      refine lv_istore (lv' := [(11, .int tt), (7, .int ((xu_arr ((xu_arr σ k f r v tt u w).2) ((xu_arr σ k f r v tt u w).1) tt (-1) v f (-1) w).1)), (10, .int (-1)), (9, .int f), (8, .int tt), (0, .ref o), (1, .int k), (2, .int f), (3, .int tt), (4, .int r), (5, .int v), (6, .int w)]) hx hb d_U_send_77 hl (by decide) rfl (fun ls hl => ?_)
      refine lv_iload hx hb d_U_send_79 (lv_at hl 3 rfl) ?_
      refine lv_istore (lv' := [(8, .int f), (11, .int tt), (7, .int ((xu_arr ((xu_arr σ k f r v tt u w).2) ((xu_arr σ k f r v tt u w).1) tt (-1) v f (-1) w).1)), (10, .int (-1)), (9, .int f), (0, .ref o), (1, .int k), (2, .int f), (3, .int tt), (4, .int r), (5, .int v), (6, .int w)]) hx hb d_U_send_81 hl (by decide) rfl (fun ls hl => ?_)
      refine lv_iload hx hb d_U_send_83 (lv_at hl 1 rfl) ?_
      refine lv_istore (lv' := [(9, .int tt), (8, .int f), (11, .int tt), (7, .int ((xu_arr ((xu_arr σ k f r v tt u w).2) ((xu_arr σ k f r v tt u w).1) tt (-1) v f (-1) w).1)), (10, .int (-1)), (0, .ref o), (1, .int k), (2, .int f), (3, .int tt), (4, .int r), (5, .int v), (6, .int w)]) hx hb d_U_send_85 hl (by decide) rfl (fun ls hl => ?_)
      refine lv_iconst (v := (-1)) hx hb d_U_send_87 (by decide) ?_
      refine lv_istore (lv' := [(10, .int (-1)), (9, .int tt), (8, .int f), (11, .int tt), (7, .int ((xu_arr ((xu_arr σ k f r v tt u w).2) ((xu_arr σ k f r v tt u w).1) tt (-1) v f (-1) w).1)), (0, .ref o), (1, .int k), (2, .int f), (3, .int tt), (4, .int r), (5, .int v), (6, .int w)]) hx hb d_U_send_88 hl (by decide) rfl (fun ls hl => ?_)
      refine lv_goto (tgt := 13) hx hb d_U_send_90 (by decide) ?_
      have hA9 := xu_arr_1 hs hc hw c_4
      refine lv_iload hx hb d_U_send_13 (lv_at hl 4 rfl) ?_
      refine lv_if_eq (tgt := 93) hx hb d_U_send_15 (by decide) (fun c_6 => ?_) (fun c_6 => absurd hA9.1 c_6)
      exact ur_V (G := (fun _ b9 => xs_up σ = true → xu_K a b9)) (τ := xm_send σ (k, f, r, v, tt, u)) hC hK hX hS (fun _ => hF) (hA9.2.trans (xu_send_arr hre)) rfl rfl d_U_send_93
  · refine lv_aload_n hx hb d_U_send_29 rfl (lv_at hl 4 rfl) ?_
    refine xb_get (v := .int (xs_b (xs_up σ))) hx hb hts xw_in_U hown hK (ci := xi_U) rfl 27 (by decide) (hts _ lk_U_83) rfl hX.1 rfl d_U_send_30 ?_
    refine lv_if_ne (tgt := 53) hx hb d_U_send_33 (by decide) (fun c_7 => ?_) (fun c_7 => ?_)
    · have c_7 := xs_b1 c_7
      refine lv_aload_n hx hb d_U_send_53 rfl (lv_at hl 4 rfl) ?_
      refine lv_iload hx hb d_U_send_54 (lv_at hl 3 rfl) ?_
      refine lv_iload hx hb d_U_send_56 (lv_at hl 2 rfl) ?_
      refine lv_iload hx hb d_U_send_58 (lv_at hl 1 rfl) ?_
      refine lv_iload hx hb d_U_send_60 (lv_at hl 0 rfl) ?_
      refine lv_iload hx hb d_U_send_62 (lv_at hl 9 rfl) ?_
      refine lv_iload hx hb d_U_send_64 (lv_at hl 10 rfl) ?_
      refine uk_iV (rest := []) (c_U_arrive l g o σ th rp n t a k f tt r v u w hvt hvf) gd_U_U_arrive hd_U_arrive hC hK hX hS (fun _ h => h) (by omega) (by omega) (by omega) (by omega) hl.1 rfl (Nat.le_of_ble_eq_true rfl) d_U_send_66 (fun rp9 t b9 H locs hG9 hX hS _ _ => ?_)
      rw [hG9.1] at hX
      have hF := hF.tr hG9.2
      refine lv_aload_n hx hb d_U_send_69 rfl (lv_at hl 4 rfl) ?_
      refine xb_get (v := .int ((xu_arr σ k f r v tt u w).1)) hx hb hts xw_in_U hown hK (ci := xi_U) rfl 29 (by decide) (hts _ lk_U_112) rfl hX.1 rfl d_U_send_70 ?_
      refine lv_istore (lv' := [(7, .int ((xu_arr σ k f r v tt u w).1)), (10, .int r), (9, .int tt), (8, .int f), (0, .ref o), (1, .int k), (2, .int f), (3, .int tt), (4, .int r), (5, .int v), (6, .int w)]) hx hb d_U_send_73 hl (by decide) rfl (fun ls hl => ?_)
      refine lv_iload hx hb d_U_send_75 (lv_at hl 3 rfl) ?_
      refine lv_istore (lv' := [(11, .int f), (7, .int ((xu_arr σ k f r v tt u w).1)), (10, .int r), (9, .int tt), (8, .int f), (0, .ref o), (1, .int k), (2, .int f), (3, .int tt), (4, .int r), (5, .int v), (6, .int w)]) hx hb d_U_send_77 hl (by decide) rfl (fun ls hl => ?_)
      refine lv_iload hx hb d_U_send_79 (lv_at hl 3 rfl) ?_
      refine lv_istore (lv' := [(8, .int tt), (11, .int f), (7, .int ((xu_arr σ k f r v tt u w).1)), (10, .int r), (9, .int tt), (0, .ref o), (1, .int k), (2, .int f), (3, .int tt), (4, .int r), (5, .int v), (6, .int w)]) hx hb d_U_send_81 hl (by decide) rfl (fun ls hl => ?_)
      refine lv_iload hx hb d_U_send_83 (lv_at hl 1 rfl) ?_
      refine lv_istore (lv' := [(9, .int f), (8, .int tt), (11, .int f), (7, .int ((xu_arr σ k f r v tt u w).1)), (10, .int r), (0, .ref o), (1, .int k), (2, .int f), (3, .int tt), (4, .int r), (5, .int v), (6, .int w)]) hx hb d_U_send_85 hl (by decide) rfl (fun ls hl => ?_)
      refine lv_iconst (v := (-1)) hx hb d_U_send_87 (by decide) ?_
      refine lv_istore (lv' := [(10, .int (-1)), (9, .int f), (8, .int tt), (11, .int f), (7, .int ((xu_arr σ k f r v tt u w).1)), (0, .ref o), (1, .int k), (2, .int f), (3, .int tt), (4, .int r), (5, .int v), (6, .int w)]) hx hb d_U_send_88 hl (by decide) rfl (fun ls hl => ?_)
      refine lv_goto (tgt := 13) hx hb d_U_send_90 (by decide) ?_
      have c_8 : ¬ (tt / 4) = (f / 4) := fun h => c_2 h.symm
      have hup9 : xs_up (xu_arr σ k f r v tt u w).2 = true := xu_up_arr.trans c_7
      have hre : xm_reach σ f tt = true := xu_reach2 c_7
      refine lv_iload hx hb d_U_send_13 (lv_at hl 4 rfl) ?_
      refine lv_if_eq (tgt := 93) hx hb d_U_send_15 (by decide) (fun c_9 => ?_) (fun c_9 => ?_)
      · exact ur_V (G := (fun _ b9 => xs_up σ = true → xu_K a b9)) (τ := xm_send σ (k, f, r, v, tt, u)) hC hK hX hS (fun _ => hF) ((xu_arr_0 hs hc hw c_9).trans (xu_send_arr hre)) rfl rfl d_U_send_93
      · refine lv_iload hx hb d_U_send_18 (lv_at hl 2 rfl) ?_
        refine lv_iconst (v := 4) hx hb d_U_send_20 (by decide) ?_
        refine lv_idiv hx hb d_U_send_21 (by decide) ?_
        refine lv_iload hx hb d_U_send_22 (lv_at hl 1 rfl) ?_
        refine lv_iconst (v := 4) hx hb d_U_send_24 (by decide) ?_
        refine lv_idiv hx hb d_U_send_25 (by decide) ?_
        refine lv_icmp_eq (tgt := 53) hx hb d_U_send_26 (by decide) (fun c_10 => absurd c_10 c_8) (fun c_10 => ?_)
        refine lv_aload_n hx hb d_U_send_29 rfl (lv_at hl 5 rfl) ?_
        refine xb_get (v := .int (xs_b (xs_up ((xu_arr σ k f r v tt u w).2)))) hx hb hts xw_in_U hown hK (ci := xi_U) rfl 27 (by decide) (hts _ lk_U_83) rfl hX.1 rfl d_U_send_30 ?_
        refine lv_if_ne (tgt := 53) hx hb d_U_send_33 (by decide) (fun c_11 => ?_) (fun c_11 => absurd ((xs_b0 c_11).symm.trans hup9) (by decide))
        refine lv_aload_n hx hb d_U_send_53 rfl (lv_at hl 5 rfl) ?_
        refine lv_iload hx hb d_U_send_54 (lv_at hl 4 rfl) ?_
        refine lv_iload hx hb d_U_send_56 (lv_at hl 2 rfl) ?_
        refine lv_iload hx hb d_U_send_58 (lv_at hl 1 rfl) ?_
        refine lv_iload hx hb d_U_send_60 (lv_at hl 0 rfl) ?_
        refine lv_iload hx hb d_U_send_62 (lv_at hl 10 rfl) ?_
        refine lv_iload hx hb d_U_send_64 (lv_at hl 11 rfl) ?_
        refine uk_iV (rest := []) (c_U_arrive l g o ((xu_arr σ k f r v tt u w).2) th ((xu_arr σ k f r v tt u w).1) n t b9 ((xu_arr σ k f r v tt u w).1) tt f (-1) v (-1) w hvf hvt) gd_U_U_arrive hd_U_arrive hC hK hX hS (fun _ h => h) (by omega) (by omega) (by omega) (by omega) hl.1 rfl (Nat.le_of_ble_eq_true rfl) d_U_send_66 (fun rp9 t b9 H locs hG9 hX hS _ _ => ?_)
        rw [hG9.1] at hX
        have hF := hF.tr hG9.2
        refine lv_aload_n hx hb d_U_send_69 rfl (lv_at hl 5 rfl) ?_
        refine xb_get (v := .int ((xu_arr ((xu_arr σ k f r v tt u w).2) ((xu_arr σ k f r v tt u w).1) tt (-1) v f (-1) w).1)) hx hb hts xw_in_U hown hK (ci := xi_U) rfl 29 (by decide) (hts _ lk_U_112) rfl hX.1 rfl d_U_send_70 ?_
        refine lv_istore (lv' := [(7, .int ((xu_arr ((xu_arr σ k f r v tt u w).2) ((xu_arr σ k f r v tt u w).1) tt (-1) v f (-1) w).1)), (10, .int (-1)), (9, .int f), (8, .int tt), (11, .int f), (0, .ref o), (1, .int k), (2, .int f), (3, .int tt), (4, .int r), (5, .int v), (6, .int w)]) hx hb d_U_send_73 hl (by decide) rfl (fun ls hl => ?_)
        refine lv_iload hx hb d_U_send_75 (lv_at hl 3 rfl) ?_
        refine lv_istore (lv' := [(11, .int tt), (7, .int ((xu_arr ((xu_arr σ k f r v tt u w).2) ((xu_arr σ k f r v tt u w).1) tt (-1) v f (-1) w).1)), (10, .int (-1)), (9, .int f), (8, .int tt), (0, .ref o), (1, .int k), (2, .int f), (3, .int tt), (4, .int r), (5, .int v), (6, .int w)]) hx hb d_U_send_77 hl (by decide) rfl (fun ls hl => ?_)
        refine lv_iload hx hb d_U_send_79 (lv_at hl 3 rfl) ?_
        refine lv_istore (lv' := [(8, .int f), (11, .int tt), (7, .int ((xu_arr ((xu_arr σ k f r v tt u w).2) ((xu_arr σ k f r v tt u w).1) tt (-1) v f (-1) w).1)), (10, .int (-1)), (9, .int f), (0, .ref o), (1, .int k), (2, .int f), (3, .int tt), (4, .int r), (5, .int v), (6, .int w)]) hx hb d_U_send_81 hl (by decide) rfl (fun ls hl => ?_)
        refine lv_iload hx hb d_U_send_83 (lv_at hl 1 rfl) ?_
        refine lv_istore (lv' := [(9, .int tt), (8, .int f), (11, .int tt), (7, .int ((xu_arr ((xu_arr σ k f r v tt u w).2) ((xu_arr σ k f r v tt u w).1) tt (-1) v f (-1) w).1)), (10, .int (-1)), (0, .ref o), (1, .int k), (2, .int f), (3, .int tt), (4, .int r), (5, .int v), (6, .int w)]) hx hb d_U_send_85 hl (by decide) rfl (fun ls hl => ?_)
        refine lv_iconst (v := (-1)) hx hb d_U_send_87 (by decide) ?_
        refine lv_istore (lv' := [(10, .int (-1)), (9, .int tt), (8, .int f), (11, .int tt), (7, .int ((xu_arr ((xu_arr σ k f r v tt u w).2) ((xu_arr σ k f r v tt u w).1) tt (-1) v f (-1) w).1)), (0, .ref o), (1, .int k), (2, .int f), (3, .int tt), (4, .int r), (5, .int v), (6, .int w)]) hx hb d_U_send_88 hl (by decide) rfl (fun ls hl => ?_)
        refine lv_goto (tgt := 13) hx hb d_U_send_90 (by decide) ?_
        have hA9 := xu_arr_1 hs hc hw c_9
        refine lv_iload hx hb d_U_send_13 (lv_at hl 4 rfl) ?_
        refine lv_if_eq (tgt := 93) hx hb d_U_send_15 (by decide) (fun c_12 => ?_) (fun c_12 => absurd hA9.1 c_12)
        exact ur_V (G := (fun _ b9 => xs_up σ = true → xu_K a b9)) (τ := xm_send σ (k, f, r, v, tt, u)) hC hK hX hS (fun _ => hF) (hA9.2.trans (xu_send_arr hre)) rfl rfl d_U_send_93
    · have c_7 := xs_b0 c_7
      refine lv_aload_n hx hb d_U_send_36 rfl (lv_at hl 4 rfl) ?_
      refine lv_iload hx hb d_U_send_37 (lv_at hl 3 rfl) ?_
      refine lv_iload hx hb d_U_send_39 (lv_at hl 2 rfl) ?_
      refine lv_iload hx hb d_U_send_41 (lv_at hl 1 rfl) ?_
      refine lv_iload hx hb d_U_send_43 (lv_at hl 0 rfl) ?_
      refine lv_iload hx hb d_U_send_45 (lv_at hl 9 rfl) ?_
      refine lv_iload hx hb d_U_send_47 (lv_at hl 10 rfl) ?_
      refine uk_iV (rest := []) (c_U_hold l g o σ th rp n t a k f tt r v u w hw) gd_U_U_hold hd_U_hold hC hK hX hS (fun _ h => h) (by omega) (by omega) (by omega) (by omega) hl.1 rfl (Nat.le_of_ble_eq_true rfl) d_U_send_49 (fun rp9 t b9 H locs hG9 hX hS _ _ => ?_)
      exact ur_V (G := (fun _ b9 => xs_up σ = true → xu_K a b9)) (τ := xm_send σ (k, f, r, v, tt, u)) hC hK hX hS (fun h => absurd (h.symm.trans c_7) (by decide)) (xu_send_hold (xu_reach3 hvf hvt c_2 c_7)) rfl rfl d_U_send_52
