/-! The queues, by hand. -/
theorem xs_rml (n : Nat) : xs_rm n ≤ 10 := by
  unfold xs_rm
  split
  · decide
  · split <;> decide
theorem xs_rmp (n : Nat) : 0 < xs_rm n := by
  unfold xs_rm
  split
  · decide
  · split <;> decide
theorem xm_full_t {σ : xs_S} {n : Nat} (hl : (xs_q σ n).length ≤ xs_rm n) (h : ¬ nI (xs_q σ n).length < nI (xs_rm n)) : xm_full σ n = true := by
  have h10 := xs_rml n
  refine decide_eq_true (Nat.not_lt.mp fun q => h (nI_lt q (by omega)))
theorem xm_full_f {σ : xs_S} {n : Nat} (hl : (xs_q σ n).length ≤ xs_rm n) (h : nI (xs_q σ n).length < nI (xs_rm n)) : xm_full σ n = false := by
  have h10 := xs_rml n
  refine decide_eq_false (fun q => nI_nlt q (by omega) h)
set_option maxHeartbeats 4000000 in
set_option maxRecDepth 100000 in
theorem c_Q_add (l : Launch) (g : xw_G) (B : Nat → Prop) (o lim : Nat) (σ : xs_S) (n : Nat) (hn : n < 15) (a : Nat) (z : xs_Z) : xc_V l y_Q_add (Cond.code y_Q_add b_Q_add 2 none) g B o lim σ (xm_add σ n z) [.ref (o + xs_qo n), .ref a] (fun H => xw_Z g B a z H) 0 0 0 0 := by
  refine xh_V (own := R_Q) (by decide) rfl (Nat.le_of_ble_eq_true rfl) ?_
  intro p e R s m below meth c ls hRf hRl hRc hRs hC hW hz hl
  obtain ⟨hx, hb, hml, hr, hown, hts, hlk⟩ := id hC
  have hX := hW.1
  have hK := hW.2.1
  have hS : va_S (xw_A o s.heap.size) s.heap s.heap [] := va_S.rf
  have hl : lv_has ls 2 [(0, .ref (o + xs_qo n)), (1, .ref a)] := hl
  obtain ⟨f0, hq, hlen, hzl⟩ := hX.2.2.2.2.2.2.1 n hn
  have h10 := xs_rml n
  obtain ⟨L, hL⟩ : ∃ L, (xs_q σ n).length = L := ⟨_, rfl⟩
  rw [hL] at hq hlen
  refine lv_aload_n hx hb d_Q_add_0 rfl (lv_at hl 0 rfl) ?_
  refine gf_Q_Q_size hx hb hts hown hK hq.1 rfl d_Q_add_1 ?_
  refine lv_aload_n hx hb d_Q_add_4 rfl (lv_at hl 0 rfl) ?_
  refine gf_Q_Q_places hx hb hts hown hK hq.1 rfl d_Q_add_5 ?_
  refine xb_alen hx hb hK 2 rfl hq.2 d_Q_add_8 ?_
  refine lv_icmp_ge (tgt := 35) hx hb d_Q_add_9 (by decide) (fun c_1 => ?_) (fun c_1 => ?_)
  · have hfull : ¬ L < xs_rm n := fun q => nI_ge q (by omega) c_1
    refine lv_aload_n hx hb d_Q_add_35 rfl (lv_at hl 0 rfl) ?_
    refine lv_dup hx hb d_Q_add_36 rfl ?_
    refine gf_Q_Q_lost hx hb hts hown hK hq.1 rfl d_Q_add_37 ?_
    refine lv_iconst (v := 1) hx hb d_Q_add_40 (by decide) ?_
    refine lv_iadd hx hb d_Q_add_41 ?_
    refine xb_put hx hb hts xw_in_Q t_Q t_Q_ok n_Q hown hK (ci := xi_Q) rfl 2 (by decide) (hts _ lk_Q_19) rfl rfl hq.1 rfl rfl (Nat.le_of_ble_eq_true rfl) d_Q_add_42 (fun H1 lc hlc hat hz1 hq1 => ?_)
    have hF : xw_F (fun q => q = o + xs_qo n ∨ q = o + xs_qo n + 1) s.heap H1 := (xw_F.put hz1 hq1).mono (fun q e => Or.inl e)
    have hX1 := hX.setQ hn (l := xs_q σ n) (w := xs_lo σ n + 1) (f := f0) hF ⟨by rw [hL]; exact hat, xw_at hq.2 (xw_F.put hz1 hq1) (by (try dsimp only); omega)⟩ (by rw [hL]; exact hlen) hzl
    have hS1 := xw_Sput hS hz1 hq1 hlc (Or.inl (xw_inQ hn))
    exact xr_V hC hW hX1 hS1 (by omega) (by omega) (by simp only [xm_add, hL, hfull, if_false]) d_Q_add_45
  · have hlt : L < xs_rm n := Nat.not_le.mp (fun q => c_1 (nI_le q (by omega)))
    refine lv_aload_n hx hb d_Q_add_12 rfl (lv_at hl 0 rfl) ?_
    refine gf_Q_Q_places hx hb hts hown hK hq.1 rfl d_Q_add_13 ?_
    refine lv_aload_n hx hb d_Q_add_16 rfl (lv_at hl 0 rfl) ?_
    refine gf_Q_Q_size hx hb hts hown hK hq.1 rfl d_Q_add_17 ?_
    refine lv_aload_n hx hb d_Q_add_20 rfl (lv_at hl 1 rfl) ?_
    refine xb_aast hx hb hK 2 xi_Z (r := (R_Z, F_Z, 6)) rfl rfl hq.2 hz.1 (vp_in_nI hlt (by omega)) d_Q_add_21 (fun H1 lc hlc hat1 hz1 hq1 => ?_)
    rw [nI_clamp (show L < 2 ^ 31 by omega)] at hat1
    have hS1 := xw_Sput hS hz1 hq1 hlc (Or.inl (xw_inP hn))
    have hqa : va_at g.1 vwCl (o + xs_qo n, .inr (xi_Q, xw_qF o n L (xs_lo σ n))) H1 := xw_at hq.1 (xw_F.put hz1 hq1) (by (try dsimp only); omega)
    have hF1 : xw_F (fun q => q = o + xs_qo n ∨ q = o + xs_qo n + 1) s.heap H1 := (xw_F.put hz1 hq1).mono (fun q e => Or.inr e)
    refine lv_aload_n hx hb d_Q_add_22 rfl (lv_at hl 0 rfl) ?_
    refine lv_dup hx hb d_Q_add_23 rfl ?_
    refine gf_Q_Q_size hx hb hts hown hK hqa rfl d_Q_add_24 ?_
    refine lv_iconst (v := 1) hx hb d_Q_add_27 (by decide) ?_
    refine lv_iadd hx hb d_Q_add_28 ?_
    refine xb_put hx hb hts xw_in_Q t_Q t_Q_ok n_Q hown hK (ci := xi_Q) rfl 1 (by decide) (hts _ lk_Q_15) rfl rfl hqa rfl rfl (Nat.le_of_ble_eq_true rfl) d_Q_add_29 (fun H2 lc2 hlc2 hat2 hz2 hq2 => ?_)
    rw [nI_1] at hat2
    have hS2 := xw_Sput hS1 hz2 hq2 hlc2 (Or.inl (xw_inQ hn))
    have hF2 : xw_F (fun q => q = o + xs_qo n ∨ q = o + xs_qo n + 1) s.heap H2 := hF1.tr ((xw_F.put hz2 hq2).mono (fun q e => Or.inl e))
    have hln : (xs_q σ n ++ [z]).length = L + 1 := by rw [List.length_append, hL]; rfl
    have hX2 := hX.setQ hn (l := xs_q σ n ++ [z]) (w := xs_lo σ n) (f := va_up f0 L (some a)) hF2 ⟨by rw [hln]; exact hat2, xw_at hat1 (xw_F.put hz2 hq2) (by (try dsimp only); omega)⟩ (by rw [hln]; exact hlt) (fun j z' hj => by
      by_cases e : j < L
      · rw [List.getElem?_append_left (by rw [hL]; exact e)] at hj
        rw [va_up_ne _ _ (Nat.ne_of_lt e)]
        exact hzl j z' hj
      · rw [List.getElem?_append_right (by rw [hL]; omega), hL] at hj
        have e2 : j - L = 0 := by
          have := (List.getElem?_eq_some_iff.mp hj).1
          simp only [List.length_singleton] at this
          omega
        have e3 : j = L := by omega
        subst e3
        rw [e2] at hj
        cases hj
        rw [va_up_self]
        exact ⟨a, rfl, hz⟩)
    refine lv_goto (tgt := 45) hx hb d_Q_add_32 (by decide) ?_
    exact xr_V hC hW hX2 hS2 (by omega) (by omega) (by simp only [xm_add, hL, hlt, if_true]) d_Q_add_45
set_option maxHeartbeats 4000000 in
set_option maxRecDepth 100000 in
theorem c_Q_clear (l : Launch) (g : xw_G) (B : Nat → Prop) (o lim : Nat) (σ : xs_S) (n : Nat) (hn : n < 15) : xc_V l y_Q_clear (Cond.code y_Q_clear b_Q_clear 1 none) g B o lim σ (xm_clear σ n) [.ref (o + xs_qo n)] (fun _ => True) 0 0 0 0 := by
  refine xh_V (own := R_Q) (by decide) rfl (Nat.le_of_ble_eq_true rfl) ?_
  intro p e R s m below meth c ls hRf hRl hRc hRs hC hW hE hl
  obtain ⟨hx, hb, hml, hr, hown, hts, hlk⟩ := id hC
  have hX := hW.1
  have hK := hW.2.1
  have hS : va_S (xw_A o s.heap.size) s.heap s.heap [] := va_S.rf
  have hl : lv_has ls 1 [(0, .ref (o + xs_qo n))] := hl
  obtain ⟨f0, hq, hlen, hzl⟩ := hX.2.2.2.2.2.2.1 n hn
  refine lv_aload_n hx hb d_Q_clear_0 rfl (lv_at hl 0 rfl) ?_
  refine lv_iconst (v := 0) hx hb d_Q_clear_1 (by decide) ?_
  refine xb_put hx hb hts xw_in_Q t_Q t_Q_ok n_Q hown hK (ci := xi_Q) rfl 1 (by decide) (hts _ lk_Q_15) rfl rfl hq.1 rfl rfl (Nat.le_of_ble_eq_true rfl) d_Q_clear_2 (fun H1 lc hlc hat hz1 hq1 => ?_)
  have hF : xw_F (fun q => q = o + xs_qo n ∨ q = o + xs_qo n + 1) s.heap H1 := (xw_F.put hz1 hq1).mono (fun q e => Or.inl e)
  have hX1 := hX.setQ hn (l := []) (w := xs_lo σ n) (f := f0) hF ⟨hat, xw_at hq.2 (xw_F.put hz1 hq1) (by (try dsimp only); omega)⟩ (Nat.zero_le _) (fun j z' hj => by simp at hj)
  exact xr_V hC hW hX1 (xw_Sput hS hz1 hq1 hlc (Or.inl (xw_inQ hn))) (by omega) (by omega) rfl d_Q_clear_5
set_option maxHeartbeats 4000000 in
set_option maxRecDepth 100000 in
theorem c_Q_removeFirst (l : Launch) (g : xw_G) (B : Nat → Prop) (o lim : Nat) (σ : xs_S) (n : Nat) (hn : n < 15) (hne : ∃ z t, xs_q σ n = z :: t) : xc_Q l y_Q_removeFirst (Cond.code y_Q_removeFirst b_Q_removeFirst 3 (some (.object "XmppPair$Stanza"))) g B o lim σ (xm_pop σ n) [.ref (o + xs_qo n)] (fun _ => True) (fun v H => ∃ a, v = .ref a ∧ xw_Z g B a ((xs_q σ n).headD xs_z0) H) 0 0 0 0 := by
  refine xh_Q (own := R_Q) (by decide) rfl (Nat.le_of_ble_eq_true rfl) ?_
  intro p e R s m below meth c ls hRf hRl hRc hRs hC hW hE hl
  obtain ⟨hx, hb, hml, hr, hown, hts, hlk⟩ := id hC
  have hX := hW.1
  have hK := hW.2.1
  have hS : va_S (xw_A o s.heap.size) s.heap s.heap [] := va_S.rf
  have hl : lv_has ls 3 [(0, .ref (o + xs_qo n))] := hl
  obtain ⟨f0, hq, hlen, hzl⟩ := hX.2.2.2.2.2.2.1 n hn
  obtain ⟨z, t, hzt⟩ := hne
  have h10 := xs_rml n
  have hrp := xs_rmp n
  obtain ⟨L, hL⟩ : ∃ L, t.length = L := ⟨_, rfl⟩
  have hL1 : (xs_q σ n).length = L + 1 := by rw [hzt, List.length_cons, hL]
  rw [hL1] at hq hlen
  obtain ⟨a0, hf0, hz0⟩ := hzl 0 z (by rw [hzt]; rfl)
  refine lv_aload_n hx hb d_Q_removeFirst_0 rfl (lv_at hl 0 rfl) ?_
  refine gf_Q_Q_places hx hb hts hown hK hq.1 rfl d_Q_removeFirst_1 ?_
  refine lv_iconst (v := 0) hx hb d_Q_removeFirst_4 (by decide) ?_
  refine xb_aald (v := a0) hx hb hK 2 rfl hq.2 (vp_in_nI (n := 0) hrp (by omega)) hf0 d_Q_removeFirst_5 ?_
  refine lv_astore_n (lv' := [(1, .ref a0), (0, .ref (o + xs_qo n))]) hx hb d_Q_removeFirst_6 rfl hl (by decide) rfl (fun ls hl => ?_)
  refine lv_iconst (v := 1) hx hb d_Q_removeFirst_7 (by decide) ?_
  refine lv_istore_n (lv' := [(2, .int 1), (1, .ref a0), (0, .ref (o + xs_qo n))]) hx hb d_Q_removeFirst_8 rfl hl (by decide) rfl (fun ls hl => ?_)
  have loop : ∀ (k i : Nat) (H : Heap) (locs : List Loc) (ls : Array Slot), i + k = L + 1 → 1 ≤ i → xw_F (fun q => q = o + xs_qo n ∨ q = o + xs_qo n + 1) s.heap H → xw_QF g o n (fun j => if j + 1 < i then f0 (j + 1) else f0 j) (L + 1) (xs_lo σ n) H → va_S (xw_A o s.heap.size) s.heap H locs → lv_has ls 3 [(2, .int (nI i)), (1, .ref a0), (0, .ref (o + xs_qo n))] →
      W p l e R s m ([.ref (o + xs_qo n)] : List Value).toArray below meth c H locs 0 0 (MQ below (xb_Q (fun v t => (∃ a, v = .ref a ∧ xw_Z g B a ((xs_q σ n).headD xs_z0) t.heap) ∧ xw_W g B o lim (xm_pop σ n) t) (xw_A o s.heap.size)) ([.ref (o + xs_qo n)] : List Value).toArray s 0 0 (xw_A o s.heap.size)) (F0 m 9 ls []) := by
    intro k
    induction k with
    | zero =>
      intro i H locs ls hi h1 hF hq hS hl
      obtain rfl : i = L + 1 := by omega
      refine lv_iload_n hx hb d_Q_removeFirst_9 rfl (lv_at hl 0 rfl) ?_
      refine lv_aload_n hx hb d_Q_removeFirst_10 rfl (lv_at hl 2 rfl) ?_
      refine gf_Q_Q_size hx hb hts hown hK hq.1 rfl d_Q_removeFirst_11 ?_
      refine lv_icmp_ge (tgt := 37) hx hb d_Q_removeFirst_14 (by decide) (fun c_1 => ?_) (fun c_1 => absurd (nI_le (Nat.le_refl _) (by omega)) c_1)
      refine lv_aload_n hx hb d_Q_removeFirst_37 rfl (lv_at hl 2 rfl) ?_
      refine gf_Q_Q_size hx hb hts hown hK hq.1 rfl d_Q_removeFirst_38 ?_
      refine lv_if_le (tgt := 54) hx hb d_Q_removeFirst_41 (by decide) (fun c_2 => absurd c_2 (nI_nle (by omega) (by omega))) (fun c_2 => ?_)
      refine lv_aload_n hx hb d_Q_removeFirst_44 rfl (lv_at hl 2 rfl) ?_
      refine lv_dup hx hb d_Q_removeFirst_45 rfl ?_
      refine gf_Q_Q_size hx hb hts hown hK hq.1 rfl d_Q_removeFirst_46 ?_
      refine lv_iconst (v := 1) hx hb d_Q_removeFirst_49 (by decide) ?_
      refine lv_isub hx hb d_Q_removeFirst_50 ?_
      refine xb_put hx hb hts xw_in_Q t_Q t_Q_ok n_Q hown hK (ci := xi_Q) rfl 1 (by decide) (hts _ lk_Q_15) rfl rfl hq.1 rfl rfl (Nat.le_of_ble_eq_true rfl) d_Q_removeFirst_51 (fun H2 lc2 hlc2 hat2 hz2 hq2 => ?_)
      rw [nI_pred] at hat2
      have hS2 := xw_Sput hS hz2 hq2 hlc2 (Or.inl (xw_inQ hn))
      have hF2 : xw_F (fun q => q = o + xs_qo n ∨ q = o + xs_qo n + 1) s.heap H2 := hF.tr ((xw_F.put hz2 hq2).mono (fun q e => Or.inl e))
      have hX2 := hX.setQ hn (l := t) (w := xs_lo σ n) hF2 ⟨by rw [hL]; exact hat2, xw_at hq.2 (xw_F.put hz2 hq2) (by (try dsimp only); omega)⟩ (by omega) (fun j z' hj => by
        have hjl : j < L := by rw [← hL]; exact (List.getElem?_eq_some_iff.mp hj).1
        obtain ⟨a', h1, h2⟩ := hzl (j + 1) z' (by rw [hzt]; exact hj)
        exact ⟨a', by rw [if_pos (by omega)]; exact h1, h2⟩)
      refine lv_aload_n hx hb d_Q_removeFirst_54 rfl (lv_at hl 1 rfl) ?_
      have hzf : xw_Z g B a0 ((xs_q σ n).headD xs_z0) H2 := by
        rw [hzt]
        exact hz0.F (fun q e => hX.2.2.2.2.2.2.2.1 q (Or.elim e (fun e => by rw [e]; exact xw_inQ hn) (fun e => by rw [e]; exact xw_inP hn))) hF2
      exact xr_R (τ := xm_pop σ n) (val := fun v H => ∃ a, v = .ref a ∧ xw_Z g B a ((xs_q σ n).headD xs_z0) H) hC hW hX2 hS2 (by omega) (by omega) (by unfold xm_pop; rw [hzt]; rfl) (Or.inr ⟨_, rfl⟩) ⟨_, rfl, hzf⟩ d_Q_removeFirst_55
    | succ k ih =>
      intro i H locs ls hi h1 hF hq hS hl
      refine lv_iload_n hx hb d_Q_removeFirst_9 rfl (lv_at hl 0 rfl) ?_
      refine lv_aload_n hx hb d_Q_removeFirst_10 rfl (lv_at hl 2 rfl) ?_
      refine gf_Q_Q_size hx hb hts hown hK hq.1 rfl d_Q_removeFirst_11 ?_
      refine lv_icmp_ge (tgt := 37) hx hb d_Q_removeFirst_14 (by decide) (fun c_1 => absurd c_1 (nI_ge (by omega) (by omega))) (fun c_1 => ?_)
      have hil : i < (xs_q σ n).length := by omega
      obtain ⟨ai, hfi, hzi⟩ := hzl i _ (List.getElem?_eq_getElem hil)
      have hzi := hzi.F (fun q e => hX.2.2.2.2.2.2.2.1 q (Or.elim e (fun e => by rw [e]; exact xw_inQ hn) (fun e => by rw [e]; exact xw_inP hn))) hF
      refine lv_aload_n hx hb d_Q_removeFirst_17 rfl (lv_at hl 2 rfl) ?_
      refine gf_Q_Q_places hx hb hts hown hK hq.1 rfl d_Q_removeFirst_18 ?_
      refine lv_iload_n hx hb d_Q_removeFirst_21 rfl (lv_at hl 0 rfl) ?_
      refine lv_iconst (v := 1) hx hb d_Q_removeFirst_22 (by decide) ?_
      refine lv_isub hx hb d_Q_removeFirst_23 ?_
      refine lv_topi (fun x9 ex9 => ?_)
      have ex9 : x9 = nI (i - 1) := by rw [ex9, ← nI_pred (i - 1), Nat.sub_add_cancel h1]
      subst ex9
      refine lv_aload_n hx hb d_Q_removeFirst_24 rfl (lv_at hl 2 rfl) ?_
      refine gf_Q_Q_places hx hb hts hown hK hq.1 rfl d_Q_removeFirst_25 ?_
      refine lv_iload_n hx hb d_Q_removeFirst_28 rfl (lv_at hl 0 rfl) ?_
      refine xb_aald (v := ai) hx hb hK 2 rfl hq.2 (vp_in_nI (by omega) (by omega)) (by rw [nI_clamp (by omega), if_neg (by omega)]; exact hfi) d_Q_removeFirst_29 ?_
      refine xb_aast hx hb hK 2 xi_Z (r := (R_Z, F_Z, 6)) rfl rfl hq.2 hzi.1 (vp_in_nI (by omega) (by omega)) d_Q_removeFirst_30 (fun H1 lc hlc hat1 hz1 hq1 => ?_)
      rw [nI_clamp (show i - 1 < 2 ^ 31 by omega)] at hat1
      have hS1 := xw_Sput hS hz1 hq1 hlc (Or.inl (xw_inP hn))
      have hF1 : xw_F (fun q => q = o + xs_qo n ∨ q = o + xs_qo n + 1) s.heap H1 := hF.tr ((xw_F.put hz1 hq1).mono (fun q e => Or.inr e))
      have hqa : va_at g.1 vwCl (o + xs_qo n, .inr (xi_Q, xw_qF o n (L + 1) (xs_lo σ n))) H1 := xw_at hq.1 (xw_F.put hz1 hq1) (by (try dsimp only); omega)
      have hfe : va_up (fun j => if j + 1 < i then f0 (j + 1) else f0 j) (i - 1) (some ai) = (fun j => if j + 1 < i + 1 then f0 (j + 1) else f0 j) := by
        funext j
        by_cases e : j = i - 1
        · subst e
          rw [va_up_self, if_pos (by omega), Nat.sub_add_cancel h1, hfi]
        · rw [va_up_ne _ _ e]
          by_cases e2 : j + 1 < i
          · rw [if_pos e2, if_pos (by omega)]
          · rw [if_neg e2, if_neg (by omega)]
      rw [hfe] at hat1
      refine lv_iinc (v := nI (i + 1)) (lv' := [(2, .int (nI (i + 1))), (1, .ref a0), (0, .ref (o + xs_qo n))]) hx hb d_Q_removeFirst_31 hl (k := 0) rfl (nI_1 _) (by decide) rfl (fun ls hl => ?_)
      refine lv_goto (tgt := 9) hx hb d_Q_removeFirst_34 (by decide) ?_
      exact ih (i + 1) _ _ ls (by omega) (by omega) hF1 ⟨hqa, hat1⟩ hS1 hl
  exact loop L 1 _ _ ls (by omega) (Nat.le_refl 1) xw_F.rf ⟨hq.1, by
    have : (fun j => if j + 1 < 1 then f0 (j + 1) else f0 j) = f0 := by
      funext j
      rw [if_neg (by omega)]
    rw [this]
    exact hq.2⟩ hS hl
