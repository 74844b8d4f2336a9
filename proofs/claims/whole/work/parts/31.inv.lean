/-! What every run keeps. -/
def xm_cI (cn : Nat → xs_C) : Prop := (∀ i, i < 6 → (cn i).2.2.2.2.2 = true → (cn i).1 = 4) ∧ (∀ i, i < 6 → ((cn i).1 = 2 ∨ (cn i).1 = 3 ∨ (cn i).1 = 4) → vp_in (cn i).2.1 8) ∧ (∀ i, i < 6 → (cn i).1 = 4 → ¬ (cn i).2.2.1 < 0) ∧ (∀ i j, i < 6 → j < 6 → (cn i).1 = 4 → (cn j).1 = 4 → (cn i).2.1 = (cn j).2.1 → (cn i).2.2.1 = (cn j).2.2.1 → i = j)
def xm_zI (z : xs_Z) : Prop := xm_ok z ∧ xu_sh z.1 z.2.2.1 z.2.2.2.1
def xm_qI (l : List xs_Z) : Prop := ∀ z, z ∈ l → xm_zI z
def xm_I (σ : xs_S) : Prop := xm_cI (xs_cn σ) ∧ xm_qI (xs_q σ 14)
section XMI
variable {σ τ : xs_S} {i : Nat} {z : xs_Z}
theorem xm_I.wf (h : xm_I σ) : xm_wf σ := ⟨h.1.1, h.1.2.1, fun z hz => (h.2 z hz).1⟩
theorem xm_I.cw (h : xm_I σ) : xu_cw (xs_cn σ) := ⟨h.1.1, h.1.2.2.1, h.1.2.2.2⟩
theorem xm_I.sh (h : xm_I σ) : ∀ z, z ∈ xs_q σ 14 → xu_sh z.1 z.2.2.1 z.2.2.2.1 := fun z hz => (h.2 z hz).2
theorem xm_I0 : xm_I xs_S0 := by
  refine ⟨⟨fun i hi h => ?_, fun i hi h => ?_, fun i hi h => ?_, fun i j hi hj h => ?_⟩, fun z hz => ?_⟩
  · cases h
  · rcases h with h | h | h <;> exact absurd h (by show ¬ (0 : Int32) = _; decide)
  · exact absurd h (by show ¬ (0 : Int32) = _; decide)
  · exact absurd h (by show ¬ (0 : Int32) = _; decide)
  · cases hz
theorem xm_I.eq (h : xm_I σ) (h1 : xs_cn τ = xs_cn σ) (h2 : xs_q τ 14 = xs_q σ 14) : xm_I τ := by
  unfold xm_I
  rw [h1, h2]
  exact h
theorem xm_cI.up {cn : Nat → xs_C} (h : xm_cI cn) {c : xs_C} (h1 : c.2.2.2.2.2 = true → c.1 = 4) (h2 : (c.1 = 2 ∨ c.1 = 3 ∨ c.1 = 4) → vp_in c.2.1 8) (h3 : c.1 = 4 → ¬ c.2.2.1 < 0) (h4 : c.1 = 4 → ∀ j, j < 6 → j ≠ i → (cn j).1 = 4 → (cn j).2.1 = c.2.1 → (cn j).2.2.1 = c.2.2.1 → False) : xm_cI (va_up cn i c) := by
  obtain ⟨a1, a2, a3, a4⟩ := h
  refine ⟨fun j hj => ?_, fun j hj => ?_, fun j hj => ?_, fun j k hj hk => ?_⟩
  · by_cases e : j = i
    · subst e
      rw [va_up_self]
      exact h1
    · rw [va_up_ne _ _ e]
      exact a1 j hj
  · by_cases e : j = i
    · subst e
      rw [va_up_self]
      exact h2
    · rw [va_up_ne _ _ e]
      exact a2 j hj
  · by_cases e : j = i
    · subst e
      rw [va_up_self]
      exact h3
    · rw [va_up_ne _ _ e]
      exact a3 j hj
  · by_cases e : j = i
    · by_cases e2 : k = i
      · intros
        rw [e, e2]
      · subst e
        rw [va_up_self, va_up_ne _ _ e2]
        intro q1 q2 q3 q4
        exact (h4 q1 k hk e2 q2 q3.symm q4.symm).elim
    · by_cases e2 : k = i
      · subst e2
        rw [va_up_self, va_up_ne _ _ e]
        intro q1 q2 q3 q4
        exact (h4 q2 j hj e q1 q3 q4).elim
      · rw [va_up_ne _ _ e, va_up_ne _ _ e2]
        exact a4 j k hj hk
theorem xs_scn_scn {c d : xs_C} : xs_scn (xs_scn σ i c) i d = xs_scn σ i d := by
  show (xs_ac σ, xs_mk σ, va_up (va_up (xs_cn σ) i c) i d, xs_q σ, xs_lo σ, xs_up σ, xs_nx σ, xs_lt σ) = _
  rw [xs_up2]
  rfl
-- what is sent
theorem xm_q14_err : xs_q (xm_err σ z) 14 = xs_q σ 14 := xm_q14_give 6 (by decide)
theorem xm_q14_send (h : xm_ok z) : xs_q (xm_send σ z) 14 = xs_q σ 14 ∨ xs_q (xm_send σ z) 14 = xs_q σ 14 ++ [z] := by
  unfold xm_send
  split
  · exact Or.inl (xm_q14_arr h)
  · split
    · rename_i hf
      have hlt : (xs_q σ 14).length < xs_rm 14 := Nat.not_le.mp (of_decide_eq_false hf)
      refine Or.inr ?_
      unfold xm_add
      rw [if_pos hlt]
      show va_up (xs_q σ) 14 (xs_q σ 14 ++ [z]) 14 = _
      exact va_up_self _ _ _
    · split
      · exact Or.inl xm_q14_err
      · exact Or.inl rfl
theorem xm_I.send (h : xm_I σ) (hz : xm_zI z) : xm_I (xm_send σ z) := by
  refine ⟨by rw [xs_cn_send]; exact h.1, ?_⟩
  rcases xm_q14_send (σ := σ) hz.1 with e | e
  · rw [e]
    exact h.2
  · rw [e]
    intro y hy
    rcases List.mem_append.mp hy with q | q
    · exact h.2 y q
    · rw [List.mem_singleton.mp q]
      exact hz
theorem xm_I.stw (n : Nat) : ∀ {j : Nat} {σ : xs_S} {i : Nat} {k : Int32}, j + n ≤ 8 → xm_I σ → vp_in (xs_cn σ i).2.1 8 → (k = 2 ∨ k = 3) → xm_I (xm_stw n j σ (xs_ix (xs_cn σ i).2.1) i k) := by
  have gen : ∀ (n : Nat) {j a : Nat} {σ : xs_S} {i : Nat} {k : Int32}, j + n ≤ 8 → xm_I σ → vp_in (xs_cn σ i).2.1 8 → (k = 2 ∨ k = 3) → xm_I (xm_stw n j σ a i k) := by
    intro n
    induction n with
    | zero => intro j a σ i k _ h _ _; exact h
    | succ n ih =>
      intro j a σ i k hj h hv hk
      show xm_I (xm_stw n (j + 1) (if xm_has σ a j 2 = true then xm_send σ (xm_pres σ i k (nI j)) else σ) a i k)
      have hz : xm_zI (xm_pres σ i k (nI j)) := ⟨⟨hv, vp_in_nI (show j < 8 by omega) (by decide)⟩, xu_sh23 hk⟩
      split
      · exact ih (by omega) (h.send hz) (by rw [xs_cn_send]; exact hv) hk
      · exact ih (by omega) h hv hk
  intro j σ i k hj h hv hk
  exact gen n hj h hv hk
theorem xm_I.sp (n : Nat) : ∀ {i : Nat} {σ : xs_S} {x y k : Int32}, xm_I σ → vp_in x 8 → vp_in y 8 → (k = 2 ∨ k = 3) → xm_I (xm_sp n i σ x y k) := by
  induction n with
  | zero => intro i σ x y k h _ _ _; exact h
  | succ n ih =>
    intro i σ x y k h hx hy hk
    show xm_I (xm_sp n (i + 1) (if xm_av σ i x = true then xm_send σ (xm_pres σ i k y) else σ) x y k)
    split
    · rename_i hav
      have hz : xm_zI (xm_pres σ i k y) := ⟨⟨by show vp_in (xs_cn σ i).2.1 8; rw [xm_av_ac hav]; exact hx, hy⟩, xu_sh23 hk⟩
      exact ih (h.send hz) hx hy hk
    · exact ih h hx hy hk
theorem xm_q14_sco (n : Nat) : ∀ {i c : Nat} {σ : xs_S} {w : Int32}, c < 6 → xs_q (xm_sco n i σ w c) 14 = xs_q σ 14 := by
  induction n with
  | zero => intro i c σ w _; rfl
  | succ n ih =>
    intro i c σ w hc
    show xs_q (xm_sco n (i + 1) (if xm_av σ i w = true then _ else σ) w c) 14 = _
    rw [ih hc]
    split
    · exact xm_q_add_ne (by omega)
    · rfl
theorem xm_q14_so (n : Nat) : ∀ {j a c : Nat} {σ : xs_S}, c < 6 → xs_q (xm_so n j σ a c) 14 = xs_q σ 14 := by
  induction n with
  | zero => intro j a c σ _; rfl
  | succ n ih =>
    intro j a c σ hc
    show xs_q (xm_so n (j + 1) (if _ ∧ _ then _ else σ) a c) 14 = _
    rw [ih hc]
    split
    · exact xm_q14_sco 6 hc
    · rfl
theorem xm_q14_hk (n : Nat) : ∀ {a c : Nat} {σ : xs_S}, a < 8 → c < 6 → xs_q (xm_hk n σ a c) 14 = xs_q σ 14 := by
  induction n with
  | zero => intro a c σ _ _; rfl
  | succ n ih =>
    intro a c σ ha hc
    show xs_q (xm_hk n (xm_add (xm_pop σ a) (8 + c) _) a c) 14 = _
    rw [ih ha hc, xm_q_add_ne (by omega)]
    exact xm_q_sq_ne (by omega)
theorem xm_I.quiet (h : xm_I σ) (hi : i < 6) : xm_I (xm_quiet σ i) := by
  unfold xm_quiet
  split
  · rename_i hav
    have h4 := h.1.1 i hi hav
    have hv := h.1.2.1 i hi (Or.inr (Or.inr h4))
    have h1 : xm_I (xm_sav σ i false) := ⟨h.1.up (by intro q; cases q) (fun q => h.1.2.1 i hi q) (fun q => h.1.2.2.1 i hi q) (fun q j hj hne q2 q3 q4 => hne (h.1.2.2.2 j i hj hi q2 q q3 q4)), h.2⟩
    have h2 := h1.stw 8 (j := 0) (i := i) (k := 3) (by decide) (by rw [xm_sav_ac]; exact hv) (Or.inr rfl)
    rw [xm_sav_ac] at h2
    exact h2
  · exact h
theorem xm_I.shut (h : xm_I σ) (hi : i < 6) : xm_I (xm_shut σ i) := by
  have h1 := h.quiet hi
  have hav : (xs_cn (xm_quiet σ i) i).2.2.2.2.2 = false := by
    have := (xm_shut_cn (σ := σ) (i := i)).2.2.2
    unfold xm_shut xm_srs xm_sacc xm_sst at this
    rw [xs_cn_scn, xs_cn_scn, xs_cn_scn] at this
    exact this
  unfold xm_shut xm_srs xm_sacc xm_sst
  rw [xs_cn_scn, xs_scn_scn, xs_cn_scn, xs_scn_scn]
  refine ⟨h1.1.up ?_ ?_ ?_ ?_, h1.2⟩
  · intro q
    rw [show (xs_cn (xm_quiet σ i) i).2.2.2.2.2 = true from q] at hav
    cases hav
  · intro q
    rcases q with q | q | q <;> exact absurd q (by show ¬ (0 : Int32) = _; decide)
  · intro q
    exact absurd q (by show ¬ (0 : Int32) = _; decide)
  · intro q
    exact absurd q (by show ¬ (0 : Int32) = _; decide)
-- the face
theorem xm_I.register {x y : Int32} (h : xm_I σ) : xm_I (xp_register σ x y).2.2 := by
  unfold xp_register
  split
  · split
    · exact h
    · exact h
  · exact h
theorem xm_I.connect {x : Int32} (h : xm_I σ) : xm_I (xp_connect σ x).2.2 := by
  unfold xp_connect
  split
  · rename_i hx
    have hi := xs_ixl (xm_in6t hx)
    split
    · rename_i h0
      refine ⟨h.1.up ?_ ?_ ?_ ?_, ?_⟩
      · intro q
        have := h.1.1 _ hi q
        rw [h0] at this
        exact absurd this (by decide)
      · intro q
        rcases q with q | q | q <;> exact absurd q (by show ¬ (1 : Int32) = _; decide)
      · intro q
        exact absurd q (by show ¬ (1 : Int32) = _; decide)
      · intro q
        exact absurd q (by show ¬ (1 : Int32) = _; decide)
      · show xm_qI (va_up (xs_q σ) (8 + xs_ix x) [] 14)
        rw [va_up_ne _ _ (by omega)]
        exact h.2
    · exact h
  · exact h
theorem xm_I.login {x y : Int32} (h : xm_I σ) : xm_I (xp_login σ x y).2.2 := by
  unfold xp_login
  split
  · rename_i hx
    have hi := xs_ixl (xm_in6t hx.1)
    split
    · rename_i h0
      have e : xs_cn (xp_login1 σ (xs_ix x) y) = va_up (xs_cn σ) (xs_ix x) (2, y, (xs_cn σ (xs_ix x)).2.2.1, (xs_cn σ (xs_ix x)).2.2.2.1, xs_nx σ, (xs_cn σ (xs_ix x)).2.2.2.2.2) := by
        unfold xp_login1 xm_sch xm_sacc xm_sst
        simp only [xs_cn_scn, xs_scn_scn]
        rfl
      have h1 : xm_I (xp_login1 σ (xs_ix x) y) := by
        refine ⟨?_, h.2⟩
        rw [e]
        refine h.1.up ?_ ?_ ?_ ?_
        · intro q
          have := h.1.1 _ hi q
          rw [h0] at this
          exact absurd this (by decide)
        · intro _
          exact xm_in8t hx.2
        · intro q
          exact absurd q (by show ¬ (2 : Int32) = _; decide)
        · intro q
          exact absurd q (by show ¬ (2 : Int32) = _; decide)
      exact h1.eq xs_cn_sg (congrFun xs_q_sg 14)
    · exact h
  · exact h
theorem xm_I.prove {x y : Int32} (h : xm_I σ) : xm_I (xp_prove σ x y).2.2 := by
  unfold xp_prove
  split
  · rename_i hx
    have hi := xs_ixl (xm_in6t hx)
    split
    · rename_i h0
      have hav : (xs_cn σ (xs_ix x)).2.2.2.2.2 = true → False := fun q => by
        have := h.1.1 _ hi q
        rw [h0] at this
        exact absurd this (by decide)
      split
      · refine ⟨h.1.up (fun q => (hav q).elim) ?_ ?_ ?_, h.2⟩
        · intro _
          exact h.1.2.1 _ hi (Or.inl h0)
        · intro q
          exact absurd q (by show ¬ (3 : Int32) = _; decide)
        · intro q
          exact absurd q (by show ¬ (3 : Int32) = _; decide)
      · have e : xs_cn (xm_sacc (xm_sst σ (xs_ix x) 1) (xs_ix x) (-1)) = va_up (xs_cn σ) (xs_ix x) (1, -1, (xs_cn σ (xs_ix x)).2.2) := by
          unfold xm_sacc xm_sst
          simp only [xs_cn_scn, xs_scn_scn]
          rfl
        refine ⟨?_, h.2⟩
        show xm_cI (xs_cn (xm_sacc (xm_sst σ (xs_ix x) 1) (xs_ix x) (-1)))
        rw [e]
        refine h.1.up (fun q => (hav q).elim) ?_ ?_ ?_
        · intro q
          rcases q with q | q | q <;> exact absurd q (by show ¬ (1 : Int32) = _; decide)
        · intro q
          exact absurd q (by show ¬ (1 : Int32) = _; decide)
        · intro q
          exact absurd q (by show ¬ (1 : Int32) = _; decide)
    · exact h
  · exact h
theorem xm_I.bind1 {y : Int32} (h : xm_I σ) (hi : i < 6) (h3 : (xs_cn σ i).1 = 3) (hy : ¬ y < 0) (hu : ∀ j, j < 6 → (xs_cn σ j).1 = 4 → (xs_cn σ j).2.1 = (xs_cn σ i).2.1 → (xs_cn σ j).2.2.1 = y → False) : xm_I (xp_bind1 σ i y) := by
  have e : xs_cn (xp_bind1 σ i y) = va_up (xs_cn σ) i (4, (xs_cn σ i).2.1, y, (xs_cn σ i).2.2.2) := by
    unfold xp_bind1 xm_srs xm_sst
    simp only [xs_cn_scn, xs_scn_scn]
    rfl
  refine ⟨?_, h.2⟩
  rw [e]
  refine h.1.up (fun _ => rfl) (fun _ => h.1.2.1 i hi (Or.inr (Or.inl h3))) (fun _ => hy) ?_
  intro _ j hj hne q1 q2 q3
  exact hu j hj q1 q2 q3
theorem xm_I.bind {x y : Int32} (h : xm_I σ) : xm_I (xp_bind σ x y).2.2 := by
  unfold xp_bind
  split
  · rename_i hx
    have hi := xs_ixl (xm_in6t hx.1)
    split
    · rename_i h3
      cases hb : xm_bw 6 0 σ (xs_cn σ (xs_ix x)).2.1 y with
      | none =>
        exact h.bind1 hi h3 hx.2.1 (fun j hj q1 q2 q3 => xm_bw_none 6 hb j (by omega) (by omega) ⟨q1, q2, q3⟩)
      | some k =>
        obtain ⟨⟨k1, k2⟩, b1, b2, b3⟩ := xm_bw_some 6 hb
        have hki : k ≠ xs_ix x := fun e => by
          rw [e, h3] at b1
          exact absurd b1 (by decide)
        refine (h.shut (i := k) (by omega)).bind1 hi (by rw [xm_shut_ne (Ne.symm hki)]; exact h3) hx.2.1 (fun j hj q1 q2 q3 => ?_)
        by_cases e : j = k
        · subst e
          rw [xm_shut_cn.1] at q1
          exact absurd q1 (by decide)
        · rw [xm_shut_ne e] at q1 q2 q3
          rw [xm_shut_ne (Ne.symm hki)] at q2
          exact e (h.1.2.2.2 j k hj (by omega) q1 b1 (by rw [q2, b2]) (by rw [q3, b3]))
    · exact h
  · exact h
theorem xm_I.here1 {y : Int32} (h : xm_I σ) (hi : i < 6) (h4 : (xs_cn σ i).1 = 4) : xm_I (xp_here1 σ i y) ∧ xs_cn (xp_here1 σ i y) i = ((xs_cn σ i).1, (xs_cn σ i).2.1, (xs_cn σ i).2.2.1, y, (xs_cn σ i).2.2.2.2.1, true) := by
  have e : xs_cn (xm_spr (xm_sav σ i true) i y) = va_up (xs_cn σ) i ((xs_cn σ i).1, (xs_cn σ i).2.1, (xs_cn σ i).2.2.1, y, (xs_cn σ i).2.2.2.2.1, true) := by
    unfold xm_spr xm_sav
    simp only [xs_cn_scn, xs_scn_scn]
    rfl
  have h1 : xm_I (xm_spr (xm_sav σ i true) i y) := by
    refine ⟨?_, h.2⟩
    rw [e]
    refine h.1.up (fun _ => h4) (fun q => h.1.2.1 i hi q) (fun q => h.1.2.2.1 i hi q) ?_
    intro q j hj hne q2 q3 q4
    exact hne (h.1.2.2.2 j i hj hi q2 q q3 q4)
  have hac : (xs_cn (xm_spr (xm_sav σ i true) i y) i).2.1 = (xs_cn σ i).2.1 := by rw [xm_spr_ac, xm_sav_ac]
  have h2 := h1.stw 8 (j := 0) (i := i) (k := 2) (by decide) (by rw [hac]; exact h.1.2.1 i hi (Or.inr (Or.inr h4))) (Or.inl rfl)
  rw [hac] at h2
  refine ⟨h2, ?_⟩
  unfold xp_here1
  rw [xs_cn_stw, e, va_up_self]
theorem xm_I.here {x y : Int32} (h : xm_I σ) : xm_I (xp_here σ x y).2.2 := by
  unfold xp_here
  split
  · rename_i hx
    have hi := xs_ixl (xm_in6t hx.1)
    split
    · rename_i h4
      have h1 := (h.here1 (y := y) hi h4).1
      have hv := xs_ixl (h.1.2.1 _ hi (Or.inr (Or.inr h4)))
      show xm_I (xp_here3 σ (xs_ix x) y)
      unfold xp_here3
      split
      · exact h1
      · unfold xp_here2
        split
        · exact h1.eq xs_cn_so (xm_q14_so 8 hi)
        · exact h1.eq ((xm_same_hk _).2.1.trans xs_cn_so) ((xm_q14_hk _ hv hi).trans (xm_q14_so 8 hi))
    · exact h
  · exact h
theorem xm_I.gone {x : Int32} (h : xm_I σ) : xm_I (xp_gone σ x).2.2 := by
  unfold xp_gone
  split
  · rename_i hx
    have hi := xs_ixl (xm_in6t hx)
    split
    · rename_i hav
      have := h.quiet hi
      unfold xm_quiet at this
      rw [if_pos hav] at this
      exact this
    · exact h
  · exact h
theorem xm_I.close {x : Int32} (h : xm_I σ) : xm_I (xp_close σ x).2.2 := by
  unfold xp_close
  split
  · rename_i hx
    split
    · exact h
    · exact h.shut (xs_ixl (xm_in6t hx))
  · exact h
theorem xm_I.message {x y r b : Int32} (h : xm_I σ) : xm_I (xp_message σ x y r b).2.2 := by
  unfold xp_message
  split
  · rename_i hx
    have hi := xs_ixl (xm_in6t hx.1)
    split
    · rename_i h4
      exact h.send ⟨⟨h.1.2.1 _ hi (Or.inr (Or.inr h4)), xm_in8t hx.2.1⟩, Or.inl rfl⟩
    · exact h
  · exact h
theorem xm_q14_com {a b : Nat} {k : Int32} : xs_q (xm_com σ a b k) 14 = xs_q σ 14 := by
  unfold xm_com
  split
  · split <;> rfl
  · split
    · rfl
    · split
      · rfl
      · split <;> rfl
theorem xm_I.subscribe {x y k : Int32} (h : xm_I σ) : xm_I (xp_subscribe σ x y k).2.2 := by
  unfold xp_subscribe
  split
  · rename_i hx
    have hi := xs_ixl (xm_in6t hx.1)
    have hy := xm_in8t hx.2.1
    split
    · exact h
    · split
      · rename_i h4
        have hv := h.1.2.1 _ hi (Or.inr (Or.inr h4))
        split
        · exact h
        · show xm_I (xp_sub3 σ (xs_ix x) y k)
          have h1 : xm_I (xp_sub1 σ (xs_ix x) y k) := by
            unfold xp_sub1
            split
            · exact h.sp 6 hv hy (Or.inr rfl)
            · exact h
          have hk : k = 4 ∨ k = 5 ∨ k = 6 ∨ k = 7 := by
            by_cases q4 : k = 4
            · exact Or.inl q4
            by_cases q5 : k = 5
            · exact Or.inr (Or.inl q5)
            by_cases q6 : k = 6
            · exact Or.inr (Or.inr (Or.inl q6))
            by_cases q7 : k = 7
            · exact Or.inr (Or.inr (Or.inr q7))
            exact (xu_47 (decide_eq_true hx.2.2) q4 q5 q6 q7).elim
          have h2 : xm_I (xp_sub2 σ (xs_ix x) y k) := (h1.eq xs_cn_com xm_q14_com).send ⟨⟨hv, hy⟩, Or.inr (Or.inr (Or.inr ⟨hk, rfl, rfl⟩))⟩
          unfold xp_sub3
          split
          · exact h2.sp 6 hv hy (Or.inl rfl)
          · exact h2
      · exact h
  · exact h
theorem xm_I.lk (n : Nat) : ∀ {σ : xs_S}, xm_I σ → n ≤ (xs_q σ 14).length → xm_I (xm_lk n σ) := by
  induction n with
  | zero => intro σ h _; exact h
  | succ n ih =>
    intro σ h hn
    show xm_I (xm_lk n (xm_arr (xm_pop σ 14) ((xs_q σ 14).headD xs_z0)))
    obtain ⟨z, r, hq⟩ : ∃ z r, xs_q σ 14 = z :: r := by
      cases hq : xs_q σ 14 with
      | nil => rw [hq] at hn; exact absurd hn (Nat.not_succ_le_zero n)
      | cons z r => exact ⟨z, r, rfl⟩
    rw [hq, List.headD_cons]
    have hz := (h.2 z (by rw [hq]; exact List.mem_cons_self)).1
    have e1 : xs_q (xm_arr (xm_pop σ 14) z) 14 = r := by
      rw [xm_q14_arr hz, xm_q_pop, hq]
      rfl
    refine ih ⟨by rw [xm_same_arr.2.1]; exact h.1, ?_⟩ ?_
    · rw [e1]
      intro y hy
      exact h.2 y (by rw [hq]; exact List.mem_cons_of_mem _ hy)
    · rw [e1]
      rw [hq] at hn
      exact Nat.le_of_succ_le_succ hn
theorem xm_I.link {u : Bool} (h : xm_I σ) : xm_I (xp_link σ u).2.2 := by
  unfold xp_link
  split
  · exact xm_I.lk _ (σ := xp_link1 σ u) h (Nat.le_refl _)
  · exact h
theorem xm_I.take {x : Int32} (h : xm_I σ) : xm_I (xp_take σ x).2.2 := by
  unfold xp_take
  split
  · rename_i hx
    have hi := xs_ixl (xm_in6t hx)
    split
    · exact h
    · refine ⟨h.1, ?_⟩
      show xm_qI (va_up (xs_q σ) (8 + xs_ix x) _ 14)
      rw [va_up_ne _ _ (by omega)]
      exact h.2
  · exact h
theorem xm_I.taken {x : Int32} (h : xm_I σ) : xm_I (xp_taken σ x).2.2 := by
  unfold xp_taken
  split
  · exact h
  · split
    · exact h
    · split
      · exact h
      · split <;> exact h
theorem xm_I.roster {x y : Int32} (h : xm_I σ) : xm_I (xp_roster σ x y).2.2 := by
  unfold xp_roster
  split <;> exact h
theorem xm_I.connection {x y : Int32} (h : xm_I σ) : xm_I (xp_connection σ x y).2.2 := by
  unfold xp_connection
  split
  · split
    · exact h
    · split
      · exact h
      · split
        · exact h
        · split
          · exact h
          · split <;> exact h
  · exact h
theorem xm_I.count {x : Int32} (h : xm_I σ) : xm_I (xp_count σ x).2.2 := by
  unfold xp_count
  split
  · exact h
  · split
    · exact h
    · split
      · exact h
      · split
        · exact h
        · split <;> exact h
end XMI
