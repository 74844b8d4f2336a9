/-! The reference: what its face needs. -/
theorem xu_sh23 {k r v : Int32} (h : k = 2 ∨ k = 3) : xu_sh k r v := h.elim (fun e => Or.inr (Or.inl e)) (fun e => Or.inr (Or.inr (Or.inl e)))
theorem xu_n1 {k : Int32} (h : k = 2 ∨ k = 3) : ¬ k = 1 := by
  rcases h with rfl | rfl <;> decide
theorem xu_tgn {k f r v t u : Int32} (h : ¬ k = 1) : u = xu_tg (k, f, r, v, t, u) := by
  unfold xu_tg
  rw [if_neg (fun q => h q.1)]
theorem xu_it {v a b : Int32} (h : xu_i v a b = true) : ¬ v < a ∧ ¬ b < v := of_decide_eq_true h
theorem xu_if {v a b : Int32} (h : xu_i v a b = false) : ¬ (¬ v < a ∧ ¬ b < v) := of_decide_eq_false h
theorem xu_itl {v a b b' : Int32} (hb : b'.toInt = b.toInt + 1) (h : xu_i v a b = true) : ¬ b' ≤ v := fun q => (xu_it h).2 ((xu_lt hb).mpr q)
theorem xu_ifl {v a b b' : Int32} (hb : b'.toInt = b.toInt + 1) (h : xu_i v a b = false) : ¬ (¬ v < a ∧ ¬ b' ≤ v) := fun q => xu_if h ⟨q.1, fun e => q.2 ((xu_lt hb).mp e)⟩
section XUF
variable {a : xu_M} {σ : xs_S} {i n : Nat} {z : xs_Z} {th rp : Int32} {t : xu_X}
theorem xu_clear (h : xu_rel a σ) (hi : i < 6) : xu_rel (xu_set a 14 i 0) (xm_clear σ (8 + i)) := by
  refine h.box hi ⟨xu_set_eq, Nat.zero_le _, fun j y hj => by cases hj⟩ (fun k hk => xu_set_ne (by omega)) (fun j hj => xu_set_nj hj) (fun k k1 k2 j hj => by rw [xu_set_ne (by omega)])
theorem xu_clearK (h : xu_rel a σ) (hi : i < 8) : xu_rel (xu_set a 18 i 0) (xm_clear σ i) := by
  refine h.kept hi ⟨xu_set_eq, Nat.zero_le _, fun j y hj => by cases hj⟩ (fun k hk => xu_set_ne (by omega)) (fun j hj => xu_set_nj hj) (fun k k1 k2 j hj => by rw [xu_set_ne (by omega)])
theorem xu_clrL {m : Nat} : xm_lall 6 0 (xm_clear σ m) 0 = xm_lall 6 0 σ 0 := by
  refine xm_lall_eq fun j hj => ?_
  show va_up (xs_lo σ) m (xs_lo σ m) (8 + j) = _
  by_cases e : 8 + j = m
  · rw [e, va_up_self]
  · rw [va_up_ne _ _ e]
theorem xu_clrn {m : Nat} (hm : m ≠ 14) : xu_num (xm_clear σ m) th rp n t = xu_num σ th rp n t := by
  unfold xu_num
  rw [xu_clrL]
  show (th, nI n, nI (va_up (xs_q σ) m [] 14).length, _) = _
  rw [va_up_ne _ _ (Ne.symm hm)]
  rfl
theorem xu_clr14 (h : xu_rel a σ) : xu_rel a (xm_clear σ 14) := h.wait ⟨Nat.zero_le _, fun j y hj => by cases hj⟩ (fun _ _ => rfl)
theorem xu_num14 : xu_num (xm_clear σ 14) th rp n t = (th, nI n, 0, xs_b (xs_up σ), xm_lall 6 0 σ 0, rp, xs_b (xs_lt σ).isSome, t.1, t.2.1, t.2.2) := by
  unfold xu_num
  rw [xu_clrL]
  show (th, nI n, nI (va_up (xs_q σ) 14 [] 14).length, _) = _
  rw [va_up_self]
  rfl
theorem xu_z1 (h : z.1 = 1) : ((1, z.2.1, z.2.2.1, z.2.2.2.1, z.2.2.2.2.1, z.2.2.2.2.2) : xs_Z) = z := by rw [← h]
/-- two queues: what is done to one leaves the other -/
theorem xs_up_comm {α : Type} (f : Nat → α) {m k : Nat} (v w : α) (h : m ≠ k) : va_up (va_up f m v) k w = va_up (va_up f k w) m v := by
  funext j
  by_cases e1 : j = k
  · subst e1
    rw [va_up_self, va_up_ne _ _ (Ne.symm h), va_up_self]
  · rw [va_up_ne _ _ e1]
    by_cases e2 : j = m
    · subst e2
      rw [va_up_self, va_up_self]
    · rw [va_up_ne _ _ e2, va_up_ne _ _ e2, va_up_ne _ _ e1]
theorem xs_sq_comm {m k : Nat} {l l' : List xs_Z} {w w' : Int32} (h : m ≠ k) : xs_sq (xs_sq σ m l w) k l' w' = xs_sq (xs_sq σ k l' w') m l w := by
  show (xs_ac σ, xs_mk σ, xs_cn σ, va_up (va_up (xs_q σ) m l) k l', va_up (va_up (xs_lo σ) m w) k w', xs_up σ, xs_nx σ, xs_lt σ) = (xs_ac σ, xs_mk σ, xs_cn σ, va_up (va_up (xs_q σ) k l') m l, va_up (va_up (xs_lo σ) k w') m w, xs_up σ, xs_nx σ, xs_lt σ)
  rw [xs_up_comm _ _ _ h, xs_up_comm _ _ _ h]
theorem xs_sq_sq {m : Nat} {l l' : List xs_Z} {w w' : Int32} : xs_sq (xs_sq σ m l w) m l' w' = xs_sq σ m l' w' := by
  show (xs_ac σ, xs_mk σ, xs_cn σ, va_up (va_up (xs_q σ) m l) m l', va_up (va_up (xs_lo σ) m w) m w', xs_up σ, xs_nx σ, xs_lt σ) = _
  rw [xs_up2, xs_up2]
  rfl
theorem xs_q_ne {m k : Nat} {l : List xs_Z} {w : Int32} (h : k ≠ m) : xs_q (xs_sq σ m l w) k = xs_q σ k := va_up_ne _ _ h
theorem xs_lo_ne {m k : Nat} {l : List xs_Z} {w : Int32} (h : k ≠ m) : xs_lo (xs_sq σ m l w) k = xs_lo σ k := va_up_ne _ _ h
theorem xm_add_sq {m k : Nat} {l : List xs_Z} {w : Int32} (h : k ≠ m) : xm_add (xs_sq σ m l w) k z = xs_sq (xm_add σ k z) m l w := by
  unfold xm_add
  rw [xs_q_ne h, xs_lo_ne h]
  split
  · exact xs_sq_comm (Ne.symm h)
  · exact xs_sq_comm (Ne.symm h)
def xu_adds : List xs_Z → xs_S → Nat → xs_S
  | [], σ, _ => σ
  | z :: r, σ, c => xu_adds r (xm_add σ (8 + c) z) c
theorem xu_adds_sq (r : List xs_Z) : ∀ {σ : xs_S} {c m : Nat} {l : List xs_Z} {w : Int32}, 8 + c ≠ m → xu_adds r (xs_sq σ m l w) c = xs_sq (xu_adds r σ c) m l w := by
  induction r with
  | nil => intro σ c m l w _; rfl
  | cons z r ih =>
    intro σ c m l w h
    show xu_adds r (xm_add (xs_sq σ m l w) (8 + c) z) c = _
    rw [xm_add_sq h, ih h]
    rfl
theorem xu_adds_lo (r : List xs_Z) : ∀ {σ : xs_S} {c m : Nat}, 8 + c ≠ m → xs_lo (xu_adds r σ c) m = xs_lo σ m := by
  induction r with
  | nil => intro σ c m _; rfl
  | cons z r ih =>
    intro σ c m h
    show xs_lo (xu_adds r (xm_add σ (8 + c) z) c) m = _
    rw [ih h]
    unfold xm_add
    split
    · exact xs_lo_ne (Ne.symm h)
    · exact xs_lo_ne (Ne.symm h)
/-- what was kept, handed over one by one, or all and then emptied -/
theorem xu_hk_ok (r : List xs_Z) : ∀ {σ : xs_S} {c m : Nat}, m < 8 → xs_q σ m = r → xm_hk r.length σ m c = xm_clear (xu_adds r σ c) m := by
  induction r with
  | nil =>
    intro σ c m hm h
    show σ = xs_sq σ m [] (xs_lo σ m)
    have h1 : va_up (xs_q σ) m [] = xs_q σ := by
      funext j
      by_cases e : j = m
      · subst e
        rw [va_up_self, h]
      · rw [va_up_ne _ _ e]
    have h2 : va_up (xs_lo σ) m (xs_lo σ m) = xs_lo σ := by
      funext j
      by_cases e : j = m
      · subst e
        rw [va_up_self]
      · rw [va_up_ne _ _ e]
    show σ = (xs_ac σ, xs_mk σ, xs_cn σ, va_up (xs_q σ) m [], va_up (xs_lo σ) m (xs_lo σ m), xs_up σ, xs_nx σ, xs_lt σ)
    rw [h1, h2]
    rfl
  | cons z r ih =>
    intro σ c m hm h
    have hne : 8 + c ≠ m := by omega
    show xm_hk r.length (xm_add (xm_pop σ m) (8 + c) ((xs_q σ m).headD xs_z0)) m c = _
    have e1 : xm_pop σ m = xs_sq σ m r (xs_lo σ m) := by
      unfold xm_pop
      rw [h]
      rfl
    rw [ih hm (by rw [xm_q_add_ne (Ne.symm hne), e1]; exact va_up_self _ _ _), h, e1, xm_add_sq hne, xu_adds_sq r hne]
    show xs_sq (xs_sq (xu_adds r (xm_add σ (8 + c) z) c) m r (xs_lo σ m)) m [] _ = xs_sq (xu_adds r (xm_add σ (8 + c) z) c) m [] _
    rw [xs_sq_sq]
    congr 1
    show va_up _ m (xs_lo σ m) m = _
    rw [va_up_self]
    show _ = xs_lo (xu_adds r (xm_add σ (8 + c) z) c) m
    rw [xu_adds_lo r hne]
    unfold xm_add
    split
    · exact (xs_lo_ne (Ne.symm hne)).symm
    · exact (xs_lo_ne (Ne.symm hne)).symm
def xu_wel (σ : xs_S) (i : Nat) : xs_S :=
  if (xs_cn σ i).2.2.2.1 < 0 then xm_so 8 0 σ (xs_ix (xs_cn σ i).2.1) i
  else xm_hk (xs_q (xm_so 8 0 σ (xs_ix (xs_cn σ i).2.1) i) (xs_ix (xs_cn σ i).2.1)).length (xm_so 8 0 σ (xs_ix (xs_cn σ i).2.1) i) (xs_ix (xs_cn σ i).2.1) i
-- what shutting a connection leaves
theorem xm_quiet_ne {j : Nat} (h : j ≠ i) : xs_cn (xm_quiet σ i) j = xs_cn σ j := by
  unfold xm_quiet
  split
  · rw [xs_cn_stw]
    exact va_up_ne _ _ h
  · rfl
theorem xm_shut_ne {j : Nat} (h : j ≠ i) : xs_cn (xm_shut σ i) j = xs_cn σ j := by
  unfold xm_shut xm_srs xm_sacc xm_sst
  show va_up _ i _ j = _
  rw [va_up_ne _ _ h]
  show va_up _ i _ j = _
  rw [va_up_ne _ _ h]
  show va_up _ i _ j = _
  rw [va_up_ne _ _ h]
  exact xm_quiet_ne h
theorem xm_shut_cn : (xs_cn (xm_shut σ i) i).1 = 0 ∧ (xs_cn (xm_shut σ i) i).2.1 = -1 ∧ (xs_cn (xm_shut σ i) i).2.2.1 = -1 ∧ (xs_cn (xm_shut σ i) i).2.2.2.2.2 = false := by
  have h0 : (xs_cn (xm_quiet σ i) i).2.2.2.2.2 = false := by
    unfold xm_quiet
    split
    · rw [xs_cn_stw]
      unfold xm_sav
      rw [xs_cn_scn]
    · rename_i h
      exact Bool.eq_false_iff.mpr h
  unfold xm_shut xm_srs xm_sacc xm_sst
  rw [xs_cn_scn, xs_cn_scn, xs_cn_scn]
  exact ⟨rfl, rfl, rfl, h0⟩
def xu_bl : Nat → Nat → xs_S → Nat → Int32 → Int32 → Int32 × xs_S
  | 0, _, τ, _, _, f => (f, τ)
  | n + 1, c, τ, i, r, f => if (xs_cn τ c).1 = 4 ∧ (xs_cn τ c).2.1 = (xs_cn τ i).2.1 ∧ (xs_cn τ c).2.2.1 = r then xu_bl n (c + 1) (xm_shut τ c) i r 1 else xu_bl n (c + 1) τ i r f
theorem xu_bl_no (n : Nat) : ∀ {c i : Nat} {τ : xs_S} {r f : Int32}, (∀ k, c ≤ k → k < c + n → ¬ ((xs_cn τ k).1 = 4 ∧ (xs_cn τ k).2.1 = (xs_cn τ i).2.1 ∧ (xs_cn τ k).2.2.1 = r)) → xu_bl n c τ i r f = (f, τ) := by
  induction n with
  | zero => intro c i τ r f _; rfl
  | succ n ih =>
    intro c i τ r f h
    unfold xu_bl
    rw [if_neg (h c (Nat.le_refl _) (by omega))]
    exact ih (fun k h1 h2 => h k (by omega) (by omega))
theorem xu_bl_ok (n : Nat) : ∀ {c i : Nat} {r : Int32}, c + n ≤ 6 → i < 6 → xu_cw (xs_cn σ) → (xs_cn σ i).1 = 3 → xu_bl n c σ i r 0 = match xm_bw n c σ (xs_cn σ i).2.1 r with
    | none => (0, σ)
    | some k => (1, xm_shut σ k) := by
  induction n with
  | zero => intro c i r _ _ _ _; rfl
  | succ n ih =>
    intro c i r hcn hi hw h3
    unfold xu_bl xm_bw
    by_cases hm : (xs_cn σ c).1 = 4 ∧ (xs_cn σ c).2.1 = (xs_cn σ i).2.1 ∧ (xs_cn σ c).2.2.1 = r
    · rw [if_pos hm, if_pos hm]
      have hic : i ≠ c := fun e => by
        rw [e, hm.1] at h3
        exact absurd h3 (by decide)
      refine xu_bl_no n (fun k h1 h2 q => ?_)
      rw [xm_shut_ne (show k ≠ c by omega), xm_shut_ne hic] at q
      have := hw.2.2 c k (by omega) (by omega) hm.1 q.1 (by rw [hm.2.1, q.2.1]) (by rw [hm.2.2, q.2.2])
      omega
    · rw [if_neg hm, if_neg hm]
      exact ih (by omega) hi hw h3
-- the link: one by one out of the queue, or all of a list
theorem xm_has_sq {m x y : Nat} {l : List xs_Z} {w k : Int32} : xm_has (xs_sq σ m l w) x y k = xm_has σ x y k := rfl
theorem xm_give_sq (n : Nat) : ∀ {i : Nat} {σ : xs_S} {l : List xs_Z} {w : Int32}, i + n ≤ 6 → xm_give n i (xs_sq σ 14 l w) z = xs_sq (xm_give n i σ z) 14 l w := by
  induction n with
  | zero => intro i σ l w _; rfl
  | succ n ih =>
    intro i σ l w hi
    show xm_give n (i + 1) (if xm_av σ i _ = true then xm_add (xs_sq σ 14 l w) (8 + i) z else xs_sq σ 14 l w) z = xs_sq (xm_give n (i + 1) (if xm_av σ i _ = true then xm_add σ (8 + i) z else σ) z) 14 l w
    split
    · rw [xm_add_sq (by omega), ih (by omega)]
    · rw [ih (by omega)]
theorem xm_gp_sq (n : Nat) : ∀ {i : Nat} {σ : xs_S} {l : List xs_Z} {w p : Int32}, i + n ≤ 6 → xm_gp n i (xs_sq σ 14 l w) z p = xs_sq (xm_gp n i σ z p) 14 l w := by
  induction n with
  | zero => intro i σ l w p _; rfl
  | succ n ih =>
    intro i σ l w p hi
    show xm_gp n (i + 1) (if xm_av σ i _ = true ∧ (xs_cn σ i).2.2.2.1 = p then xm_add (xs_sq σ 14 l w) (8 + i) z else xs_sq σ 14 l w) z p = xs_sq (xm_gp n (i + 1) (if xm_av σ i _ = true ∧ (xs_cn σ i).2.2.2.1 = p then xm_add σ (8 + i) z else σ) z p) 14 l w
    split
    · rw [xm_add_sq (by omega), ih (by omega)]
    · rw [ih (by omega)]
theorem xm_great_cn (n : Nat) : ∀ {i : Nat} {σ τ : xs_S} {x g : Int32}, xs_cn τ = xs_cn σ → xm_great n i τ x g = xm_great n i σ x g := by
  induction n with
  | zero => intro i σ τ x g _; rfl
  | succ n ih =>
    intro i σ τ x g h
    show xm_great n (i + 1) τ x (if xm_av τ i x = true ∧ ¬ (xs_cn τ i).2.2.2.1 ≤ g then (xs_cn τ i).2.2.2.1 else g) = xm_great n (i + 1) σ x (if xm_av σ i x = true ∧ ¬ (xs_cn σ i).2.2.2.1 ≤ g then (xs_cn σ i).2.2.2.1 else g)
    unfold xm_av
    rw [h, ih h]
theorem xm_bw_cn (n : Nat) : ∀ {i : Nat} {σ τ : xs_S} {x r : Int32}, xs_cn τ = xs_cn σ → xm_bw n i τ x r = xm_bw n i σ x r := by
  induction n with
  | zero => intro i σ τ x r _; rfl
  | succ n ih =>
    intro i σ τ x r h
    unfold xm_bw
    rw [h, ih h]
theorem xm_msg2_sq {l : List xs_Z} {w : Int32} (hz : xm_ok z) : xm_msg2 (xs_sq σ 14 l w) z = xs_sq (xm_msg2 σ z) 14 l w := by
  have hi := xs_ixl hz.2
  unfold xm_msg2
  rw [xm_great_cn 6 (σ := σ) (τ := xs_sq σ 14 l w) rfl, show xm_full (xs_sq σ 14 l w) (xs_ix z.2.2.2.2.1) = xm_full σ (xs_ix z.2.2.2.2.1) from by unfold xm_full; rw [xs_q_ne (by omega)], show xs_ac (xs_sq σ 14 l w) = xs_ac σ from rfl]
  split
  · exact xm_gp_sq 6 (by decide)
  · split
    · exact xm_add_sq (by omega)
    · exact xm_give_sq 6 (by decide)
theorem xm_msg_sq {l : List xs_Z} {w : Int32} (hz : xm_ok z) : xm_msg (xs_sq σ 14 l w) z = xs_sq (xm_msg σ z) 14 l w := by
  unfold xm_msg
  rw [xm_bw_cn 6 (σ := σ) (τ := xs_sq σ 14 l w) rfl]
  cases h : xm_bw 6 0 σ z.2.2.2.2.1 z.2.2.2.2.2 with
  | none => exact xm_msg2_sq hz
  | some i =>
    have hi := xm_bw_lt 6 h
    show (if (xs_cn σ i).2.2.2.2.2 = true then _ else _) = xs_sq (if (xs_cn σ i).2.2.2.2.2 = true then _ else _) 14 l w
    split
    · exact xm_add_sq (by omega)
    · exact xm_msg2_sq hz
theorem xm_smk_sq {m x y : Nat} {l : List xs_Z} {w v : Int32} : xs_smk (xs_sq σ m l w) x y v = xs_sq (xs_smk σ x y v) m l w := rfl
theorem xm_grant_sq {l : List xs_Z} {w : Int32} : xm_grant (xs_sq σ 14 l w) z = xs_sq (xm_grant σ z) 14 l w := by
  unfold xm_grant
  rw [xm_has_sq]
  split
  · show xm_give 6 0 (xs_sq (xm_drop (xm_mark σ _ _ 1) _ _ 4) 14 l w) z = _
    exact xm_give_sq 6 (by decide)
  · rfl
theorem xm_end_sq {l : List xs_Z} {w v : Int32} : xm_end (xs_sq σ 14 l w) z v = xs_sq (xm_end σ z v) 14 l w := by
  unfold xm_end
  rw [xm_has_sq]
  split
  · show xm_give 6 0 (xs_sq (xm_drop σ _ _ v) 14 l w) z = _
    exact xm_give_sq 6 (by decide)
  · rfl
theorem xm_arr_sq {l : List xs_Z} {w : Int32} (hz : xm_ok z) : xm_arr (xs_sq σ 14 l w) z = xs_sq (xm_arr σ z) 14 l w := by
  unfold xm_arr
  split
  · exact xm_msg_sq hz
  · split
    · unfold xm_ask
      rw [xm_has_sq]
      split
      · exact xm_grant_sq
      · show (if (xs_ac σ _).1 = true then _ else _) = xs_sq (if (xs_ac σ _).1 = true then _ else _) 14 l w
        split
        · show xm_give 6 0 (xs_sq (xm_mark σ _ _ 8) 14 l w) z = _
          exact xm_give_sq 6 (by decide)
        · rfl
    · split
      · exact xm_grant_sq
      · split
        · exact xm_end_sq
        · split
          · exact xm_end_sq
          · split
            · rw [xm_has_sq]
              split
              · exact xm_give_sq 6 (by decide)
              · rfl
            · rfl
def xu_lk : List xs_Z → xs_S → xs_S
  | [], σ => σ
  | z :: r, σ => xu_lk r (xm_arr σ z)
theorem xm_lo_add_ne {m k : Nat} (h : k ≠ m) : xs_lo (xm_add σ m z) k = xs_lo σ k := by
  unfold xm_add
  split
  · exact xs_lo_ne h
  · exact xs_lo_ne h
theorem xm_lo14_give (n : Nat) : ∀ {i : Nat} {σ : xs_S}, i + n ≤ 6 → xs_lo (xm_give n i σ z) 14 = xs_lo σ 14 := by
  induction n with
  | zero => intro i σ _; rfl
  | succ n ih =>
    intro i σ hi
    show xs_lo (xm_give n (i + 1) (if xm_av σ i _ = true then xm_add σ (8 + i) z else σ) z) 14 = _
    rw [ih (by omega)]
    split
    · exact xm_lo_add_ne (by omega)
    · rfl
theorem xm_lo14_gp (n : Nat) : ∀ {i : Nat} {σ : xs_S} {p : Int32}, i + n ≤ 6 → xs_lo (xm_gp n i σ z p) 14 = xs_lo σ 14 := by
  induction n with
  | zero => intro i σ p _; rfl
  | succ n ih =>
    intro i σ p hi
    show xs_lo (xm_gp n (i + 1) (if xm_av σ i _ = true ∧ _ then xm_add σ (8 + i) z else σ) z p) 14 = _
    rw [ih (by omega)]
    split
    · exact xm_lo_add_ne (by omega)
    · rfl
theorem xm_lo14_msg2 (hz : xm_ok z) : xs_lo (xm_msg2 σ z) 14 = xs_lo σ 14 := by
  have hi := xs_ixl hz.2
  unfold xm_msg2
  split
  · exact xm_lo14_gp 6 (by decide)
  · split
    · exact xm_lo_add_ne (by omega)
    · exact xm_lo14_give 6 (by decide)
theorem xm_lo14_grant {y : xs_Z} : xs_lo (xm_grant σ y) 14 = xs_lo σ 14 := by
  unfold xm_grant
  split
  · exact xm_lo14_give 6 (by decide)
  · rfl
theorem xm_lo14_end {v : Int32} : xs_lo (xm_end σ z v) 14 = xs_lo σ 14 := by
  unfold xm_end
  split
  · exact xm_lo14_give 6 (by decide)
  · rfl
theorem xm_lo14_arr (hz : xm_ok z) : xs_lo (xm_arr σ z) 14 = xs_lo σ 14 := by
  unfold xm_arr
  split
  · unfold xm_msg
    cases h : xm_bw 6 0 σ z.2.2.2.2.1 z.2.2.2.2.2 with
    | none => exact xm_lo14_msg2 hz
    | some i =>
      have hi := xm_bw_lt 6 h
      show xs_lo (if (xs_cn σ i).2.2.2.2.2 = true then _ else _) 14 = _
      split
      · exact xm_lo_add_ne (by omega)
      · exact xm_lo14_msg2 hz
  · split
    · unfold xm_ask
      split
      · exact xm_lo14_grant
      · split
        · exact xm_lo14_give 6 (by decide)
        · rfl
    · split
      · exact xm_lo14_grant
      · split
        · exact xm_lo14_end
        · split
          · exact xm_lo14_end
          · split
            · split
              · exact xm_lo14_give 6 (by decide)
              · rfl
            · rfl
theorem xm_clear_arr (hz : xm_ok z) : xm_arr (xm_clear σ 14) z = xm_clear (xm_arr σ z) 14 := by
  have h : xs_lo (xm_arr σ z) 14 = xs_lo σ 14 := xm_lo14_arr hz
  unfold xm_clear
  rw [xm_arr_sq hz, h]
theorem xm_clear_sq {r : List xs_Z} : xm_clear (xs_sq σ 14 r (xs_lo σ 14)) 14 = xm_clear σ 14 := by
  unfold xm_clear
  rw [xs_sq_sq]
  show xs_sq σ 14 [] (va_up (xs_lo σ) 14 (xs_lo σ 14) 14) = _
  rw [va_up_self]
theorem xu_lk_ok (r : List xs_Z) : ∀ {σ : xs_S}, (∀ z, z ∈ r → xm_ok z) → xs_q σ 14 = r → xm_lk r.length σ = xu_lk r (xm_clear σ 14) := by
  induction r with
  | nil =>
    intro σ _ h
    show σ = xs_sq σ 14 [] (xs_lo σ 14)
    have h1 : va_up (xs_q σ) 14 [] = xs_q σ := by
      funext j
      by_cases e : j = 14
      · subst e
        rw [va_up_self, h]
      · rw [va_up_ne _ _ e]
    have h2 : va_up (xs_lo σ) 14 (xs_lo σ 14) = xs_lo σ := by
      funext j
      by_cases e : j = 14
      · subst e
        rw [va_up_self]
      · rw [va_up_ne _ _ e]
    show σ = (xs_ac σ, xs_mk σ, xs_cn σ, va_up (xs_q σ) 14 [], va_up (xs_lo σ) 14 (xs_lo σ 14), xs_up σ, xs_nx σ, xs_lt σ)
    rw [h1, h2]
    rfl
  | cons z r ih =>
    intro σ hok h
    have hz := hok z List.mem_cons_self
    show xm_lk r.length (xm_arr (xm_pop σ 14) ((xs_q σ 14).headD xs_z0)) = _
    rw [h, List.headD_cons]
    have e1 : xm_pop σ 14 = xs_sq σ 14 r (xs_lo σ 14) := by
      unfold xm_pop
      rw [h]
      rfl
    rw [ih (fun y hy => hok y (List.mem_cons_of_mem _ hy)) (by rw [e1, xm_q14_arr hz]; show va_up (xs_q σ) 14 r 14 = r; exact va_up_self _ _ _)]
    show _ = xu_lk r (xm_arr (xm_clear σ 14) z)
    rw [← xm_clear_arr hz, e1]
    rw [xm_clear_sq]
-- challenges
theorem xu_l (k : Nat) (h : k < 2 ^ 31) : (lN k - lN k / 10000 * 10000).toInt32 = nI (k % 10000) := by
  have h1 : lN k / 10000 = lN (k / 10000) := by
    apply Int64.toInt_inj.mp
    rw [Int64.toInt_div_of_ne_right _ _ (by decide), lN_toInt h, lN_toInt (Nat.lt_of_le_of_lt (Nat.div_le_self _ _) h)]
    rfl
  rw [h1, show (10000 : Int64) = lN 10000 from rfl, lN_mul, lN_sub (Nat.div_mul_le_self k 10000), lN_i]
  congr 1
  omega
theorem xu_chal {n : Nat} (h : n < 100000) : ((7919 * (nI n).toInt64 + 4242) - (7919 * (nI n).toInt64 + 4242) / 10000 * 10000).toInt32 = xu_nx n := by
  rw [nI_l (by omega), show (7919 : Int64) = lN 7919 from rfl, show (4242 : Int64) = lN 4242 from rfl, lN_mul, lN_add]
  exact xu_l _ (by omega)
theorem xu_i32 (k : Nat) (h : k < 2 ^ 31) : nI k - nI k / 10000 * 10000 = nI (k % 10000) := by
  have h1 : nI k / 10000 = nI (k / 10000) := by
    apply Int32.toInt_inj.mp
    rw [Int32.toInt_div_of_ne_right _ _ (by decide), nI_toInt h, nI_toInt (Nat.lt_of_le_of_lt (Nat.div_le_self _ _) h)]
    rfl
  have h2 : nI (k / 10000) * 10000 = nI (k / 10000 * 10000) := nI_mul _ _
  rw [h1, h2]
  have h3 : nI k = nI (k % 10000) + nI (k / 10000 * 10000) := by
    rw [nI_add]
    congr 1
    omega
  rw [h3, Int32.add_sub_cancel]
theorem xu_nx_step (n : Nat) : (xu_nx n + 7919) - (xu_nx n + 7919) / 10000 * 10000 = xu_nx (n + 1) := by
  unfold xu_nx
  have h : (7919 * n + 4242) % 10000 < 10000 := Nat.mod_lt _ (by decide)
  rw [show (7919 : Int32) = nI 7919 from rfl, nI_add, xu_i32 _ (by omega)]
  exact congrArg nI (by omega)
theorem xu_drop {l : List xs_Z} {j : Nat} (h : j < l.length) : ∃ z, l[j]? = some z ∧ l.drop j = z :: l.drop (j + 1) := ⟨l[j], List.getElem?_eq_getElem h, List.drop_eq_getElem_cons h⟩
theorem xm_spr_pr {v : Int32} : (xs_cn (xm_spr σ i v) i).2.2.2.1 = v := by
  unfold xm_spr
  rw [xs_cn_scn]
theorem xu_47 {k : Int32} (h : xu_i k 4 7 = true) (h4 : ¬ k = 4) (h5 : ¬ k = 5) (h6 : ¬ k = 6) (h7 : ¬ k = 7) : False := by
  have h := xu_it h
  obtain ⟨j, hj, rfl⟩ := nI_of (x := k) (fun q => h.1 (Int32.lt_trans q (by decide)))
  have a1 : 4 ≤ j := Nat.not_lt.mp fun q => h.1 (nI_lt q (by decide))
  have a2 : j ≤ 7 := Nat.not_lt.mp fun q => h.2 (nI_lt q hj)
  have : j = 4 ∨ j = 5 ∨ j = 6 ∨ j = 7 := by omega
  rcases this with rfl | rfl | rfl | rfl
  · exact h4 rfl
  · exact h5 rfl
  · exact h6 rfl
  · exact h7 rfl
theorem xu_none {l : Option xs_Z} (h : l.isSome = false) : l = none := by
  cases l with
  | none => rfl
  | some z => cases h
theorem xu_some {l : Option xs_Z} (h : l.isSome = true) : ∃ z, l = some z := by
  cases l with
  | none => cases h
  | some z => exact ⟨z, rfl⟩
theorem xu_shut_av {c : Nat} (h : ∀ j, j < 6 → (xs_cn σ j).2.2.2.2.2 = true → vp_in (xs_cn σ j).2.1 8) : ∀ j, j < 6 → (xs_cn (xm_shut σ c) j).2.2.2.2.2 = true → vp_in (xs_cn (xm_shut σ c) j).2.1 8 := by
  intro j hj hv
  by_cases e : j = c
  · subst e
    rw [xm_shut_cn.2.2.2] at hv
    cases hv
  · rw [xm_shut_ne e] at hv ⊢
    exact h j hj hv
end XUF
