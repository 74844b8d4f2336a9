/-! The reference: what arrives, what is sent. -/
def xu_first : Nat → Nat → xs_S → Int32 → Int32 → Option Nat
  | 0, _, _, _, _ => none
  | n + 1, i, σ, t, u => if (xs_cn σ i).2.2.2.2.2 = true ∧ (xs_cn σ i).2.1 = t ∧ (xs_cn σ i).2.2.1 = u then some i else xu_first n (i + 1) σ t u
def xu_route2 (σ : xs_S) (z : xs_Z) : Int32 × xs_S :=
  if ¬ xm_great 6 0 σ z.2.2.2.2.1 (-1) < 0 then (0, xm_gp 6 0 σ z (xm_great 6 0 σ z.2.2.2.2.1 (-1)))
  else if (xs_ac σ (xs_ix z.2.2.2.2.1)).1 = true ∧ xm_full σ (xs_ix z.2.2.2.2.1) = false then (0, xm_add σ (xs_ix z.2.2.2.2.1) z)
  else (8, σ)
def xu_route (σ : xs_S) (f r b t u w : Int32) : Int32 × xs_S := match xu_first 6 0 σ t w with
  | some i => (0, xm_add σ (8 + i) (1, f, r, b, t, u))
  | none => xu_route2 σ (1, f, r, b, t, u)
def xu_arr (σ : xs_S) (k f r v t u w : Int32) : Int32 × xs_S :=
  if k = 1 then xu_route σ f r v t u w
  else if k = 2 ∨ k = 3 then (0, if xm_has σ (xs_ix t) (xs_ix f) 1 = true then xm_give 6 0 σ (k, f, r, v, t, u) else σ)
  else if k = 4 then (if xm_has σ (xs_ix t) (xs_ix f) 2 = true then (5, σ) else (0, if (xs_ac σ (xs_ix t)).1 = true then xm_give 6 0 (xm_mark σ (xs_ix t) (xs_ix f) 8) (k, f, -1, 0, t, u) else σ))
  else if k = 5 then (0, if xm_has σ (xs_ix t) (xs_ix f) 4 = true then xm_give 6 0 (xm_mark (xm_drop σ (xs_ix t) (xs_ix f) 4) (xs_ix t) (xs_ix f) 1) (k, f, -1, 0, t, u) else σ)
  else if k = 6 then (0, xm_end σ (k, f, -1, 0, t, u) 10)
  else if k = 7 then (0, xm_end σ (k, f, -1, 0, t, u) 5)
  else (0, xm_give 6 0 σ (k, f, -1, v, t, u))
def xu_hold (σ : xs_S) (z : xs_Z) : xs_S := if xm_full σ 14 = true then (if z.1 = 1 then xm_err σ z else σ) else xm_add σ 14 z
def xu_cw (cn : Nat → xs_C) : Prop := (∀ i, i < 6 → (cn i).2.2.2.2.2 = true → (cn i).1 = 4) ∧ (∀ i, i < 6 → (cn i).1 = 4 → ¬ (cn i).2.2.1 < 0) ∧ (∀ i j, i < 6 → j < 6 → (cn i).1 = 4 → (cn j).1 = 4 → (cn i).2.1 = (cn j).2.1 → (cn i).2.2.1 = (cn j).2.2.1 → i = j)
def xu_sh (k r v : Int32) : Prop := k = 1 ∨ k = 2 ∨ k = 3 ∨ ((k = 4 ∨ k = 5 ∨ k = 6 ∨ k = 7) ∧ r = -1 ∧ v = 0)
section XUS
variable {σ : xs_S}
theorem xu_first_some (n : Nat) : ∀ {i k : Nat} {t u : Int32}, xu_first n i σ t u = some k → (i ≤ k ∧ k < i + n) ∧ (xs_cn σ k).2.2.2.2.2 = true ∧ (xs_cn σ k).2.1 = t ∧ (xs_cn σ k).2.2.1 = u := by
  induction n with
  | zero => intro i k t u h; cases h
  | succ n ih =>
    intro i k t u h
    unfold xu_first at h
    split at h
    · rename_i hm
      cases h
      exact ⟨⟨Nat.le_refl _, by omega⟩, hm⟩
    · obtain ⟨⟨a, b⟩, c⟩ := ih h
      exact ⟨⟨by omega, by omega⟩, c⟩
theorem xu_first_none (n : Nat) : ∀ {i : Nat} {t u : Int32}, xu_first n i σ t u = none → ∀ k, i ≤ k → k < i + n → ¬ ((xs_cn σ k).2.2.2.2.2 = true ∧ (xs_cn σ k).2.1 = t ∧ (xs_cn σ k).2.2.1 = u) := by
  induction n with
  | zero => intro i t u _ k h1 h2; omega
  | succ n ih =>
    intro i t u h k h1 h2
    unfold xu_first at h
    split at h
    · cases h
    · rename_i hm
      by_cases e : k = i
      · rw [e]
        exact hm
      · exact ih h k (by omega) (by omega)
theorem xm_bw_some (n : Nat) : ∀ {i k : Nat} {t u : Int32}, xm_bw n i σ t u = some k → (i ≤ k ∧ k < i + n) ∧ (xs_cn σ k).1 = 4 ∧ (xs_cn σ k).2.1 = t ∧ (xs_cn σ k).2.2.1 = u := by
  induction n with
  | zero => intro i k t u h; cases h
  | succ n ih =>
    intro i k t u h
    unfold xm_bw at h
    split at h
    · rename_i hm
      cases h
      exact ⟨⟨Nat.le_refl _, by omega⟩, hm⟩
    · obtain ⟨⟨a, b⟩, c⟩ := ih h
      exact ⟨⟨by omega, by omega⟩, c⟩
theorem xm_bw_none (n : Nat) : ∀ {i : Nat} {t u : Int32}, xm_bw n i σ t u = none → ∀ k, i ≤ k → k < i + n → ¬ ((xs_cn σ k).1 = 4 ∧ (xs_cn σ k).2.1 = t ∧ (xs_cn σ k).2.2.1 = u) := by
  induction n with
  | zero => intro i t u _ k h1 h2; omega
  | succ n ih =>
    intro i t u h k h1 h2
    unfold xm_bw at h
    split at h
    · cases h
    · rename_i hm
      by_cases e : k = i
      · rw [e]
        exact hm
      · exact ih h k (by omega) (by omega)
/-- where a message goes: the same connection -/
theorem xu_first_ok {f r b t u w : Int32} (hc : xu_cw (xs_cn σ)) (hw : w = xu_tg (1, f, r, b, t, u)) : xm_msg σ (1, f, r, b, t, u) = match xu_first 6 0 σ t w with
    | some i => xm_add σ (8 + i) (1, f, r, b, t, u)
    | none => xm_msg2 σ (1, f, r, b, t, u) := by
  obtain ⟨c1, c2, c3⟩ := hc
  by_cases hu : u < 0
  · have hw9 : w = -9 := by
      rw [hw]
      unfold xu_tg
      rw [if_pos ⟨rfl, hu⟩]
    have h1 : xm_bw 6 0 σ t u = none := by
      cases h : xm_bw 6 0 σ t u with
      | none => rfl
      | some k =>
        obtain ⟨⟨a, b⟩, d1, d2, d3⟩ := xm_bw_some 6 h
        exact absurd (by rw [d3]; exact hu) (c2 k (by omega) d1)
    have h2 : xu_first 6 0 σ t w = none := by
      cases h : xu_first 6 0 σ t w with
      | none => rfl
      | some k =>
        obtain ⟨⟨a, b⟩, d1, d2, d3⟩ := xu_first_some 6 h
        exact absurd (by rw [d3, hw9]; decide) (c2 k (by omega) (c1 k (by omega) d1))
    rw [h2]
    unfold xm_msg
    rw [h1]
  · have hwu : w = u := by
      rw [hw]
      unfold xu_tg
      rw [if_neg (fun q => hu q.2)]
    rw [hwu]
    unfold xm_msg
    cases h : xm_bw 6 0 σ t u with
    | none =>
      have h2 : xu_first 6 0 σ t u = none := by
        cases h9 : xu_first 6 0 σ t u with
        | none => rfl
        | some k =>
          obtain ⟨⟨a, b⟩, d1, d2, d3⟩ := xu_first_some 6 h9
          exact absurd ⟨c1 k (by omega) d1, d2, d3⟩ (xm_bw_none 6 h k (by omega) (by omega))
      rw [h2]
    | some i =>
      obtain ⟨⟨a, b⟩, d1, d2, d3⟩ := xm_bw_some 6 h
      by_cases hav : (xs_cn σ i).2.2.2.2.2 = true
      · have h2 : xu_first 6 0 σ t u = some i := by
          cases h9 : xu_first 6 0 σ t u with
          | none => exact absurd ⟨hav, d2, d3⟩ (xu_first_none 6 h9 i (by omega) (by omega))
          | some k =>
            obtain ⟨⟨a', b'⟩, e1, e2, e3⟩ := xu_first_some 6 h9
            rw [c3 k i (by omega) (by omega) (c1 k (by omega) e1) d1 (by rw [e2, d2]) (by rw [e3, d3])]
        rw [h2]
        show (if _ then _ else _) = _
        rw [if_pos hav]
      · have h2 : xu_first 6 0 σ t u = none := by
          cases h9 : xu_first 6 0 σ t u with
          | none => rfl
          | some k =>
            obtain ⟨⟨a', b'⟩, e1, e2, e3⟩ := xu_first_some 6 h9
            have := c3 k i (by omega) (by omega) (c1 k (by omega) e1) d1 (by rw [e2, d2]) (by rw [e3, d3])
            rw [this] at e1
            exact absurd e1 hav
        rw [h2]
        show (if _ then _ else _) = _
        rw [if_neg hav]
/-- what a routed message leaves: itself, or what a refused one leaves -/
theorem xu_route2_ok {z : xs_Z} : ((xu_route2 σ z).1 = 0 ∧ (xu_route2 σ z).2 = xm_msg2 σ z) ∨ ((xu_route2 σ z).1 = 8 ∧ (xu_route2 σ z).2 = σ ∧ xm_msg2 σ z = xm_err σ z) := by
  unfold xu_route2 xm_msg2
  split
  · exact Or.inl ⟨rfl, rfl⟩
  · split
    · exact Or.inl ⟨rfl, rfl⟩
    · exact Or.inr ⟨rfl, rfl, rfl⟩
theorem xu_route_ok {f r b t u w : Int32} (hc : xu_cw (xs_cn σ)) (hw : w = xu_tg (1, f, r, b, t, u)) :
    ((xu_route σ f r b t u w).1 = 0 ∧ (xu_route σ f r b t u w).2 = xm_msg σ (1, f, r, b, t, u)) ∨ ((xu_route σ f r b t u w).1 = 8 ∧ (xu_route σ f r b t u w).2 = σ ∧ xm_msg σ (1, f, r, b, t, u) = xm_err σ (1, f, r, b, t, u)) := by
  rw [xu_first_ok hc hw]
  unfold xu_route
  cases xu_first 6 0 σ t w with
  | some i => exact Or.inl ⟨rfl, rfl⟩
  | none => exact xu_route2_ok
theorem xs_smk2 {i j : Nat} {v w : Int32} : xs_smk (xs_smk σ i j v) i j w = xs_smk σ i j w := by
  have h : va_up (va_up (xs_mk σ) i (upd (xs_mk σ i) j v)) i (upd (va_up (xs_mk σ) i (upd (xs_mk σ i) j v) i) j w) = va_up (xs_mk σ) i (upd (xs_mk σ i) j w) := by
    rw [xs_up2, va_up_self]
    congr 1
    funext q
    by_cases e : q = j <;> simp [upd, e]
  exact congrArg (fun x => ((xs_ac σ, x, xs_cn σ, xs_q σ, xs_lo σ, xs_up σ, xs_nx σ, xs_lt σ) : xs_S)) h
theorem xs_mk_smk {i j : Nat} {v : Int32} : xs_mk (xs_smk σ i j v) i j = v := by
  show va_up (xs_mk σ) i (upd (xs_mk σ i) j v) i j = v
  rw [va_up_self]
  simp [upd]
theorem xu_bits0 (x : BitVec 32) {c d : BitVec 32} (h : ∀ i, i < 32 → d.getLsbD i = true → c.getLsbD i = true) : (x &&& c) ||| d = (x ||| d) &&& c := by
  apply BitVec.eq_of_getLsbD_eq
  intro i hi
  have h1 := h i hi
  simp only [BitVec.getLsbD_or, BitVec.getLsbD_and]
  cases hx : x.getLsbD i <;> cases hc : c.getLsbD i <;> cases hd : d.getLsbD i <;> simp_all
theorem xu_bits (m : Int32) : (m &&& ((4 : Int32) ^^^ (-1))) ||| 1 = (m ||| 1) &&& ((4 : Int32) ^^^ (-1)) := by
  apply Int32.toBitVec_inj.mp
  rw [Int32.toBitVec_or, Int32.toBitVec_and, Int32.toBitVec_and, Int32.toBitVec_or]
  exact xu_bits0 _ (by decide)
theorem xu_md {i j : Nat} : xm_mark (xm_drop σ i j 4) i j 1 = xm_drop (xm_mark σ i j 1) i j 4 := by
  unfold xm_mark xm_drop
  rw [xs_mk_smk, xs_mk_smk, xs_smk2, xs_smk2, xu_bits]
theorem xu_reach_sym {f t : Int32} : xm_reach σ t f = xm_reach σ f t := by
  unfold xm_reach xm_one
  congr 1
  cases decide (4 ≤ t) <;> cases decide (4 ≤ f) <;> rfl
theorem xu_arr_nz {k f r v t u w : Int32} : (xu_arr σ k f r v t u w).1 = 0 ∨ (k = 1 ∧ (xu_arr σ k f r v t u w).1 = 8 ∧ (xu_arr σ k f r v t u w).2 = σ) ∨ (k = 4 ∧ (xu_arr σ k f r v t u w).1 = 5 ∧ (xu_arr σ k f r v t u w).2 = σ ∧ xm_has σ (xs_ix t) (xs_ix f) 2 = true) := by
  by_cases h1 : k = 1
  · subst h1
    have : xu_arr σ 1 f r v t u w = xu_route σ f r v t u w := by
      unfold xu_arr
      rw [if_pos rfl]
    rw [this]
    unfold xu_route
    cases xu_first 6 0 σ t w with
    | some i => exact Or.inl rfl
    | none =>
      rcases xu_route2_ok (σ := σ) (z := (1, f, r, v, t, u)) with h | h
      · exact Or.inl h.1
      · exact Or.inr (Or.inl ⟨rfl, h.1, h.2.1⟩)
  · by_cases h4 : k = 4
    · subst h4
      unfold xu_arr
      rw [if_neg h1, if_neg (by decide), if_pos rfl]
      by_cases hh : xm_has σ (xs_ix t) (xs_ix f) 2 = true
      · rw [if_pos hh]
        exact Or.inr (Or.inr ⟨rfl, rfl, rfl, hh⟩)
      · rw [if_neg hh]
        exact Or.inl rfl
    · unfold xu_arr
      rw [if_neg h1, if_neg h4]
      by_cases h5 : k = 2 ∨ k = 3
      · rw [if_pos h5]; exact Or.inl rfl
      rw [if_neg h5]
      by_cases h5 : k = 5
      · rw [if_pos h5]; exact Or.inl rfl
      rw [if_neg h5]
      by_cases h5 : k = 6
      · rw [if_pos h5]; exact Or.inl rfl
      rw [if_neg h5]
      by_cases h5 : k = 7
      · rw [if_pos h5]; exact Or.inl rfl
      rw [if_neg h5]
      exact Or.inl rfl
/-- one arrival, nothing to answer -/
theorem xu_arr_0 {k f r v t u w : Int32} (hs : xu_sh k r v) (hc : k = 1 → xu_cw (xs_cn σ)) (hw : w = xu_tg (k, f, r, v, t, u)) (h0 : (xu_arr σ k f r v t u w).1 = 0) : (xu_arr σ k f r v t u w).2 = xm_arr σ (k, f, r, v, t, u) := by
  rcases hs with rfl | rfl | rfl | ⟨hk, rfl, rfl⟩
  · have e1 : xu_arr σ 1 f r v t u w = xu_route σ f r v t u w := by
      unfold xu_arr
      rw [if_pos rfl]
    have e2 : xm_arr σ (1, f, r, v, t, u) = xm_msg σ (1, f, r, v, t, u) := by
      unfold xm_arr
      rw [if_pos rfl]
    rw [e1] at h0 ⊢
    rw [e2]
    rcases xu_route_ok (hc rfl) hw with h | h
    · exact h.2
    · rw [h.1] at h0
      exact absurd h0 (by decide)
  · rfl
  · rfl
  · rcases hk with rfl | rfl | rfl | rfl
    · unfold xu_arr at h0 ⊢
      unfold xm_arr
      rw [if_neg (by decide), if_neg (by decide), if_pos rfl] at h0 ⊢
      rw [if_neg (by decide : ¬ (4 : Int32) = 1), if_pos rfl]
      unfold xm_ask
      by_cases hh : xm_has σ (xs_ix t) (xs_ix f) 2 = true
      · rw [if_pos hh] at h0
        exact absurd h0 (show ¬ (5 : Int32) = 0 by decide)
      · rw [if_neg hh]
        show _ = if xm_has σ (xs_ix t) (xs_ix f) 2 = true then _ else _
        rw [if_neg hh]
    · show (if xm_has σ (xs_ix t) (xs_ix f) 4 = true then _ else _) = xm_grant σ (5, f, -1, 0, t, u)
      unfold xm_grant
      rw [xu_md]
    · rfl
    · rfl
/-- one arrival, and what answers it -/
theorem xu_arr_1 {k f r v t u w : Int32} (hs : xu_sh k r v) (hc : k = 1 → xu_cw (xs_cn σ)) (hw : w = xu_tg (k, f, r, v, t, u)) (h0 : ¬ (xu_arr σ k f r v t u w).1 = 0) :
    (xu_arr (xu_arr σ k f r v t u w).2 (xu_arr σ k f r v t u w).1 t (-1) v f (-1) w).1 = 0 ∧ (xu_arr (xu_arr σ k f r v t u w).2 (xu_arr σ k f r v t u w).1 t (-1) v f (-1) w).2 = xm_arr σ (k, f, r, v, t, u) := by
  rcases xu_arr_nz (σ := σ) (k := k) (f := f) (r := r) (v := v) (t := t) (u := u) (w := w) with h | ⟨rfl, h1, h2⟩ | ⟨rfl, h1, h2, h3⟩
  · exact absurd h h0
  · rw [h1, h2]
    refine ⟨rfl, ?_⟩
    have e1 : xu_arr σ 1 f r v t u w = xu_route σ f r v t u w := by
      unfold xu_arr
      rw [if_pos rfl]
    have e2 : xm_arr σ (1, f, r, v, t, u) = xm_msg σ (1, f, r, v, t, u) := by
      unfold xm_arr
      rw [if_pos rfl]
    rw [e1] at h0
    rw [e2]
    rcases xu_route_ok (hc rfl) hw with h | h
    · exact absurd h.1 h0
    · rw [h.2.2]
      rfl
  · rw [h1, h2]
    have hv : v = 0 := by
      rcases hs with h | h | h | ⟨_, _, h⟩
      · exact absurd h (by decide)
      · exact absurd h (by decide)
      · exact absurd h (by decide)
      · exact h
    have e2 : xm_arr σ (4, f, r, v, t, u) = xm_grant σ (5, t, -1, 0, f, -1) := by
      unfold xm_arr
      rw [if_neg (by decide : ¬ (4 : Int32) = 1), if_pos rfl]
      unfold xm_ask
      show (if xm_has σ (xs_ix t) (xs_ix f) 2 = true then _ else _) = _
      rw [if_pos h3]
    rw [e2]
    refine ⟨rfl, ?_⟩
    show (if xm_has σ (xs_ix f) (xs_ix t) 4 = true then _ else _) = xm_grant σ (5, t, -1, 0, f, -1)
    unfold xm_grant
    rw [xu_md]
theorem xu_send_hold {k f r v t u : Int32} (h : xm_reach σ f t = false) : xu_hold σ (k, f, r, v, t, u) = xm_send σ (k, f, r, v, t, u) := by
  unfold xu_hold xm_send
  show _ = if xm_reach σ f t = true then _ else _
  rw [h, if_neg (show ¬ (false = true) by decide)]
  by_cases e : xm_full σ 14 = true
  · rw [if_pos e, if_neg (show ¬ (xm_full σ 14 = false) by rw [e]; decide)]
  · rw [if_neg e, if_pos (by simpa using e)]
theorem xu_send_arr {k f r v t u : Int32} (h : xm_reach σ f t = true) : xm_arr σ (k, f, r, v, t, u) = xm_send σ (k, f, r, v, t, u) := by
  unfold xm_send
  show _ = if xm_reach σ f t = true then _ else _
  rw [if_pos h]
theorem xm_same_route2 {z : xs_Z} : xm_same σ (xu_route2 σ z).2 := by
  unfold xu_route2
  split
  · exact xm_same_gp 6
  · split
    · exact xm_same_add
    · exact xm_same.rf
theorem xu_up_arr {k f r v t u w : Int32} : xs_up (xu_arr σ k f r v t u w).2 = xs_up σ := by
  unfold xu_arr
  split
  · unfold xu_route
    cases xu_first 6 0 σ t w with
    | some i => exact xm_same_add.2.2.1
    | none => exact xm_same_route2.2.2.1
  · split
    · show xs_up (if _ then _ else _) = _
      split
      · exact (xm_same_give 6).2.2.1
      · rfl
    · split
      · split
        · rfl
        · show xs_up (if _ then _ else _) = _
          split
          · exact (xm_same_give 6).2.2.1
          · rfl
      · split
        · show xs_up (if _ then _ else _) = _
          split
          · exact (xm_same_give 6).2.2.1
          · rfl
        · split
          · exact xm_same_end.2.2.1
          · split
            · exact xm_same_end.2.2.1
            · exact (xm_same_give 6).2.2.1
end XUS
section XUT
variable {a : xu_M} {σ : xs_S} {i n : Nat} {z : xs_Z} {th rp : Int32} {t : xu_X}
theorem xm_rm4 (hi : i < 8) : xs_rm i = 4 := by simp only [xs_rm, hi, if_true]
theorem xu_eq4 {k : Nat} (h : k ≤ 4) (e : nI k = 4) : k = 4 := (nI_eq (a := k) (b := 4) (by omega) (by decide)).mp e
theorem xu_ne4 {k : Nat} (h : k ≤ 4) (e : ¬ nI k = 4) : k < 4 := by
  rcases Nat.lt_or_eq_of_le h with h | h
  · exact h
  · exact absurd (by rw [h]; rfl) e
theorem xu_eq8 {k : Nat} (h : k ≤ 8) (e : nI k = 8) : k = 8 := (nI_eq (a := k) (b := 8) (by omega) (by decide)).mp e
theorem xu_ne8 {k : Nat} (h : k ≤ 8) (e : ¬ nI k = 8) : k < 8 := by
  rcases Nat.lt_or_eq_of_le h with h | h
  · exact h
  · exact absurd (by rw [h]; rfl) e
theorem xm_full_4 (hi : i < 8) (h : (xs_q σ i).length = 4) : xm_full σ i = true := by
  unfold xm_full
  rw [xm_rm4 hi, h]
  rfl
theorem xm_full_n4 (hi : i < 8) (h : (xs_q σ i).length < 4) : xm_full σ i = false := by
  unfold xm_full
  rw [xm_rm4 hi]
  exact decide_eq_false (by omega)
theorem xm_full_8 (h : (xs_q σ 14).length = 8) : xm_full σ 14 = true := by
  unfold xm_full
  rw [h]
  rfl
theorem xm_full_n8 (h : (xs_q σ 14).length < 8) : xm_full σ 14 = false := by
  unfold xm_full
  exact decide_eq_false (by show ¬ 8 ≤ _; omega)
/-- what is kept takes a message -/
theorem xu_keep1 (h : xu_rel a σ) (hi : i < 8) (hz : z.1 = 1) (hl : (xs_q σ i).length < 4) :
    xu_rel (xu_set (xu_set (xu_set (xu_set a 15 (4 * i + (xs_q σ i).length) z.2.1) 16 (4 * i + (xs_q σ i).length) z.2.2.1) 17 (4 * i + (xs_q σ i).length) z.2.2.2.1) 18 i (nI (xs_q σ i).length + 1)) (xm_add σ i z) := by
  unfold xm_add
  rw [if_pos (by rw [xm_rm4 hi]; exact hl)]
  obtain ⟨q1, q2, q3⟩ := h.2.2.2.2.1 i hi
  refine h.kept hi ⟨?_, ?_, fun j y hj => ?_⟩ (fun k hk => ?_) (fun j hj => ?_) (fun k k1 k2 j hj => ?_)
  · rw [xu_set_eq, nI_1, List.length_append]
    rfl
  · rw [List.length_append]
    exact hl
  · rw [xu_set_ne (by decide : 15 ≠ 18), xu_set_ne (by decide : 15 ≠ 17), xu_set_ne (by decide : 15 ≠ 16), xu_set_ne (by decide : 16 ≠ 18), xu_set_ne (by decide : 16 ≠ 17), xu_set_ne (by decide : 17 ≠ 18)]
    by_cases e : j < (xs_q σ i).length
    · rw [List.getElem?_append_left e] at hj
      have hne : 4 * i + j ≠ 4 * i + (xs_q σ i).length := by omega
      rw [xu_set_nj hne, xu_set_nj hne, xu_set_nj hne, xu_set_ne (by decide : 16 ≠ 15), xu_set_ne (by decide : 17 ≠ 16), xu_set_ne (by decide : 17 ≠ 15)]
      exact q3 j y hj
    · rw [List.getElem?_append_right (by omega)] at hj
      have he : j = (xs_q σ i).length := by
        have := (List.getElem?_eq_some_iff.mp hj).1
        simp at this
        omega
      subst he
      rw [Nat.sub_self] at hj
      cases hj
      exact ⟨hz, xu_set_eq, xu_set_eq, xu_set_eq⟩
  · rw [xu_set_ne (by omega), xu_set_ne (by omega), xu_set_ne (by omega), xu_set_ne (by omega)]
  · rw [xu_set_nj hj, xu_set_ne (by decide), xu_set_ne (by decide), xu_set_ne (by decide)]
  · have hne : j ≠ 4 * i + (xs_q σ i).length := by omega
    have hk : k = 15 ∨ k = 16 ∨ k = 17 := by omega
    rw [xu_set_ne (by omega)]
    rcases hk with rfl | rfl | rfl
    · rw [xu_set_ne (by decide), xu_set_ne (by decide), xu_set_nj hne]
    · rw [xu_set_ne (by decide), xu_set_nj hne, xu_set_ne (by decide)]
    · rw [xu_set_nj hne, xu_set_ne (by decide), xu_set_ne (by decide)]
theorem xu_num_addk (hi : i < 8) (hl : (xs_q σ i).length < 4) : xu_num (xm_add σ i z) th rp n t = xu_num σ th rp n t := by
  unfold xu_num
  rw [xm_q_add_ne (by omega), xm_same_add.2.2.1, xm_same_add.2.2.2.2, xm_lall_eq (σ := σ)]
  intro j hj
  unfold xm_add
  rw [if_pos (by rw [xm_rm4 hi]; exact hl)]
  exact va_up_ne _ _ (by omega)
/-- the link takes a stanza -/
theorem xu_wait1 (h : xu_rel a σ) {w : Int32} (hw : w = xu_tg z) (hl : (xs_q σ 14).length < 8) :
    xu_rel (xu_set (xu_set (xu_set (xu_set (xu_set (xu_set a 19 (xs_q σ 14).length z.1) 20 (xs_q σ 14).length z.2.1) 21 (xs_q σ 14).length z.2.2.2.2.1) 22 (xs_q σ 14).length z.2.2.1) 23 (xs_q σ 14).length z.2.2.2.1) 24 (xs_q σ 14).length w) (xm_add σ 14 z) := by
  unfold xm_add
  rw [if_pos (show _ < xs_rm 14 from hl)]
  obtain ⟨q2, q3⟩ := h.2.2.2.2.2
  refine h.wait ⟨?_, fun j y hj => ?_⟩ (fun k hk => ?_)
  · rw [List.length_append]
    exact hl
  · rw [xu_set_ne (by decide : 19 ≠ 24), xu_set_ne (by decide : 19 ≠ 23), xu_set_ne (by decide : 19 ≠ 22), xu_set_ne (by decide : 19 ≠ 21), xu_set_ne (by decide : 19 ≠ 20),
      xu_set_ne (by decide : 20 ≠ 24), xu_set_ne (by decide : 20 ≠ 23), xu_set_ne (by decide : 20 ≠ 22), xu_set_ne (by decide : 20 ≠ 21), xu_set_ne (by decide : 21 ≠ 24), xu_set_ne (by decide : 21 ≠ 23), xu_set_ne (by decide : 21 ≠ 22),
      xu_set_ne (by decide : 22 ≠ 24), xu_set_ne (by decide : 22 ≠ 23), xu_set_ne (by decide : 23 ≠ 24)]
    by_cases e : j < (xs_q σ 14).length
    · rw [List.getElem?_append_left e] at hj
      have hne : j ≠ (xs_q σ 14).length := by omega
      rw [xu_set_nj hne, xu_set_nj hne, xu_set_nj hne, xu_set_nj hne, xu_set_nj hne, xu_set_nj hne, xu_set_ne (by decide : 20 ≠ 19), xu_set_ne (by decide : 21 ≠ 20), xu_set_ne (by decide : 21 ≠ 19), xu_set_ne (by decide : 22 ≠ 21), xu_set_ne (by decide : 22 ≠ 20), xu_set_ne (by decide : 22 ≠ 19),
        xu_set_ne (by decide : 23 ≠ 22), xu_set_ne (by decide : 23 ≠ 21), xu_set_ne (by decide : 23 ≠ 20), xu_set_ne (by decide : 23 ≠ 19), xu_set_ne (by decide : 24 ≠ 23), xu_set_ne (by decide : 24 ≠ 22), xu_set_ne (by decide : 24 ≠ 21), xu_set_ne (by decide : 24 ≠ 20), xu_set_ne (by decide : 24 ≠ 19)]
      exact q3 j y hj
    · rw [List.getElem?_append_right (by omega)] at hj
      have he : j = (xs_q σ 14).length := by
        have := (List.getElem?_eq_some_iff.mp hj).1
        simp at this
        omega
      subst he
      rw [Nat.sub_self] at hj
      cases hj
      exact ⟨xu_set_eq, xu_set_eq, xu_set_eq, xu_set_eq, xu_set_eq, by rw [xu_set_eq]; exact hw⟩
  · rw [xu_set_ne (by omega), xu_set_ne (by omega), xu_set_ne (by omega), xu_set_ne (by omega), xu_set_ne (by omega), xu_set_ne (by omega)]
theorem xu_num_addw (hl : (xs_q σ 14).length < 8) : xu_num (xm_add σ 14 z) th rp n t = (th, nI n, nI (xs_q σ 14).length + 1, xs_b (xs_up σ), xm_lall 6 0 σ 0, rp, xs_b (xs_lt σ).isSome, t.1, t.2.1, t.2.2) := by
  unfold xu_num
  rw [xm_same_add.2.2.1, xm_same_add.2.2.2.2, xm_lall_eq (σ := σ) (τ := xm_add σ 14 z)]
  · unfold xm_add
    rw [if_pos (show _ < xs_rm 14 from hl)]
    show (th, nI n, nI (va_up (xs_q σ) 14 (xs_q σ 14 ++ [z]) 14).length, _) = _
    rw [va_up_self, List.length_append, nI_1]
    rfl
  · intro j hj
    unfold xm_add
    rw [if_pos (show _ < xs_rm 14 from hl)]
    exact va_up_ne _ _ (by omega)
theorem xu_sh0 {k r v : Int32} (h : xu_sh k r v) : ¬ k = 0 := by
  rcases h with rfl | rfl | rfl | ⟨rfl | rfl | rfl | rfl, _, _⟩ <;> decide
theorem xu_reach1 {f t : Int32} (hf : vp_in f 8) (ht : vp_in t 8) (h : f / 4 = t / 4) : xm_reach σ f t = true := by
  unfold xm_reach
  rw [(xu_div4 hf ht).mp h, Bool.or_true]
theorem xu_reach2 {f t : Int32} (h : xs_up σ = true) : xm_reach σ f t = true := by
  unfold xm_reach
  rw [h, Bool.true_or]
theorem xu_reach3 {f t : Int32} (hf : vp_in f 8) (ht : vp_in t 8) (h : ¬ f / 4 = t / 4) (hu : xs_up σ = false) : xm_reach σ f t = false := by
  unfold xm_reach
  rw [hu, Bool.false_or]
  exact Bool.eq_false_iff.mpr (fun q => h ((xu_div4 hf ht).mpr q))
end XUT
