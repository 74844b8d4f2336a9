/-! What sending leaves alone: accounts, connections, link, challenges, the stanza taken last. -/
def xm_same (σ τ : xs_S) : Prop := xs_ac τ = xs_ac σ ∧ xs_cn τ = xs_cn σ ∧ xs_up τ = xs_up σ ∧ xs_nx τ = xs_nx σ ∧ xs_lt τ = xs_lt σ
theorem xm_same.rf {σ : xs_S} : xm_same σ σ := ⟨rfl, rfl, rfl, rfl, rfl⟩
theorem xm_same.tr {σ τ υ : xs_S} (h : xm_same σ τ) (k : xm_same τ υ) : xm_same σ υ := ⟨k.1.trans h.1, k.2.1.trans h.2.1, k.2.2.1.trans h.2.2.1, k.2.2.2.1.trans h.2.2.2.1, k.2.2.2.2.trans h.2.2.2.2⟩
theorem xm_same.ite {σ τ : xs_S} {P : Prop} [Decidable P] (h : xm_same σ τ) : xm_same σ (if P then τ else σ) := by
  split
  · exact h
  · exact xm_same.rf
theorem xm_same_sq {σ : xs_S} {n : Nat} {l : List xs_Z} {w : Int32} : xm_same σ (xs_sq σ n l w) := ⟨rfl, rfl, rfl, rfl, rfl⟩
theorem xm_same_smk {σ : xs_S} {a b : Nat} {w : Int32} : xm_same σ (xs_smk σ a b w) := ⟨rfl, rfl, rfl, rfl, rfl⟩
theorem xm_same_add {σ : xs_S} {n : Nat} {z : xs_Z} : xm_same σ (xm_add σ n z) := by
  unfold xm_add
  split <;> exact xm_same_sq
theorem xm_same_pop {σ : xs_S} {n : Nat} : xm_same σ (xm_pop σ n) := xm_same_sq
theorem xm_same_mark {σ : xs_S} {a b : Nat} {w : Int32} : xm_same σ (xm_mark σ a b w) := xm_same_smk
theorem xm_same_drop {σ : xs_S} {a b : Nat} {w : Int32} : xm_same σ (xm_drop σ a b w) := xm_same_smk
theorem xm_same_give (n : Nat) : ∀ {i : Nat} {σ : xs_S} {z : xs_Z}, xm_same σ (xm_give n i σ z) := by
  induction n with
  | zero => intro i σ z; exact xm_same.rf
  | succ n ih => intro i σ z; exact (xm_same_add.ite).tr ih
theorem xm_same_gp (n : Nat) : ∀ {i : Nat} {σ : xs_S} {z : xs_Z} {p : Int32}, xm_same σ (xm_gp n i σ z p) := by
  induction n with
  | zero => intro i σ z p; exact xm_same.rf
  | succ n ih => intro i σ z p; exact (xm_same_add.ite).tr ih
theorem xm_same_err {σ : xs_S} {z : xs_Z} : xm_same σ (xm_err σ z) := xm_same_give 6
theorem xm_same_msg2 {σ : xs_S} {z : xs_Z} : xm_same σ (xm_msg2 σ z) := by
  unfold xm_msg2
  split
  · exact xm_same_gp 6
  · split
    · exact xm_same_add
    · exact xm_same_err
theorem xm_same_msg {σ : xs_S} {z : xs_Z} : xm_same σ (xm_msg σ z) := by
  unfold xm_msg
  split
  · exact xm_same_msg2
  · split
    · exact xm_same_add
    · exact xm_same_msg2
theorem xm_same_grant {σ : xs_S} {z : xs_Z} : xm_same σ (xm_grant σ z) := by
  unfold xm_grant
  split
  · exact (xm_same_mark.tr xm_same_drop).tr (xm_same_give 6)
  · exact xm_same.rf
theorem xm_same_ask {σ : xs_S} {z : xs_Z} : xm_same σ (xm_ask σ z) := by
  unfold xm_ask
  split
  · exact xm_same_grant
  · split
    · exact xm_same_mark.tr (xm_same_give 6)
    · exact xm_same.rf
theorem xm_same_end {σ : xs_S} {z : xs_Z} {w : Int32} : xm_same σ (xm_end σ z w) := by
  unfold xm_end
  split
  · exact xm_same_drop.tr (xm_same_give 6)
  · exact xm_same.rf
theorem xm_same_arr {σ : xs_S} {z : xs_Z} : xm_same σ (xm_arr σ z) := by
  unfold xm_arr
  repeat' split
  all_goals first | exact xm_same_msg | exact xm_same_ask | exact xm_same_grant | exact xm_same_end | exact xm_same_give 6 | exact xm_same.rf
theorem xm_same_send {σ : xs_S} {z : xs_Z} : xm_same σ (xm_send σ z) := by
  unfold xm_send
  repeat' split
  all_goals first | exact xm_same_arr | exact xm_same_add | exact xm_same_err | exact xm_same.rf
theorem xm_same_stw (n : Nat) : ∀ {j : Nat} {σ : xs_S} {a i : Nat} {k : Int32}, xm_same σ (xm_stw n j σ a i k) := by
  induction n with
  | zero => intro j σ a i k; exact xm_same.rf
  | succ n ih => intro j σ a i k; exact (xm_same_send.ite).tr ih
theorem xm_same_sp (n : Nat) : ∀ {i : Nat} {σ : xs_S} {a t k : Int32}, xm_same σ (xm_sp n i σ a t k) := by
  induction n with
  | zero => intro i σ a t k; exact xm_same.rf
  | succ n ih => intro i σ a t k; exact (xm_same_send.ite).tr ih
theorem xm_same_sco (n : Nat) : ∀ {i : Nat} {σ : xs_S} {w : Int32} {c : Nat}, xm_same σ (xm_sco n i σ w c) := by
  induction n with
  | zero => intro i σ w c; exact xm_same.rf
  | succ n ih => intro i σ w c; exact (xm_same_add.ite).tr ih
theorem xm_same_so (n : Nat) : ∀ {j : Nat} {σ : xs_S} {a c : Nat}, xm_same σ (xm_so n j σ a c) := by
  induction n with
  | zero => intro j σ a c; exact xm_same.rf
  | succ n ih => intro j σ a c; exact ((xm_same_sco 6).ite).tr ih
theorem xm_same_hk (n : Nat) : ∀ {σ : xs_S} {a c : Nat}, xm_same σ (xm_hk n σ a c) := by
  induction n with
  | zero => intro σ a c; exact xm_same.rf
  | succ n ih => intro σ a c; exact (xm_same_pop.tr xm_same_add).tr ih
theorem xm_same_com {σ : xs_S} {a b : Nat} {k : Int32} : xm_same σ (xm_com σ a b k) := by
  unfold xm_com
  repeat' split
  all_goals first | exact xm_same.rf | exact xm_same_mark | exact xm_same_drop | exact xm_same_mark.tr xm_same_drop
theorem xm_same_lk (n : Nat) : ∀ {σ : xs_S}, xm_same σ (xm_lk n σ) := by
  induction n with
  | zero => intro σ; exact xm_same.rf
  | succ n ih => intro σ; exact (xm_same_pop.tr xm_same_arr).tr ih
/-- a stanza that may be sent: both its accounts are there -/
def xm_ok (z : xs_Z) : Prop := vp_in z.2.1 8 ∧ vp_in z.2.2.2.2.1 8
def xm_wf (σ : xs_S) : Prop := (∀ i, i < 6 → (xs_cn σ i).2.2.2.2.2 = true → (xs_cn σ i).1 = 4) ∧ (∀ i, i < 6 → ((xs_cn σ i).1 = 2 ∨ (xs_cn σ i).1 = 3 ∨ (xs_cn σ i).1 = 4) → vp_in (xs_cn σ i).2.1 8) ∧ ∀ z, z ∈ xs_q σ 14 → xm_ok z
theorem xs_cn_scn {σ : xs_S} {i : Nat} {v : xs_C} : xs_cn (xs_scn σ i v) i = v := va_up_self _ _ _
theorem xs_nx_scn {σ : xs_S} {i : Nat} {v : xs_C} : xs_nx (xs_scn σ i v) = xs_nx σ := rfl
theorem xs_up_scn {σ : xs_S} {i : Nat} {v : xs_C} : xs_up (xs_scn σ i v) = xs_up σ := rfl
theorem xs_lt_scn {σ : xs_S} {i : Nat} {v : xs_C} : xs_lt (xs_scn σ i v) = xs_lt σ := rfl
theorem xs_q_scn {σ : xs_S} {i : Nat} {v : xs_C} : xs_q (xs_scn σ i v) = xs_q σ := rfl
theorem xs_ac_scn {σ : xs_S} {i : Nat} {v : xs_C} : xs_ac (xs_scn σ i v) = xs_ac σ := rfl
theorem xs_mk_scn {σ : xs_S} {i : Nat} {v : xs_C} : xs_mk (xs_scn σ i v) = xs_mk σ := rfl
theorem xs_ac_sac {σ : xs_S} {i : Nat} {v : Bool × Int32} : xs_ac (xs_sac σ i v) i = v := va_up_self _ _ _
theorem xs_up2 {α : Type} (f : Nat → α) (k : Nat) (v w : α) : va_up (va_up f k v) k w = va_up f k w := by
  funext j
  by_cases h : j = k
  · subst h
    rw [va_up_self, va_up_self]
  · rw [va_up_ne _ _ h, va_up_ne _ _ h, va_up_ne _ _ h]
theorem xs_sac_sac {σ : xs_S} {i : Nat} {v w : Bool × Int32} : xs_sac (xs_sac σ i v) i w = xs_sac σ i w := by
  show (va_up (va_up (xs_ac σ) i v) i w, _) = _
  rw [xs_up2]
  rfl
theorem xs_nx_sg {σ : xs_S} {u : Bool} {n : Int32} {t : Option xs_Z} : xs_nx (xs_sg σ u n t) = n := rfl
theorem xs_up_sg {σ : xs_S} {u : Bool} {n : Int32} {t : Option xs_Z} : xs_up (xs_sg σ u n t) = u := rfl
theorem xs_lt_sg {σ : xs_S} {u : Bool} {n : Int32} {t : Option xs_Z} : xs_lt (xs_sg σ u n t) = t := rfl
theorem xs_cn_sg {σ : xs_S} {u : Bool} {n : Int32} {t : Option xs_Z} : xs_cn (xs_sg σ u n t) = xs_cn σ := rfl
theorem xs_q_sg {σ : xs_S} {u : Bool} {n : Int32} {t : Option xs_Z} : xs_q (xs_sg σ u n t) = xs_q σ := rfl
theorem xm_av_ac {σ : xs_S} {i : Nat} {x : Int32} (h : xm_av σ i x = true) : (xs_cn σ i).2.1 = x := by
  unfold xm_av at h
  rw [Bool.and_eq_true, decide_eq_true_eq] at h
  exact h.2
theorem xm_sav_ac {σ : xs_S} {i : Nat} {b : Bool} : (xs_cn (xm_sav σ i b) i).2.1 = (xs_cn σ i).2.1 := by
  unfold xm_sav
  rw [xs_cn_scn]
theorem xm_q_sq_ne {σ : xs_S} {n k : Nat} {l : List xs_Z} {w : Int32} (h : k ≠ n) : xs_q (xs_sq σ n l w) k = xs_q σ k := va_up_ne _ _ h
theorem xm_q_add_ne {σ : xs_S} {n k : Nat} {z : xs_Z} (h : k ≠ n) : xs_q (xm_add σ n z) k = xs_q σ k := by
  unfold xm_add
  split <;> exact xm_q_sq_ne h
theorem xm_q_pop {σ : xs_S} {n : Nat} : xs_q (xm_pop σ n) n = (xs_q σ n).tail := va_up_self _ _ _
theorem xm_ne {l : List xs_Z} {n : Nat} (h : l.length = n + 1) : ∃ z t, l = z :: t := by
  cases l with
  | nil => cases h
  | cons z t => exact ⟨z, t, rfl⟩
theorem xm_q14_give (n : Nat) : ∀ {i : Nat} {σ : xs_S} {z : xs_Z}, i + n ≤ 6 → xs_q (xm_give n i σ z) 14 = xs_q σ 14 := by
  induction n with
  | zero => intro i σ z _; rfl
  | succ n ih =>
    intro i σ z h
    show xs_q (xm_give n (i + 1) _ z) 14 = _
    rw [ih (by omega)]
    split
    · exact xm_q_add_ne (by omega)
    · rfl
theorem xm_q14_gp (n : Nat) : ∀ {i : Nat} {σ : xs_S} {z : xs_Z} {p : Int32}, i + n ≤ 6 → xs_q (xm_gp n i σ z p) 14 = xs_q σ 14 := by
  induction n with
  | zero => intro i σ z p _; rfl
  | succ n ih =>
    intro i σ z p h
    show xs_q (xm_gp n (i + 1) _ z p) 14 = _
    rw [ih (by omega)]
    split
    · exact xm_q_add_ne (by omega)
    · rfl
theorem xm_bw_lt (n : Nat) : ∀ {i k : Nat} {σ : xs_S} {a r : Int32}, xm_bw n i σ a r = some k → k < i + n := by
  induction n with
  | zero => intro i k σ a r h; cases h
  | succ n ih =>
    intro i k σ a r h
    unfold xm_bw at h
    split at h
    · cases h; omega
    · have := ih h; omega
theorem xm_q14_msg2 {σ : xs_S} {z : xs_Z} (h : xm_ok z) : xs_q (xm_msg2 σ z) 14 = xs_q σ 14 := by
  unfold xm_msg2
  have := xs_ixl h.2
  split
  · exact xm_q14_gp 6 (by decide)
  · split
    · exact xm_q_add_ne (by omega)
    · exact xm_q14_give 6 (by decide)
theorem xm_q14_msg {σ : xs_S} {z : xs_Z} (h : xm_ok z) : xs_q (xm_msg σ z) 14 = xs_q σ 14 := by
  unfold xm_msg
  split
  · exact xm_q14_msg2 h
  · rename_i i hi
    have := xm_bw_lt 6 hi
    split
    · exact xm_q_add_ne (by omega)
    · exact xm_q14_msg2 h
theorem xm_q14_grant {σ : xs_S} {z : xs_Z} : xs_q (xm_grant σ z) 14 = xs_q σ 14 := by
  unfold xm_grant
  split
  · exact xm_q14_give 6 (by decide)
  · rfl
theorem xm_q14_arr {σ : xs_S} {z : xs_Z} (h : xm_ok z) : xs_q (xm_arr σ z) 14 = xs_q σ 14 := by
  unfold xm_arr
  split
  · exact xm_q14_msg h
  · split
    · unfold xm_ask
      split
      · exact xm_q14_grant
      · split
        · exact xm_q14_give 6 (by decide)
        · rfl
    · split
      · exact xm_q14_grant
      · split
        · unfold xm_end
          split
          · exact xm_q14_give 6 (by decide)
          · rfl
        · split
          · unfold xm_end
            split
            · exact xm_q14_give 6 (by decide)
            · rfl
          · split
            · split
              · exact xm_q14_give 6 (by decide)
              · rfl
            · rfl
