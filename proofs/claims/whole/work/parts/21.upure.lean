/-! The reference: numbers and what its steps do to a state. -/
theorem xs_ix_nI {j : Nat} (h : j < 2 ^ 31) : xs_ix (nI j) = j := nI_clamp h
theorem xu_of {x : Int32} {n : Nat} (h : vp_in x n) : ∃ j, j < n ∧ j < 2 ^ 31 ∧ x = nI j := by
  obtain ⟨j, hj, rfl⟩ := nI_of (x := x) (fun q => h (Or.inl q))
  have h1 := xs_ixl h
  rw [xs_ix_nI hj] at h1
  exact ⟨j, h1, hj, rfl⟩
theorem nI_mul (a b : Nat) : nI a * nI b = nI (a * b) := (Int32.ofNat_mul a b).symm
theorem xu_ixm {x y : Int32} {k m n : Nat} (hm : vp_in x m) (hn : vp_in y n) (hb : k * m < 2 ^ 31) (hk : n ≤ k) : vp_in (nI k * x + y) (k * m) ∧ xs_ix (nI k * x + y) = k * xs_ix x + xs_ix y := by
  obtain ⟨i, hi, hi2, rfl⟩ := xu_of hm
  obtain ⟨j, hj, hj2, rfl⟩ := xu_of hn
  have h1 : k * i + k ≤ k * m := by
    have : k * (i + 1) ≤ k * m := Nat.mul_le_mul_left k hi
    rw [Nat.mul_add, Nat.mul_one] at this
    exact this
  have h2 : k * i + j < k * m := by omega
  rw [nI_mul, nI_add, xs_ix_nI hi2, xs_ix_nI hj2]
  exact ⟨vp_in_nI h2 hb, xs_ix_nI (by omega)⟩
theorem xu_ix8 {x y : Int32} (hm : vp_in x 8) (hn : vp_in y 8) : vp_in (8 * x + y) 64 ∧ xs_ix (8 * x + y) = 8 * xs_ix x + xs_ix y := xu_ixm (k := 8) hm hn (by decide) (by decide)
theorem xu_ix10 {x : Int32} {j : Nat} (hm : vp_in x 6) (hn : j < 10) : vp_in (10 * x + nI j) 60 ∧ xs_ix (10 * x + nI j) = 10 * xs_ix x + j := by
  have h := xu_ixm (k := 10) hm (vp_in_nI hn (by decide)) (by decide) (by decide)
  rw [xs_ix_nI (by omega)] at h
  exact h
theorem xu_ix4 {x : Int32} {j : Nat} (hm : vp_in x 8) (hn : j < 4) : vp_in (4 * x + nI j) 32 ∧ xs_ix (4 * x + nI j) = 4 * xs_ix x + j := by
  have h := xu_ixm (k := 4) hm (vp_in_nI hn (by decide)) (by decide) (by decide)
  rw [xs_ix_nI (by omega)] at h
  exact h
def xu_i (v a b : Int32) : Bool := decide (¬ v < a ∧ ¬ b < v)
theorem xu_lt {x a b : Int32} (h : b.toInt = a.toInt + 1) : a < x ↔ b ≤ x := by
  rw [Int32.lt_iff_toInt_lt, Int32.le_iff_toInt_le]
  omega
theorem xu_i6 {x : Int32} : xu_i x 0 5 = xm_in6 x := by
  unfold xu_i xm_in6
  rw [decide_eq_decide, xu_lt (x := x) (a := 5) (b := 6) (by decide)]
theorem xu_i8 {x : Int32} : xu_i x 0 7 = xm_in8 x := by
  unfold xu_i xm_in8
  rw [decide_eq_decide, xu_lt (x := x) (a := 7) (b := 8) (by decide)]
theorem xu_div4 {x y : Int32} (hx : vp_in x 8) (hy : vp_in y 8) : x / 4 = y / 4 ↔ xm_one x y = true := by
  obtain ⟨i, hi, hi2, rfl⟩ := xu_of hx
  obtain ⟨j, hj, hj2, rfl⟩ := xu_of hy
  have h1 : i = 0 ∨ i = 1 ∨ i = 2 ∨ i = 3 ∨ i = 4 ∨ i = 5 ∨ i = 6 ∨ i = 7 := by omega
  have h2 : j = 0 ∨ j = 1 ∨ j = 2 ∨ j = 3 ∨ j = 4 ∨ j = 5 ∨ j = 6 ∨ j = 7 := by omega
  rcases h1 with rfl | rfl | rfl | rfl | rfl | rfl | rfl | rfl <;> rcases h2 with rfl | rfl | rfl | rfl | rfl | rfl | rfl | rfl <;> decide
theorem xm_lall_eq {σ τ : xs_S} (h : ∀ i, i < 6 → xs_lo τ (8 + i) = xs_lo σ (8 + i)) : xm_lall 6 0 τ 0 = xm_lall 6 0 σ 0 := by
  show 0 + xs_lo τ (8 + 0) + xs_lo τ (8 + 1) + xs_lo τ (8 + 2) + xs_lo τ (8 + 3) + xs_lo τ (8 + 4) + xs_lo τ (8 + 5) = 0 + xs_lo σ (8 + 0) + xs_lo σ (8 + 1) + xs_lo σ (8 + 2) + xs_lo σ (8 + 3) + xs_lo σ (8 + 4) + xs_lo σ (8 + 5)
  rw [h 0 (by decide), h 1 (by decide), h 2 (by decide), h 3 (by decide), h 4 (by decide), h 5 (by decide)]
theorem xm_lall_up {σ τ : xs_S} {k : Nat} (hk : k < 6) (h : ∀ i, i < 6 → i ≠ k → xs_lo τ (8 + i) = xs_lo σ (8 + i)) (h2 : xs_lo τ (8 + k) = xs_lo σ (8 + k) + 1) : xm_lall 6 0 τ 0 = xm_lall 6 0 σ 0 + 1 := by
  show 0 + xs_lo τ (8 + 0) + xs_lo τ (8 + 1) + xs_lo τ (8 + 2) + xs_lo τ (8 + 3) + xs_lo τ (8 + 4) + xs_lo τ (8 + 5) = 0 + xs_lo σ (8 + 0) + xs_lo σ (8 + 1) + xs_lo σ (8 + 2) + xs_lo σ (8 + 3) + xs_lo σ (8 + 4) + xs_lo σ (8 + 5) + 1
  have h1 : k = 0 ∨ k = 1 ∨ k = 2 ∨ k = 3 ∨ k = 4 ∨ k = 5 := by omega
  rcases h1 with rfl | rfl | rfl | rfl | rfl | rfl
  · rw [h2, h 1 (by decide) (by decide), h 2 (by decide) (by decide), h 3 (by decide) (by decide), h 4 (by decide) (by decide), h 5 (by decide) (by decide)]
    ac_rfl
  · rw [h2, h 0 (by decide) (by decide), h 2 (by decide) (by decide), h 3 (by decide) (by decide), h 4 (by decide) (by decide), h 5 (by decide) (by decide)]
    ac_rfl
  · rw [h2, h 0 (by decide) (by decide), h 1 (by decide) (by decide), h 3 (by decide) (by decide), h 4 (by decide) (by decide), h 5 (by decide) (by decide)]
    ac_rfl
  · rw [h2, h 0 (by decide) (by decide), h 1 (by decide) (by decide), h 2 (by decide) (by decide), h 4 (by decide) (by decide), h 5 (by decide) (by decide)]
    ac_rfl
  · rw [h2, h 0 (by decide) (by decide), h 1 (by decide) (by decide), h 2 (by decide) (by decide), h 3 (by decide) (by decide), h 5 (by decide) (by decide)]
    ac_rfl
  · rw [h2, h 0 (by decide) (by decide), h 1 (by decide) (by decide), h 2 (by decide) (by decide), h 3 (by decide) (by decide), h 4 (by decide) (by decide)]
    ac_rfl
section XUP
variable {a : xu_M} {σ : xs_S} {i : Nat} {z : xs_Z}
theorem xm_rm8 (hi : i < 6) : xs_rm (8 + i) = 10 := by
  have e1 : ¬ 8 + i < 8 := by omega
  have e2 : 8 + i < 14 := by omega
  simp only [xs_rm, e1, e2, if_true, if_false]
/-- an inbox with room takes a stanza -/
theorem xu_put1 (h : xu_rel a σ) (hi : i < 6) (hl : (xs_q σ (8 + i)).length < 10) :
    xu_rel (xu_set (xu_set (xu_set (xu_set (xu_set a 10 (10 * i + (xs_q σ (8 + i)).length) z.1) 11 (10 * i + (xs_q σ (8 + i)).length) z.2.1) 12 (10 * i + (xs_q σ (8 + i)).length) z.2.2.1) 13 (10 * i + (xs_q σ (8 + i)).length) z.2.2.2.1) 14 i (nI (xs_q σ (8 + i)).length + 1)) (xm_add σ (8 + i) z) := by
  unfold xm_add
  rw [if_pos (by rw [xm_rm8 hi]; exact hl)]
  obtain ⟨q1, q2, q3⟩ := h.2.2.2.1 i hi
  refine h.box hi ⟨?_, ?_, fun j y hj => ?_⟩ (fun k hk => ?_) (fun j hj => ?_) (fun k k1 k2 j hj => ?_)
  · rw [xu_set_eq, nI_1, List.length_append]
    rfl
  · rw [List.length_append]
    exact hl
  · rw [xu_set_ne (by decide : 10 ≠ 14), xu_set_ne (by decide : 10 ≠ 13), xu_set_ne (by decide : 10 ≠ 12), xu_set_ne (by decide : 10 ≠ 11), xu_set_ne (by decide : 11 ≠ 14), xu_set_ne (by decide : 11 ≠ 13), xu_set_ne (by decide : 11 ≠ 12), xu_set_ne (by decide : 12 ≠ 14), xu_set_ne (by decide : 12 ≠ 13), xu_set_ne (by decide : 13 ≠ 14)]
    by_cases e : j < (xs_q σ (8 + i)).length
    · rw [List.getElem?_append_left e] at hj
      have hne : 10 * i + j ≠ 10 * i + (xs_q σ (8 + i)).length := by omega
      rw [xu_set_nj hne, xu_set_nj hne, xu_set_nj hne, xu_set_nj hne, xu_set_ne (by decide : 11 ≠ 10), xu_set_ne (by decide : 12 ≠ 11), xu_set_ne (by decide : 12 ≠ 10), xu_set_ne (by decide : 13 ≠ 12), xu_set_ne (by decide : 13 ≠ 11), xu_set_ne (by decide : 13 ≠ 10)]
      exact q3 j y hj
    · rw [List.getElem?_append_right (by omega)] at hj
      have he : j = (xs_q σ (8 + i)).length := by
        have := (List.getElem?_eq_some_iff.mp hj).1
        simp at this
        omega
      subst he
      rw [Nat.sub_self] at hj
      cases hj
      exact ⟨xu_set_eq, xu_set_eq, xu_set_eq, xu_set_eq⟩
  · rw [xu_set_ne (by omega), xu_set_ne (by omega), xu_set_ne (by omega), xu_set_ne (by omega), xu_set_ne (by omega)]
  · rw [xu_set_nj hj, xu_set_ne (by decide), xu_set_ne (by decide), xu_set_ne (by decide), xu_set_ne (by decide)]
  · have hne : j ≠ 10 * i + (xs_q σ (8 + i)).length := by omega
    have hk : k = 10 ∨ k = 11 ∨ k = 12 ∨ k = 13 := by omega
    rw [xu_set_ne (by omega)]
    rcases hk with rfl | rfl | rfl | rfl
    · rw [xu_set_ne (by decide), xu_set_ne (by decide), xu_set_ne (by decide), xu_set_nj hne]
    · rw [xu_set_ne (by decide), xu_set_ne (by decide), xu_set_nj hne, xu_set_ne (by decide)]
    · rw [xu_set_ne (by decide), xu_set_nj hne, xu_set_ne (by decide), xu_set_ne (by decide)]
    · rw [xu_set_nj hne, xu_set_ne (by decide), xu_set_ne (by decide), xu_set_ne (by decide)]
theorem xu_putL (hi : i < 6) (hl : (xs_q σ (8 + i)).length < 10) : xm_lall 6 0 (xm_add σ (8 + i) z) 0 = xm_lall 6 0 σ 0 := by
  refine xm_lall_eq fun j hj => ?_
  unfold xm_add
  rw [if_pos (by rw [xm_rm8 hi]; exact hl)]
  show va_up (xs_lo σ) (8 + i) (xs_lo σ (8 + i)) (8 + j) = _
  by_cases e : j = i
  · subst e
    rw [va_up_self]
  · rw [va_up_ne _ _ (by omega)]
/-- a full inbox -/
theorem xu_put2 (h : xu_rel a σ) (hi : i < 6) (hl : (xs_q σ (8 + i)).length = 10) : xu_rel a (xm_add σ (8 + i) z) := by
  unfold xm_add
  rw [if_neg (by rw [xm_rm8 hi]; omega)]
  exact h.box hi (h.2.2.2.1 i hi) (fun _ _ => rfl) (fun _ _ => rfl) (fun _ _ _ _ _ => rfl)
theorem xu_putM (hi : i < 6) (hl : (xs_q σ (8 + i)).length = 10) : xm_lall 6 0 (xm_add σ (8 + i) z) 0 = xm_lall 6 0 σ 0 + 1 := by
  refine xm_lall_up hi (fun j hj hne => ?_) ?_
  · unfold xm_add
    rw [if_neg (by rw [xm_rm8 hi]; omega)]
    exact va_up_ne _ _ (by omega)
  · unfold xm_add
    rw [if_neg (by rw [xm_rm8 hi]; omega)]
    exact va_up_self _ _ _
theorem xm_q14_add (hi : i < 6) : xs_q (xm_add σ (8 + i) z) 14 = xs_q σ 14 := xm_q_add_ne (by omega)
end XUP
section XUQ
variable {σ : xs_S} {i n : Nat} {z : xs_Z} {th rp : Int32} {t : xu_X}
theorem xu_eq10 {k : Nat} (h : k ≤ 10) (e : nI k = 10) : k = 10 := (nI_eq (a := k) (b := 10) (by omega) (by decide)).mp e
theorem xu_ne10 {k : Nat} (h : k ≤ 10) (e : ¬ nI k = 10) : k < 10 := by
  rcases Nat.lt_or_eq_of_le h with h | h
  · exact h
  · exact absurd (by rw [h]; rfl) e
theorem xu_num_add1 (hi : i < 6) (hl : (xs_q σ (8 + i)).length < 10) : xu_num (xm_add σ (8 + i) z) th rp n t = xu_num σ th rp n t := by
  unfold xu_num
  rw [xm_q14_add hi, xu_putL hi hl, xm_same_add.2.2.1, xm_same_add.2.2.2.2]
theorem xu_num_add2 (hi : i < 6) (hl : (xs_q σ (8 + i)).length = 10) : xu_num (xm_add σ (8 + i) z) th rp n t = (th, nI n, nI (xs_q σ 14).length, xs_b (xs_up σ), xm_lall 6 0 σ 0 + 1, rp, xs_b (xs_lt σ).isSome, t.1, t.2.1, t.2.2) := by
  unfold xu_num
  rw [xm_q14_add hi, xu_putM hi hl, xm_same_add.2.2.1, xm_same_add.2.2.2.2]
theorem xu_tk_add {k : Nat} (h : xu_tk t (xs_lt σ)) : xu_tk t (xs_lt (xm_add σ k z)) := by
  rw [xm_same_add.2.2.2.2]
  exact h
theorem xu_nx_add {k : Nat} (h : xs_nx σ = xu_nx n) : xs_nx (xm_add σ k z) = xu_nx n := xm_same_add.2.2.2.1.trans h
end XUQ
