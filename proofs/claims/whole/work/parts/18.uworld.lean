/-! The reference: how a state of the system lies in its arrays. -/
abbrev xi_U : Nat := 5
def xu_t : Nat → Nat
  | 1 => 4
  | 7 => 4
  | _ => 3
def xu_n : Nat → Nat
  | 1 => 8
  | 2 => 8
  | 3 => 64
  | 4 => 6
  | 5 => 6
  | 6 => 6
  | 7 => 6
  | 8 => 6
  | 9 => 6
  | 10 => 60
  | 11 => 60
  | 12 => 60
  | 13 => 60
  | 14 => 6
  | 15 => 32
  | 16 => 32
  | 17 => 32
  | _ => 8
abbrev xu_M : Type := Nat → Nat → Int32
def xu_set (a : xu_M) (k i : Nat) (v : Int32) : xu_M := va_up a k (upd (a k) i v)
theorem xu_set_ne {a : xu_M} {k k' i : Nat} {v : Int32} (h : k' ≠ k) : xu_set a k i v k' = a k' := va_up_ne _ _ h
theorem xu_set_eq {a : xu_M} {k i : Nat} {v : Int32} : xu_set a k i v k i = v := by
  unfold xu_set
  rw [va_up_self]
  simp [upd]
theorem xu_set_nj {a : xu_M} {k i j : Nat} {v : Int32} (h : j ≠ i) : xu_set a k i v k j = a k j := by
  unfold xu_set
  rw [va_up_self]
  simp [upd, h]
def xu_A (g : xw_G) (o : Nat) (a : xu_M) (H : Heap) : Prop := ∀ k, 1 ≤ k → k ≤ 24 → va_at g.1 vwCl (o + k, .inl (g.2 (xu_t k), xu_n k, .inl (a k))) H
def xu_W (o q : Nat) : Prop := o ≤ q ∧ q < o + 25
/-- numbers of the object: thrown, challenges, waiting, up, lost, reply, took, tookFrom, tookResource, tookValue -/
abbrev xu_N : Type := Int32 × Int32 × Int32 × Int32 × Int32 × Int32 × Int32 × Int32 × Int32 × Int32
abbrev xu_O (o : Nat) (s : xu_N) : List Value := [.int s.1, .ref (o + 1), .ref (o + 2), .ref (o + 3), .ref (o + 4), .ref (o + 5), .ref (o + 6), .ref (o + 7), .ref (o + 8), .ref (o + 9), .int s.2.1,
  .ref (o + 10), .ref (o + 11), .ref (o + 12), .ref (o + 13), .ref (o + 14), .ref (o + 15), .ref (o + 16), .ref (o + 17), .ref (o + 18), .ref (o + 19), .ref (o + 20), .ref (o + 21), .ref (o + 22), .ref (o + 23), .ref (o + 24),
  .int s.2.2.1, .int s.2.2.2.1, .int s.2.2.2.2.1, .int s.2.2.2.2.2.1, .int s.2.2.2.2.2.2.1, .int s.2.2.2.2.2.2.2.1, .int s.2.2.2.2.2.2.2.2.1, .int s.2.2.2.2.2.2.2.2.2]
def xu_cn (a : xu_M) (i : Nat) (c : xs_C) : Prop := a 4 i = c.1 ∧ a 5 i = c.2.1 ∧ a 6 i = c.2.2.1 ∧ a 7 i = xs_b c.2.2.2.2.2 ∧ a 8 i = c.2.2.2.1 ∧ a 9 i = c.2.2.2.2.1
def xu_in (a : xu_M) (i : Nat) (l : List xs_Z) : Prop := a 14 i = nI l.length ∧ l.length ≤ 10 ∧ ∀ (j : Nat) (z : xs_Z), l[j]? = some z → a 10 (10 * i + j) = z.1 ∧ a 11 (10 * i + j) = z.2.1 ∧ a 12 (10 * i + j) = z.2.2.1 ∧ a 13 (10 * i + j) = z.2.2.2.1
def xu_kp (a : xu_M) (i : Nat) (l : List xs_Z) : Prop := a 18 i = nI l.length ∧ l.length ≤ 4 ∧ ∀ (j : Nat) (z : xs_Z), l[j]? = some z → z.1 = 1 ∧ a 15 (4 * i + j) = z.2.1 ∧ a 16 (4 * i + j) = z.2.2.1 ∧ a 17 (4 * i + j) = z.2.2.2.1
def xu_tg (z : xs_Z) : Int32 := if z.1 = 1 ∧ z.2.2.2.2.2 < 0 then -9 else z.2.2.2.2.2
def xu_wt (a : xu_M) (l : List xs_Z) : Prop := l.length ≤ 8 ∧ ∀ (j : Nat) (z : xs_Z), l[j]? = some z → a 19 j = z.1 ∧ a 20 j = z.2.1 ∧ a 21 j = z.2.2.2.2.1 ∧ a 22 j = z.2.2.1 ∧ a 23 j = z.2.2.2.1 ∧ a 24 j = xu_tg z
def xu_rel (a : xu_M) (σ : xs_S) : Prop :=
  (∀ i, i < 8 → a 1 i = xs_b (xs_ac σ i).1 ∧ a 2 i = (xs_ac σ i).2) ∧ (∀ i j, i < 8 → j < 8 → a 3 (8 * i + j) = xs_mk σ i j) ∧ (∀ i, i < 6 → xu_cn a i (xs_cn σ i)) ∧
  (∀ i, i < 6 → xu_in a i (xs_q σ (8 + i))) ∧ (∀ i, i < 8 → xu_kp a i (xs_q σ i)) ∧ xu_wt a (xs_q σ 14)
abbrev xu_X : Type := Int32 × Int32 × Int32
def xu_tk (t : xu_X) (l : Option xs_Z) : Prop := ∀ z, l = some z → t = (z.2.1, z.2.2.1, z.2.2.2.1)
def xu_nx (n : Nat) : Int32 := nI ((7919 * n + 4242) % 10000)
abbrev xu_num (σ : xs_S) (th rp : Int32) (n : Nat) (t : xu_X) : xu_N := (th, nI n, nI (xs_q σ 14).length, xs_b (xs_up σ), xm_lall 6 0 σ 0, rp, xs_b (xs_lt σ).isSome, t.1, t.2.1, t.2.2)
def xu_R (g : xw_G) (o : Nat) (σ : xs_S) (th rp : Int32) (n : Nat) (t : xu_X) (a : xu_M) (H : Heap) : Prop :=
  va_at g.1 vwCl (o, .inr (xi_U, xu_O o (xu_num σ th rp n t))) H ∧ xu_A g o a H ∧ xu_rel a σ ∧ xu_tk t (xs_lt σ) ∧ xs_nx σ = xu_nx n
section XU
variable {a b : xu_M} {σ : xs_S} {i : Nat} {l : List xs_Z} {c : xs_C}
theorem xu_cn.cg (h : xu_cn a i c) (he : ∀ k, 4 ≤ k → k ≤ 9 → b k i = a k i) : xu_cn b i c := by
  unfold xu_cn
  rw [he 4 (by decide) (by decide), he 5 (by decide) (by decide), he 6 (by decide) (by decide), he 7 (by decide) (by decide), he 8 (by decide) (by decide), he 9 (by decide) (by decide)]
  exact h
theorem xu_in.cg (h : xu_in a i l) (he : ∀ k, 10 ≤ k → k ≤ 14 → b k = a k) : xu_in b i l := by
  unfold xu_in
  rw [he 10 (by decide) (by decide), he 11 (by decide) (by decide), he 12 (by decide) (by decide), he 13 (by decide) (by decide), he 14 (by decide) (by decide)]
  exact h
theorem xu_kp.cg (h : xu_kp a i l) (he : ∀ k, 15 ≤ k → k ≤ 18 → b k = a k) : xu_kp b i l := by
  unfold xu_kp
  rw [he 15 (by decide) (by decide), he 16 (by decide) (by decide), he 17 (by decide) (by decide), he 18 (by decide) (by decide)]
  exact h
theorem xu_wt.cg (h : xu_wt a l) (he : ∀ k, 19 ≤ k → b k = a k) : xu_wt b l := by
  unfold xu_wt
  rw [he 19 (by decide), he 20 (by decide), he 21 (by decide), he 22 (by decide), he 23 (by decide), he 24 (by decide)]
  exact h
theorem xu_rel.scn (h : xu_rel a σ) {k : Nat} {v : Int32} (hk : 4 ≤ k) (hk9 : k ≤ 9) (hc : xu_cn (xu_set a k i v) i c) : xu_rel (xu_set a k i v) (xs_scn σ i c) := by
  obtain ⟨h1, h2, h3, h4, h5, h6⟩ := h
  refine ⟨fun j hj => ?_, fun j m hj hm => ?_, fun j hj => ?_, fun j hj => (h4 j hj).cg (fun q q1 q2 => xu_set_ne (by omega)), fun j hj => (h5 j hj).cg (fun q q1 q2 => xu_set_ne (by omega)), h6.cg (fun q q1 => xu_set_ne (by omega))⟩
  · rw [xu_set_ne (by omega), xu_set_ne (by omega)]
    exact h1 j hj
  · rw [xu_set_ne (by omega)]
    exact h2 j m hj hm
  · show xu_cn _ j (va_up (xs_cn σ) i c j)
    by_cases e : j = i
    · subst e
      rw [va_up_self]
      exact hc
    · rw [va_up_ne _ _ e]
      refine (h3 j hj).cg (fun q q1 q2 => ?_)
      by_cases e2 : q = k
      · subst e2
        exact xu_set_nj e
      · rw [xu_set_ne e2]
theorem xu_rel.st (h : xu_rel a σ) (hi : i < 6) {v : Int32} : xu_rel (xu_set a 4 i v) (xm_sst σ i v) := by
  obtain ⟨q1, q2, q3, q4, q5, q6⟩ := h.2.2.1 i hi
  exact h.scn (by decide) (by decide) ⟨xu_set_eq, by rw [xu_set_ne (by decide)]; exact q2, by rw [xu_set_ne (by decide)]; exact q3, by rw [xu_set_ne (by decide)]; exact q4, by rw [xu_set_ne (by decide)]; exact q5, by rw [xu_set_ne (by decide)]; exact q6⟩
theorem xu_rel.acc (h : xu_rel a σ) (hi : i < 6) {v : Int32} : xu_rel (xu_set a 5 i v) (xm_sacc σ i v) := by
  obtain ⟨q1, q2, q3, q4, q5, q6⟩ := h.2.2.1 i hi
  exact h.scn (by decide) (by decide) ⟨by rw [xu_set_ne (by decide)]; exact q1, xu_set_eq, by rw [xu_set_ne (by decide)]; exact q3, by rw [xu_set_ne (by decide)]; exact q4, by rw [xu_set_ne (by decide)]; exact q5, by rw [xu_set_ne (by decide)]; exact q6⟩
theorem xu_rel.rs (h : xu_rel a σ) (hi : i < 6) {v : Int32} : xu_rel (xu_set a 6 i v) (xm_srs σ i v) := by
  obtain ⟨q1, q2, q3, q4, q5, q6⟩ := h.2.2.1 i hi
  exact h.scn (by decide) (by decide) ⟨by rw [xu_set_ne (by decide)]; exact q1, by rw [xu_set_ne (by decide)]; exact q2, xu_set_eq, by rw [xu_set_ne (by decide)]; exact q4, by rw [xu_set_ne (by decide)]; exact q5, by rw [xu_set_ne (by decide)]; exact q6⟩
theorem xu_rel.av (h : xu_rel a σ) (hi : i < 6) {v : Bool} : xu_rel (xu_set a 7 i (xs_b v)) (xm_sav σ i v) := by
  obtain ⟨q1, q2, q3, q4, q5, q6⟩ := h.2.2.1 i hi
  exact h.scn (by decide) (by decide) ⟨by rw [xu_set_ne (by decide)]; exact q1, by rw [xu_set_ne (by decide)]; exact q2, by rw [xu_set_ne (by decide)]; exact q3, xu_set_eq, by rw [xu_set_ne (by decide)]; exact q5, by rw [xu_set_ne (by decide)]; exact q6⟩
theorem xu_rel.pr (h : xu_rel a σ) (hi : i < 6) {v : Int32} : xu_rel (xu_set a 8 i v) (xm_spr σ i v) := by
  obtain ⟨q1, q2, q3, q4, q5, q6⟩ := h.2.2.1 i hi
  exact h.scn (by decide) (by decide) ⟨by rw [xu_set_ne (by decide)]; exact q1, by rw [xu_set_ne (by decide)]; exact q2, by rw [xu_set_ne (by decide)]; exact q3, by rw [xu_set_ne (by decide)]; exact q4, xu_set_eq, by rw [xu_set_ne (by decide)]; exact q6⟩
theorem xu_rel.ch (h : xu_rel a σ) (hi : i < 6) {v : Int32} : xu_rel (xu_set a 9 i v) (xm_sch σ i v) := by
  obtain ⟨q1, q2, q3, q4, q5, q6⟩ := h.2.2.1 i hi
  exact h.scn (by decide) (by decide) ⟨by rw [xu_set_ne (by decide)]; exact q1, by rw [xu_set_ne (by decide)]; exact q2, by rw [xu_set_ne (by decide)]; exact q3, by rw [xu_set_ne (by decide)]; exact q4, by rw [xu_set_ne (by decide)]; exact q5, xu_set_eq⟩
theorem xu_rel.mk (h : xu_rel a σ) {j : Nat} (hj : j < 8) {v : Int32} : xu_rel (xu_set a 3 (8 * i + j) v) (xs_smk σ i j v) := by
  obtain ⟨h1, h2, h3, h4, h5, h6⟩ := h
  refine ⟨fun j hj => ?_, fun p m hp hm => ?_, fun j hj => (h3 j hj).cg (fun q q1 q2 => by rw [xu_set_ne (by omega)]), fun j hj => (h4 j hj).cg (fun q q1 q2 => xu_set_ne (by omega)), fun j hj => (h5 j hj).cg (fun q q1 q2 => xu_set_ne (by omega)), h6.cg (fun q q1 => xu_set_ne (by omega))⟩
  · rw [xu_set_ne (by decide), xu_set_ne (by decide)]
    exact h1 j hj
  · show _ = va_up (xs_mk σ) i (upd (xs_mk σ i) j v) p m
    by_cases e : p = i
    · subst e
      rw [va_up_self]
      by_cases e2 : m = j
      · subst e2
        rw [xu_set_eq]
        simp [upd]
      · rw [xu_set_nj (by omega)]
        simp only [upd, e2, if_false]
        exact h2 p m hp hm
    · rw [va_up_ne _ _ e, xu_set_nj (by omega)]
      exact h2 p m hp hm
theorem xu_rel.reg (h : xu_rel a σ) (hi : i < 8) {v : Bool} : xu_rel (xu_set a 1 i (xs_b v)) (xs_sac σ i (v, (xs_ac σ i).2)) := by
  obtain ⟨h1, h2, h3, h4, h5, h6⟩ := h
  refine ⟨fun j hj => ?_, fun p m hp hm => ?_, fun j hj => (h3 j hj).cg (fun q q1 q2 => by rw [xu_set_ne (by omega)]), fun j hj => (h4 j hj).cg (fun q q1 q2 => xu_set_ne (by omega)), fun j hj => (h5 j hj).cg (fun q q1 q2 => xu_set_ne (by omega)), h6.cg (fun q q1 => xu_set_ne (by omega))⟩
  · rw [xu_set_ne (by decide : 2 ≠ 1)]
    show _ = xs_b (va_up (xs_ac σ) i _ j).1 ∧ _ = (va_up (xs_ac σ) i _ j).2
    by_cases e : j = i
    · subst e
      rw [va_up_self, xu_set_eq]
      exact ⟨rfl, (h1 j hj).2⟩
    · rw [va_up_ne _ _ e, xu_set_nj e]
      exact h1 j hj
  · rw [xu_set_ne (by decide)]
    exact h2 p m hp hm
theorem xu_rel.pw (h : xu_rel a σ) (hi : i < 8) {v : Int32} : xu_rel (xu_set a 2 i v) (xs_sac σ i ((xs_ac σ i).1, v)) := by
  obtain ⟨h1, h2, h3, h4, h5, h6⟩ := h
  refine ⟨fun j hj => ?_, fun p m hp hm => ?_, fun j hj => (h3 j hj).cg (fun q q1 q2 => by rw [xu_set_ne (by omega)]), fun j hj => (h4 j hj).cg (fun q q1 q2 => xu_set_ne (by omega)), fun j hj => (h5 j hj).cg (fun q q1 q2 => xu_set_ne (by omega)), h6.cg (fun q q1 => xu_set_ne (by omega))⟩
  · rw [xu_set_ne (by decide : 1 ≠ 2)]
    show _ = xs_b (va_up (xs_ac σ) i _ j).1 ∧ _ = (va_up (xs_ac σ) i _ j).2
    by_cases e : j = i
    · subst e
      rw [va_up_self, xu_set_eq]
      exact ⟨(h1 j hj).1, rfl⟩
    · rw [va_up_ne _ _ e, xu_set_nj e]
      exact h1 j hj
  · rw [xu_set_ne (by decide)]
    exact h2 p m hp hm
/-- an inbox changes -/
theorem xu_rel.box (h : xu_rel a σ) (hi : i < 6) {w : Int32} (hb : xu_in b i l) (he : ∀ k, k < 10 ∨ 14 < k → b k = a k) (h14 : ∀ j, j ≠ i → b 14 j = a 14 j) (hx : ∀ k, 10 ≤ k → k ≤ 13 → ∀ j, j / 10 ≠ i → b k j = a k j) : xu_rel b (xs_sq σ (8 + i) l w) := by
  obtain ⟨h1, h2, h3, h4, h5, h6⟩ := h
  refine ⟨fun j hj => ?_, fun p m hp hm => ?_, fun j hj => (h3 j hj).cg (fun q q1 q2 => by rw [he q (by omega)]), fun j hj => ?_, fun j hj => ?_, ?_⟩
  · rw [he 1 (by decide), he 2 (by decide)]
    exact h1 j hj
  · rw [he 3 (by decide)]
    exact h2 p m hp hm
  · show xu_in b j (va_up (xs_q σ) (8 + i) l (8 + j))
    by_cases e : j = i
    · subst e
      rw [va_up_self]
      exact hb
    · rw [va_up_ne _ _ (by omega)]
      obtain ⟨q1, q2, q3⟩ := h4 j hj
      refine ⟨by rw [h14 j e]; exact q1, q2, fun m z hz => ?_⟩
      have hm : m < 10 := Nat.lt_of_lt_of_le (List.getElem?_eq_some_iff.mp hz).1 q2
      have hd : (10 * j + m) / 10 ≠ i := by omega
      rw [hx 10 (by decide) (by decide) _ hd, hx 11 (by decide) (by decide) _ hd, hx 12 (by decide) (by decide) _ hd, hx 13 (by decide) (by decide) _ hd]
      exact q3 m z hz
  · show xu_kp b j (va_up (xs_q σ) (8 + i) l j)
    rw [va_up_ne _ _ (by omega)]
    exact (h5 j hj).cg (fun q q1 q2 => he q (by omega))
  · show xu_wt b (va_up (xs_q σ) (8 + i) l 14)
    rw [va_up_ne _ _ (by omega)]
    exact h6.cg (fun q q1 => he q (by omega))
/-- what is kept for an account changes -/
theorem xu_rel.kept (h : xu_rel a σ) (hi : i < 8) {w : Int32} (hb : xu_kp b i l) (he : ∀ k, k < 15 ∨ 18 < k → b k = a k) (h18 : ∀ j, j ≠ i → b 18 j = a 18 j) (hx : ∀ k, 15 ≤ k → k ≤ 17 → ∀ j, j / 4 ≠ i → b k j = a k j) : xu_rel b (xs_sq σ i l w) := by
  obtain ⟨h1, h2, h3, h4, h5, h6⟩ := h
  refine ⟨fun j hj => ?_, fun p m hp hm => ?_, fun j hj => (h3 j hj).cg (fun q q1 q2 => by rw [he q (by omega)]), fun j hj => ?_, fun j hj => ?_, ?_⟩
  · rw [he 1 (by decide), he 2 (by decide)]
    exact h1 j hj
  · rw [he 3 (by decide)]
    exact h2 p m hp hm
  · show xu_in b j (va_up (xs_q σ) i l (8 + j))
    rw [va_up_ne _ _ (by omega)]
    exact (h4 j hj).cg (fun q q1 q2 => he q (by omega))
  · show xu_kp b j (va_up (xs_q σ) i l j)
    by_cases e : j = i
    · subst e
      rw [va_up_self]
      exact hb
    · rw [va_up_ne _ _ e]
      obtain ⟨q1, q2, q3⟩ := h5 j hj
      refine ⟨by rw [h18 j e]; exact q1, q2, fun m z hz => ?_⟩
      have hm : m < 4 := Nat.lt_of_lt_of_le (List.getElem?_eq_some_iff.mp hz).1 q2
      have hd : (4 * j + m) / 4 ≠ i := by omega
      rw [hx 15 (by decide) (by decide) _ hd, hx 16 (by decide) (by decide) _ hd, hx 17 (by decide) (by decide) _ hd]
      exact q3 m z hz
  · show xu_wt b (va_up (xs_q σ) i l 14)
    rw [va_up_ne _ _ (by omega)]
    exact h6.cg (fun q q1 => he q (by omega))
/-- what waits at the link changes -/
theorem xu_rel.wait (h : xu_rel a σ) {w : Int32} (hb : xu_wt b l) (he : ∀ k, k < 19 → b k = a k) : xu_rel b (xs_sq σ 14 l w) := by
  obtain ⟨h1, h2, h3, h4, h5, h6⟩ := h
  refine ⟨fun j hj => ?_, fun p m hp hm => ?_, fun j hj => (h3 j hj).cg (fun q q1 q2 => by rw [he q (by omega)]), fun j hj => ?_, fun j hj => ?_, ?_⟩
  · rw [he 1 (by decide), he 2 (by decide)]
    exact h1 j hj
  · rw [he 3 (by decide)]
    exact h2 p m hp hm
  · show xu_in b j (va_up (xs_q σ) 14 l (8 + j))
    rw [va_up_ne _ _ (by omega)]
    exact (h4 j hj).cg (fun q q1 q2 => he q (by omega))
  · show xu_kp b j (va_up (xs_q σ) 14 l j)
    rw [va_up_ne _ _ (by omega)]
    exact (h5 j hj).cg (fun q q1 q2 => he q (by omega))
  · show xu_wt b (va_up (xs_q σ) 14 l 14)
    rw [va_up_self]
    exact hb
end XU
