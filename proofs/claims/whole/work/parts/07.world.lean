/-! The cells of the system: where a state lies in the heap. Numbers of the kinds of objects: -/
abbrev xi_X : Nat := 4
abbrev xi_A : Nat := 0
abbrev xi_C : Nat := 1
abbrev xi_Q : Nat := 3
abbrev xi_Z : Nat := 2
abbrev xw_G : Type := va_G × (Nat → ClassId)
abbrev xw_tys (g : xw_G) : List (ClassId × FieldType) := [(g.2 0, .object R_A), (g.2 1, .object R_C), (g.2 2, .object R_Z), (g.2 3, .int), (g.2 4, .boolean), (g.2 5, .long)]
abbrev xw_K (g : xw_G) (U : State) : Prop := va_K g.1 vwCl (xw_tys g) U
/-- the block of an object: 56 cells, of which the second is the blank stanza, which nobody writes -/
def xw_B (o q : Nat) : Prop := o ≤ q ∧ q < o + 56 ∧ q ≠ o + 1
def xw_A (o sz q : Nat) : Prop := xw_B o q ∨ sz ≤ q
/-- nothing old has changed but in x -/
def xw_F (x : Nat → Prop) (H H1 : Heap) : Prop := H.size ≤ H1.size ∧ ∀ q : Nat, q < H.size → ¬ x q → H1[q]? = H[q]?
theorem xw_F.rf {x : Nat → Prop} {H : Heap} : xw_F x H H := ⟨Nat.le_refl _, fun _ _ _ => rfl⟩
theorem xw_F.tr {x : Nat → Prop} {H H1 H2 : Heap} (h : xw_F x H H1) (h2 : xw_F x H1 H2) : xw_F x H H2 := ⟨Nat.le_trans h.1 h2.1, fun q hq hx => (h2.2 q (Nat.lt_of_lt_of_le hq h.1) hx).trans (h.2 q hq hx)⟩
theorem xw_F.mono {x y : Nat → Prop} {H H1 : Heap} (h : xw_F x H H1) (hxy : ∀ q, x q → y q) : xw_F y H H1 := ⟨h.1, fun q hq hy => h.2 q hq (fun z => hy (hxy q z))⟩
theorem xw_F.put {H H1 : Heap} {a : Nat} (z : H1.size = H.size) (oq : ∀ q : Nat, q ≠ a → H1[q]? = H[q]?) : xw_F (fun q => q = a) H H1 := ⟨Nat.le_of_eq z.symm, fun q _ h => oq q h⟩
theorem xw_F.new {x : Nat → Prop} {H H1 : Heap} {n : Nat} (z : H1.size = H.size + n) (oq : ∀ q : Nat, q < H.size → H1[q]? = H[q]?) : xw_F x H H1 := ⟨by omega, fun q h _ => oq q h⟩
/-- after a call that may write the block and what is new -/
theorem xw_F.call {o : Nat} {H H1 : Heap} (z : H.size ≤ H1.size) (oq : ∀ q : Nat, q < H.size → ¬ xw_A o H.size q → H1[q]? = H[q]?) : xw_F (xw_B o) H H1 := ⟨z, fun q h hx => oq q h (fun y => y.elim hx (fun w => Nat.not_le.mpr h w))⟩
abbrev xw_r (f : Nat → Option Nat) : (Nat → Int32) ⊕ (Nat → Int64) ⊕ (Nat → UInt32) ⊕ (Nat → UInt64) ⊕ (Nat → Option Nat) := .inr (.inr (.inr (.inr f)))
abbrev xw_zF (z : xs_Z) : List Value := [.int z.1, .int z.2.1, .int z.2.2.1, .int z.2.2.2.1, .int z.2.2.2.2.1, .int z.2.2.2.2.2]
abbrev xw_cF (o i : Nat) (c : xs_C) : List Value := [.ref (o + xs_qo (8 + i)), .int c.1, .int c.2.1, .int c.2.2.1, .int c.2.2.2.1, .int c.2.2.2.2.1, .int (xs_b c.2.2.2.2.2)]
abbrev xw_aF (o i : Nat) (c : Bool × Int32) : List Value := [.ref (o + 4 + 4 * i), .ref (o + xs_qo i), .int (xs_b c.1), .int c.2]
abbrev xw_qF (o n k : Nat) (w : Int32) : List Value := [.ref (o + xs_qo n + 1), .int (nI k), .int w]
abbrev xw_xF (o : Nat) (u : Bool) (n : Int32) (v : Value) : List Value := [.ref (o + 2), .ref (o + 35), .ref (o + xs_qo 14), .int (xs_b u), .int n, v]
def xw_Z (g : xw_G) (B : Nat → Prop) (a : Nat) (z : xs_Z) (H : Heap) : Prop := va_at g.1 vwCl (a, .inr (xi_Z, xw_zF z)) H ∧ ¬ B a
def xw_L (g : xw_G) (B : Nat → Prop) (t : Option xs_Z) (v : Value) (H : Heap) : Prop := match t with
  | none => v = .null
  | some z => ∃ a : Nat, v = .ref a ∧ xw_Z g B a z H
def xw_QF (g : xw_G) (o n : Nat) (f : Nat → Option Nat) (k : Nat) (w : Int32) (H : Heap) : Prop :=
  va_at g.1 vwCl (o + xs_qo n, .inr (xi_Q, xw_qF o n k w)) H ∧ va_at g.1 vwCl (o + xs_qo n + 1, .inl (g.2 2, xs_rm n, xw_r f)) H
def xw_QL (g : xw_G) (B : Nat → Prop) (f : Nat → Option Nat) (l : List xs_Z) (H : Heap) : Prop := ∀ (j : Nat) (z : xs_Z), l[j]? = some z → ∃ a : Nat, f j = some a ∧ xw_Z g B a z H
def xw_Q (g : xw_G) (B : Nat → Prop) (o n : Nat) (l : List xs_Z) (w : Int32) (H : Heap) : Prop := ∃ f : Nat → Option Nat, xw_QF g o n f l.length w H ∧ l.length ≤ xs_rm n ∧ xw_QL g B f l H
def xw_R (g : xw_G) (B : Nat → Prop) (o : Nat) (σ : xs_S) (H : Heap) : Prop :=
  (∃ v : Value, va_at g.1 vwCl (o, .inr (xi_X, xw_xF o (xs_up σ) (xs_nx σ) v)) H ∧ xw_L g B (xs_lt σ) v H) ∧
  va_at g.1 vwCl (o + 2, .inl (g.2 0, 8, xw_r (fun i => some (o + 3 + 4 * i)))) H ∧
  va_at g.1 vwCl (o + 35, .inl (g.2 1, 6, xw_r (fun i => some (o + 36 + 3 * i)))) H ∧
  (∀ i, i < 8 → va_at g.1 vwCl (o + 3 + 4 * i, .inr (xi_A, xw_aF o i (xs_ac σ i))) H) ∧
  (∀ i, i < 8 → va_at g.1 vwCl (o + 4 + 4 * i, .inl (g.2 3, 8, .inl (xs_mk σ i))) H) ∧
  (∀ i, i < 6 → va_at g.1 vwCl (o + 36 + 3 * i, .inr (xi_C, xw_cF o i (xs_cn σ i))) H) ∧
  (∀ n, n < 15 → xw_Q g B o n (xs_q σ n) (xs_lo σ n) H) ∧
  (∀ q, xw_B o q → B q) ∧ (∀ q, B q → q < H.size)
theorem xw_qo1 (n : Nat) (h : n < 15) : (n < 8 ∧ xs_qo n = 5 + 4 * n) ∨ (8 ≤ n ∧ n < 14 ∧ xs_qo n + 24 = 37 + 3 * n) ∨ (n = 14 ∧ xs_qo n = 54) := by
  by_cases h1 : n < 8
  · exact Or.inl ⟨h1, by simp [xs_qo, h1]⟩
  · by_cases h2 : n < 14
    · exact Or.inr (Or.inl ⟨by omega, h2, by simp only [xs_qo, h1, h2, if_true, if_false]; omega⟩)
    · exact Or.inr (Or.inr ⟨by omega, by simp [xs_qo, h1, h2]⟩)
theorem xw_qo2 {n k : Nat} (hn : n < 15) (hk : k < 15) (h : n ≠ k) : xs_qo n ≠ xs_qo k ∧ xs_qo n ≠ xs_qo k + 1 ∧ xs_qo k ≠ xs_qo n + 1 := by
  have a := xw_qo1 n hn
  have b := xw_qo1 k hk
  omega
theorem xw_qo3 {n : Nat} (hn : n < 15) : 5 ≤ xs_qo n ∧ xs_qo n < 55 := by
  have a := xw_qo1 n hn
  omega
theorem xw_qo4 {n i : Nat} (hn : n < 15) (hi : i < 8) : xs_qo n ≠ 3 + 4 * i ∧ xs_qo n ≠ 4 + 4 * i ∧ xs_qo n + 1 ≠ 3 + 4 * i ∧ xs_qo n + 1 ≠ 4 + 4 * i := by
  have a := xw_qo1 n hn
  omega
theorem xw_qo5 {n i : Nat} (hn : n < 15) (hi : i < 6) : xs_qo n ≠ 36 + 3 * i ∧ xs_qo n + 1 ≠ 36 + 3 * i := by
  have a := xw_qo1 n hn
  omega
theorem xw_qo6 {n : Nat} (hn : n < 15) : xs_qo n ≠ 35 ∧ xs_qo n + 1 ≠ 35 ∧ xs_qo n ≠ 2 ∧ xs_qo n + 1 ≠ 2 ∧ xs_qo n ≠ 0 := by
  have a := xw_qo1 n hn
  omega
section XW
variable {g : xw_G} {B : Nat → Prop} {o : Nat} {σ : xs_S} {H H1 : Heap} {x : Nat → Prop}
theorem xw_at {q : Nat × va_E} (h : va_at g.1 vwCl q H) (hF : xw_F x H H1) (hx : ¬ x q.1) : va_at g.1 vwCl q H1 := h.kept (hF.2 q.1 h.lt hx)
theorem xw_Z.F {a : Nat} {z : xs_Z} (h : xw_Z g B a z H) (hx : ∀ q, x q → B q) (hF : xw_F x H H1) : xw_Z g B a z H1 := ⟨xw_at h.1 hF (fun q => h.2 (hx a q)), h.2⟩
theorem xw_L.F {t : Option xs_Z} {v : Value} (h : xw_L g B t v H) (hx : ∀ q, x q → B q) (hF : xw_F x H H1) : xw_L g B t v H1 := by
  cases t with
  | none => exact h
  | some z =>
    obtain ⟨a, h1, h2⟩ := h
    exact ⟨a, h1, h2.F hx hF⟩
theorem xw_QL.F {f : Nat → Option Nat} {l : List xs_Z} (h : xw_QL g B f l H) (hx : ∀ q, x q → B q) (hF : xw_F x H H1) : xw_QL g B f l H1 := fun j z hj => by
  obtain ⟨a, h1, h2⟩ := h j z hj
  exact ⟨a, h1, h2.F hx hF⟩
theorem xw_QF.F {n k : Nat} {f : Nat → Option Nat} {w : Int32} (h : xw_QF g o n f k w H) (hF : xw_F x H H1) (h1 : ¬ x (o + xs_qo n)) (h2 : ¬ x (o + xs_qo n + 1)) : xw_QF g o n f k w H1 := ⟨xw_at h.1 hF h1, xw_at h.2 hF h2⟩
theorem xw_Q.F {n : Nat} {l : List xs_Z} {w : Int32} (h : xw_Q g B o n l w H) (hx : ∀ q, x q → B q) (hF : xw_F x H H1) (h1 : ¬ x (o + xs_qo n)) (h2 : ¬ x (o + xs_qo n + 1)) : xw_Q g B o n l w H1 := by
  obtain ⟨f, a, b, d⟩ := h
  exact ⟨f, a.F hF h1 h2, b, d.F hx hF⟩
/-- the heap has grown, nothing of the block was written -/
theorem xw_R.grow (h : xw_R g B o σ H) (hF : xw_F (fun _ => False) H H1) : xw_R g B o σ H1 := by
  obtain ⟨⟨v, h1, h2⟩, h3, h4, h5, h6, h7, h8, h9, h10⟩ := h
  have hx : ∀ q, (fun _ : Nat => False) q → B q := fun _ e => e.elim
  exact ⟨⟨v, xw_at h1 hF (fun z => z), h2.F hx hF⟩, xw_at h3 hF (fun z => z), xw_at h4 hF (fun z => z), fun i hi => xw_at (h5 i hi) hF (fun z => z), fun i hi => xw_at (h6 i hi) hF (fun z => z), fun i hi => xw_at (h7 i hi) hF (fun z => z), fun n hn' => (h8 n hn').F hx hF (fun z => z) (fun z => z), h9, fun q hq => Nat.lt_of_lt_of_le (h10 q hq) hF.1⟩
theorem xw_R.setC (h : xw_R g B o σ H) {i : Nat} (hi : i < 6) {c : xs_C} (hF : xw_F (fun q => q = o + 36 + 3 * i) H H1) (hat : va_at g.1 vwCl (o + 36 + 3 * i, .inr (xi_C, xw_cF o i c)) H1) : xw_R g B o (xs_scn σ i c) H1 := by
  obtain ⟨⟨v, h1, h2⟩, h3, h4, h5, h6, h7, h8, h9, h10⟩ := h
  have hx : ∀ q, (fun q : Nat => q = o + 36 + 3 * i) q → B q := fun q e => h9 q (by dsimp only at e; unfold xw_B; omega)
  refine ⟨⟨v, xw_at h1 hF (by (try dsimp only); omega), h2.F hx hF⟩, xw_at h3 hF (by (try dsimp only); omega), xw_at h4 hF (by (try dsimp only); omega), fun j hj => xw_at (h5 j hj) hF (by (try dsimp only); omega), fun j hj => xw_at (h6 j hj) hF (by (try dsimp only); omega), fun j hj => ?_, fun n hn => (h8 n hn).F hx hF ?_ ?_, h9, fun q hq => Nat.lt_of_lt_of_le (h10 q hq) hF.1⟩
  · show va_at g.1 vwCl (o + 36 + 3 * j, .inr (xi_C, xw_cF o j (va_up (xs_cn σ) i c j))) H1
    by_cases e : j = i
    · subst e
      rw [va_up_self]
      exact hat
    · rw [va_up_ne _ _ e]
      exact xw_at (h7 j hj) hF (by (try dsimp only); omega)
  · have := xw_qo5 hn hi
    (try dsimp only)
    omega
  · have := xw_qo5 hn hi
    (try dsimp only)
    omega
theorem xw_R.setA (h : xw_R g B o σ H) {i : Nat} (hi : i < 8) {c : Bool × Int32} (hF : xw_F (fun q => q = o + 3 + 4 * i) H H1) (hat : va_at g.1 vwCl (o + 3 + 4 * i, .inr (xi_A, xw_aF o i c)) H1) : xw_R g B o (xs_sac σ i c) H1 := by
  obtain ⟨⟨v, h1, h2⟩, h3, h4, h5, h6, h7, h8, h9, h10⟩ := h
  have hx : ∀ q, (fun q : Nat => q = o + 3 + 4 * i) q → B q := fun q e => h9 q (by dsimp only at e; unfold xw_B; omega)
  refine ⟨⟨v, xw_at h1 hF (by (try dsimp only); omega), h2.F hx hF⟩, xw_at h3 hF (by (try dsimp only); omega), xw_at h4 hF (by (try dsimp only); omega), fun j hj => ?_, fun j hj => xw_at (h6 j hj) hF (by (try dsimp only); omega), fun j hj => xw_at (h7 j hj) hF (by (try dsimp only); omega), fun n hn => (h8 n hn).F hx hF ?_ ?_, h9, fun q hq => Nat.lt_of_lt_of_le (h10 q hq) hF.1⟩
  · show va_at g.1 vwCl (o + 3 + 4 * j, .inr (xi_A, xw_aF o j (va_up (xs_ac σ) i c j))) H1
    by_cases e : j = i
    · subst e
      rw [va_up_self]
      exact hat
    · rw [va_up_ne _ _ e]
      exact xw_at (h5 j hj) hF (by (try dsimp only); omega)
  · have := xw_qo4 hn hi
    (try dsimp only)
    omega
  · have := xw_qo4 hn hi
    (try dsimp only)
    omega
theorem xw_R.setM (h : xw_R g B o σ H) {i k : Nat} (hi : i < 8) {w : Int32} (hF : xw_F (fun q => q = o + 4 + 4 * i) H H1) (hat : va_at g.1 vwCl (o + 4 + 4 * i, .inl (g.2 3, 8, .inl (upd (xs_mk σ i) k w))) H1) : xw_R g B o (xs_smk σ i k w) H1 := by
  obtain ⟨⟨v, h1, h2⟩, h3, h4, h5, h6, h7, h8, h9, h10⟩ := h
  have hx : ∀ q, (fun q : Nat => q = o + 4 + 4 * i) q → B q := fun q e => h9 q (by dsimp only at e; unfold xw_B; omega)
  refine ⟨⟨v, xw_at h1 hF (by (try dsimp only); omega), h2.F hx hF⟩, xw_at h3 hF (by (try dsimp only); omega), xw_at h4 hF (by (try dsimp only); omega), fun j hj => xw_at (h5 j hj) hF (by (try dsimp only); omega), fun j hj => ?_, fun j hj => xw_at (h7 j hj) hF (by (try dsimp only); omega), fun n hn => (h8 n hn).F hx hF ?_ ?_, h9, fun q hq => Nat.lt_of_lt_of_le (h10 q hq) hF.1⟩
  · show va_at g.1 vwCl (o + 4 + 4 * j, .inl (g.2 3, 8, .inl (va_up (xs_mk σ) i (upd (xs_mk σ i) k w) j))) H1
    by_cases e : j = i
    · subst e
      rw [va_up_self]
      exact hat
    · rw [va_up_ne _ _ e]
      exact xw_at (h6 j hj) hF (by (try dsimp only); omega)
  · have := xw_qo4 hn hi
    (try dsimp only)
    omega
  · have := xw_qo4 hn hi
    (try dsimp only)
    omega
theorem xw_R.setG (h : xw_R g B o σ H) {u : Bool} {n : Int32} {t : Option xs_Z} {v : Value} (hF : xw_F (fun q => q = o) H H1) (hat : va_at g.1 vwCl (o, .inr (xi_X, xw_xF o u n v)) H1) (hL : xw_L g B t v H) : xw_R g B o (xs_sg σ u n t) H1 := by
  obtain ⟨⟨v0, h1, h2⟩, h3, h4, h5, h6, h7, h8, h9, h10⟩ := h
  have hx : ∀ q, (fun q : Nat => q = o) q → B q := fun q e => h9 q (by dsimp only at e; unfold xw_B; omega)
  refine ⟨⟨v, hat, hL.F hx hF⟩, xw_at h3 hF (by (try dsimp only); omega), xw_at h4 hF (by (try dsimp only); omega), fun j hj => xw_at (h5 j hj) hF (by (try dsimp only); omega), fun j hj => xw_at (h6 j hj) hF (by (try dsimp only); omega), fun j hj => xw_at (h7 j hj) hF (by (try dsimp only); omega), fun n hn => (h8 n hn).F hx hF ?_ ?_, h9, fun q hq => Nat.lt_of_lt_of_le (h10 q hq) hF.1⟩
  · have := xw_qo3 hn
    (try dsimp only)
    omega
  · have := xw_qo3 hn
    (try dsimp only)
    omega
theorem xw_R.setQ (h : xw_R g B o σ H) {n : Nat} (hn : n < 15) {l : List xs_Z} {w : Int32} {f : Nat → Option Nat} (hF : xw_F (fun q => q = o + xs_qo n ∨ q = o + xs_qo n + 1) H H1) (hq : xw_QF g o n f l.length w H1) (hl : l.length ≤ xs_rm n) (hz : xw_QL g B f l H) : xw_R g B o (xs_sq σ n l w) H1 := by
  obtain ⟨⟨v, h1, h2⟩, h3, h4, h5, h6, h7, h8, h9, h10⟩ := h
  have q3 := xw_qo3 hn
  have q6 := xw_qo6 hn
  have hx : ∀ q, (fun q : Nat => q = o + xs_qo n ∨ q = o + xs_qo n + 1) q → B q := fun q e => h9 q (by dsimp only at e; unfold xw_B; omega)
  refine ⟨⟨v, xw_at h1 hF (by (try dsimp only); omega), h2.F hx hF⟩, xw_at h3 hF (by (try dsimp only); omega), xw_at h4 hF (by (try dsimp only); omega), fun j hj => xw_at (h5 j hj) hF (by have := xw_qo4 hn hj; (try dsimp only); omega), fun j hj => xw_at (h6 j hj) hF (by have := xw_qo4 hn hj; (try dsimp only); omega), fun j hj => xw_at (h7 j hj) hF (by have := xw_qo5 hn hj; (try dsimp only); omega), fun k hk => ?_, h9, fun q hq => Nat.lt_of_lt_of_le (h10 q hq) hF.1⟩
  show xw_Q g B o k (va_up (xs_q σ) n l k) (va_up (xs_lo σ) n w k) H1
  by_cases e : k = n
  · subst e
    rw [va_up_self, va_up_self]
    exact ⟨f, hq, hl, hz.F hx hF⟩
  · rw [va_up_ne _ _ e, va_up_ne _ _ e]
    have := xw_qo2 hk hn e
    exact (h8 k hk).F hx hF (by (try dsimp only); omega) (by (try dsimp only); omega)
end XW
