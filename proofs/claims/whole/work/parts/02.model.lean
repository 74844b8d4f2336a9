/-! What a state of the system IS: a mathematical value, and what each method does to it. -/
/-- a stanza: kind, from, resource, value, to, target -/
abbrev xs_Z : Type := Int32 × Int32 × Int32 × Int32 × Int32 × Int32
/-- a connection: stage, account, resource, priority, challenge, available -/
abbrev xs_C : Type := Int32 × Int32 × Int32 × Int32 × Int32 × Bool
/-- accounts (registered, password), marks, connections, the fifteen queues (0 to 7 kept, 8 to 13 inboxes, 14 waiting), their losses, link, next challenge, taken last -/
abbrev xs_S : Type := (Nat → Bool × Int32) × (Nat → Nat → Int32) × (Nat → xs_C) × (Nat → List xs_Z) × (Nat → Int32) × Bool × Int32 × Option xs_Z
def xs_b (b : Bool) : Int32 := if b = true then 1 else 0
theorem xs_b0 {b : Bool} (h : xs_b b = 0) : b = false := by cases b <;> first | rfl | (exact absurd h (by decide))
theorem xs_b1 {b : Bool} (h : ¬ xs_b b = 0) : b = true := by cases b <;> first | rfl | (exact absurd rfl h)
def xs_ac (σ : xs_S) : Nat → Bool × Int32 := σ.1
def xs_mk (σ : xs_S) : Nat → Nat → Int32 := σ.2.1
def xs_cn (σ : xs_S) : Nat → xs_C := σ.2.2.1
def xs_q (σ : xs_S) : Nat → List xs_Z := σ.2.2.2.1
def xs_lo (σ : xs_S) : Nat → Int32 := σ.2.2.2.2.1
def xs_up (σ : xs_S) : Bool := σ.2.2.2.2.2.1
def xs_nx (σ : xs_S) : Int32 := σ.2.2.2.2.2.2.1
def xs_lt (σ : xs_S) : Option xs_Z := σ.2.2.2.2.2.2.2
def xs_sac (σ : xs_S) (i : Nat) (v : Bool × Int32) : xs_S := (va_up (xs_ac σ) i v, xs_mk σ, xs_cn σ, xs_q σ, xs_lo σ, xs_up σ, xs_nx σ, xs_lt σ)
def xs_smk (σ : xs_S) (i j : Nat) (v : Int32) : xs_S := (xs_ac σ, va_up (xs_mk σ) i (upd (xs_mk σ i) j v), xs_cn σ, xs_q σ, xs_lo σ, xs_up σ, xs_nx σ, xs_lt σ)
def xs_scn (σ : xs_S) (i : Nat) (v : xs_C) : xs_S := (xs_ac σ, xs_mk σ, va_up (xs_cn σ) i v, xs_q σ, xs_lo σ, xs_up σ, xs_nx σ, xs_lt σ)
def xs_sq (σ : xs_S) (n : Nat) (l : List xs_Z) (w : Int32) : xs_S := (xs_ac σ, xs_mk σ, xs_cn σ, va_up (xs_q σ) n l, va_up (xs_lo σ) n w, xs_up σ, xs_nx σ, xs_lt σ)
def xs_sg (σ : xs_S) (u : Bool) (n : Int32) (t : Option xs_Z) : xs_S := (xs_ac σ, xs_mk σ, xs_cn σ, xs_q σ, xs_lo σ, u, n, t)
/-- the offset of a queue in the block of cells, and its room -/
def xs_qo (n : Nat) : Nat := if n < 8 then 5 + 4 * n else if n < 14 then 37 + 3 * (n - 8) else 54
def xs_rm (n : Nat) : Nat := if n < 8 then 4 else if n < 14 then 10 else 8
def xs_z0 : xs_Z := (0, -1, -1, 0, -1, -1)
def xs_ix (x : Int32) : Nat := x.toNatClampNeg
-- queues
def xm_add (σ : xs_S) (n : Nat) (z : xs_Z) : xs_S := if (xs_q σ n).length < xs_rm n then xs_sq σ n (xs_q σ n ++ [z]) (xs_lo σ n) else xs_sq σ n (xs_q σ n) (xs_lo σ n + 1)
def xm_pop (σ : xs_S) (n : Nat) : xs_S := xs_sq σ n (xs_q σ n).tail (xs_lo σ n)
def xm_full (σ : xs_S) (n : Nat) : Bool := decide (xs_rm n ≤ (xs_q σ n).length)
def xm_clear (σ : xs_S) (n : Nat) : xs_S := xs_sq σ n [] (xs_lo σ n)
-- marks
def xm_has (σ : xs_S) (a b : Nat) (w : Int32) : Bool := decide (¬ xs_mk σ a b &&& w = 0)
def xm_mark (σ : xs_S) (a b : Nat) (w : Int32) : xs_S := xs_smk σ a b (xs_mk σ a b ||| w)
def xm_drop (σ : xs_S) (a b : Nat) (w : Int32) : xs_S := xs_smk σ a b (xs_mk σ a b &&& (w ^^^ (-1)))
-- who is there
def xm_av (σ : xs_S) (i : Nat) (w : Int32) : Bool := (xs_cn σ i).2.2.2.2.2 && decide ((xs_cn σ i).2.1 = w)
def xm_one (f t : Int32) : Bool := decide (4 ≤ f) == decide (4 ≤ t)
def xm_reach (σ : xs_S) (f t : Int32) : Bool := xs_up σ || xm_one f t
def xm_bw : Nat → Nat → xs_S → Int32 → Int32 → Option Nat
  | 0, _, _, _, _ => none
  | n + 1, i, σ, a, r => if (xs_cn σ i).1 = 4 ∧ (xs_cn σ i).2.1 = a ∧ (xs_cn σ i).2.2.1 = r then some i else xm_bw n (i + 1) σ a r
def xm_great : Nat → Nat → xs_S → Int32 → Int32 → Int32
  | 0, _, _, _, g => g
  | n + 1, i, σ, a, g => xm_great n (i + 1) σ a (if xm_av σ i a = true ∧ ¬ (xs_cn σ i).2.2.2.1 ≤ g then (xs_cn σ i).2.2.2.1 else g)
-- giving
def xm_give : Nat → Nat → xs_S → xs_Z → xs_S
  | 0, _, σ, _ => σ
  | n + 1, i, σ, z => xm_give n (i + 1) (if xm_av σ i z.2.2.2.2.1 = true then xm_add σ (8 + i) z else σ) z
def xm_gp : Nat → Nat → xs_S → xs_Z → Int32 → xs_S
  | 0, _, σ, _, _ => σ
  | n + 1, i, σ, z, p => xm_gp n (i + 1) (if xm_av σ i z.2.2.2.2.1 = true ∧ (xs_cn σ i).2.2.2.1 = p then xm_add σ (8 + i) z else σ) z p
def xm_err (σ : xs_S) (z : xs_Z) : xs_S := xm_give 6 0 σ (8, z.2.2.2.2.1, -1, z.2.2.2.1, z.2.1, -1)
-- arriving
def xm_msg2 (σ : xs_S) (z : xs_Z) : xs_S :=
  if ¬ xm_great 6 0 σ z.2.2.2.2.1 (-1) < 0 then xm_gp 6 0 σ z (xm_great 6 0 σ z.2.2.2.2.1 (-1))
  else if (xs_ac σ (xs_ix z.2.2.2.2.1)).1 = true ∧ xm_full σ (xs_ix z.2.2.2.2.1) = false then xm_add σ (xs_ix z.2.2.2.2.1) z
  else xm_err σ z
def xm_msg (σ : xs_S) (z : xs_Z) : xs_S := match xm_bw 6 0 σ z.2.2.2.2.1 z.2.2.2.2.2 with
  | none => xm_msg2 σ z
  | some i => if (xs_cn σ i).2.2.2.2.2 = true then xm_add σ (8 + i) z else xm_msg2 σ z
def xm_grant (σ : xs_S) (z : xs_Z) : xs_S :=
  if xm_has σ (xs_ix z.2.2.2.2.1) (xs_ix z.2.1) 4 = true then xm_give 6 0 (xm_drop (xm_mark σ (xs_ix z.2.2.2.2.1) (xs_ix z.2.1) 1) (xs_ix z.2.2.2.2.1) (xs_ix z.2.1) 4) z else σ
def xm_ask (σ : xs_S) (z : xs_Z) : xs_S :=
  if xm_has σ (xs_ix z.2.2.2.2.1) (xs_ix z.2.1) 2 = true then xm_grant σ (5, z.2.2.2.2.1, -1, 0, z.2.1, -1)
  else if (xs_ac σ (xs_ix z.2.2.2.2.1)).1 = true then xm_give 6 0 (xm_mark σ (xs_ix z.2.2.2.2.1) (xs_ix z.2.1) 8) z
  else σ
def xm_end (σ : xs_S) (z : xs_Z) (w : Int32) : xs_S :=
  if xm_has σ (xs_ix z.2.2.2.2.1) (xs_ix z.2.1) w = true then xm_give 6 0 (xm_drop σ (xs_ix z.2.2.2.2.1) (xs_ix z.2.1) w) z else σ
def xm_arr (σ : xs_S) (z : xs_Z) : xs_S :=
  if z.1 = 1 then xm_msg σ z
  else if z.1 = 4 then xm_ask σ z
  else if z.1 = 5 then xm_grant σ z
  else if z.1 = 6 then xm_end σ z 10
  else if z.1 = 7 then xm_end σ z 5
  else if z.1 = 2 ∨ z.1 = 3 then (if xm_has σ (xs_ix z.2.2.2.2.1) (xs_ix z.2.1) 1 = true then xm_give 6 0 σ z else σ)
  else σ
def xm_send (σ : xs_S) (z : xs_Z) : xs_S :=
  if xm_reach σ z.2.1 z.2.2.2.2.1 = true then xm_arr σ z
  else if xm_full σ 14 = false then xm_add σ 14 z
  else if z.1 = 1 then xm_err σ z
  else σ
-- presences
def xm_pres (σ : xs_S) (i : Nat) (k t : Int32) : xs_Z := (k, (xs_cn σ i).2.1, (xs_cn σ i).2.2.1, (if k = 2 then (xs_cn σ i).2.2.2.1 else 0), t, -1)
def xm_stw : Nat → Nat → xs_S → Nat → Nat → Int32 → xs_S
  | 0, _, σ, _, _, _ => σ
  | n + 1, j, σ, a, i, k => xm_stw n (j + 1) (if xm_has σ a j 2 = true then xm_send σ (xm_pres σ i k (nI j)) else σ) a i k
def xm_sp : Nat → Nat → xs_S → Int32 → Int32 → Int32 → xs_S
  | 0, _, σ, _, _, _ => σ
  | n + 1, i, σ, a, t, k => xm_sp n (i + 1) (if xm_av σ i a = true then xm_send σ (xm_pres σ i k t) else σ) a t k
def xm_sco : Nat → Nat → xs_S → Int32 → Nat → xs_S
  | 0, _, σ, _, _ => σ
  | n + 1, i, σ, w, c => xm_sco n (i + 1) (if xm_av σ i w = true then xm_add σ (8 + c) (xm_pres σ i 2 (xs_cn σ c).2.1) else σ) w c
def xm_so : Nat → Nat → xs_S → Nat → Nat → xs_S
  | 0, _, σ, _, _ => σ
  | n + 1, j, σ, a, c => xm_so n (j + 1) (if xm_has σ a j 1 = true ∧ xm_reach σ (xs_cn σ c).2.1 (nI j) = true then xm_sco 6 0 σ (nI j) c else σ) a c
def xm_hk : Nat → xs_S → Nat → Nat → xs_S
  | 0, σ, _, _ => σ
  | n + 1, σ, a, c => xm_hk n (xm_add (xm_pop σ a) (8 + c) ((xs_q σ a).headD xs_z0)) a c
def xm_com (σ : xs_S) (a b : Nat) (k : Int32) : xs_S :=
  if k = 4 then (if xm_has σ a b 1 = true then σ else xm_mark σ a b 4)
  else if k = 5 then xm_drop (xm_mark σ a b 2) a b 8
  else if k = 6 then xm_drop σ a b 5
  else if k = 7 then xm_drop σ a b 10
  else σ
def xm_sav (σ : xs_S) (i : Nat) (b : Bool) : xs_S := xs_scn σ i ((xs_cn σ i).1, (xs_cn σ i).2.1, (xs_cn σ i).2.2.1, (xs_cn σ i).2.2.2.1, (xs_cn σ i).2.2.2.2.1, b)
def xm_sst (σ : xs_S) (i : Nat) (v : Int32) : xs_S := xs_scn σ i (v, (xs_cn σ i).2)
def xm_sacc (σ : xs_S) (i : Nat) (v : Int32) : xs_S := xs_scn σ i ((xs_cn σ i).1, v, (xs_cn σ i).2.2)
def xm_srs (σ : xs_S) (i : Nat) (v : Int32) : xs_S := xs_scn σ i ((xs_cn σ i).1, (xs_cn σ i).2.1, v, (xs_cn σ i).2.2.2)
def xm_spr (σ : xs_S) (i : Nat) (v : Int32) : xs_S := xs_scn σ i ((xs_cn σ i).1, (xs_cn σ i).2.1, (xs_cn σ i).2.2.1, v, (xs_cn σ i).2.2.2.2)
def xm_sch (σ : xs_S) (i : Nat) (v : Int32) : xs_S := xs_scn σ i ((xs_cn σ i).1, (xs_cn σ i).2.1, (xs_cn σ i).2.2.1, (xs_cn σ i).2.2.2.1, v, (xs_cn σ i).2.2.2.2.2)
def xm_quiet (σ : xs_S) (i : Nat) : xs_S := if (xs_cn σ i).2.2.2.2.2 = true then xm_stw 8 0 (xm_sav σ i false) (xs_ix (xs_cn σ i).2.1) i 3 else σ
def xm_shut (σ : xs_S) (i : Nat) : xs_S := xm_srs (xm_sacc (xm_sst (xm_quiet σ i) i 0) i (-1)) i (-1)
def xm_lk : Nat → xs_S → xs_S
  | 0, σ => σ
  | n + 1, σ => xm_lk n (xm_arr (xm_pop σ 14) ((xs_q σ 14).headD xs_z0))
def xm_in8 (a : Int32) : Bool := decide (¬ a < 0 ∧ ¬ 8 ≤ a)
def xm_in6 (a : Int32) : Bool := decide (¬ a < 0 ∧ ¬ 6 ≤ a)
def xm_proof (σ : xs_S) (i : Nat) (p : Int32) : Bool :=
  (xs_ac σ (xs_ix (xs_cn σ i).2.1)).1 && decide (p = ((xs_ac σ (xs_ix (xs_cn σ i).2.1)).2 * 31 + (xs_cn σ i).2.2.2.2.1) - ((xs_ac σ (xs_ix (xs_cn σ i).2.1)).2 * 31 + (xs_cn σ i).2.2.2.2.1) / 10007 * 10007)
def xm_kall : Nat → Nat → xs_S → Int32 → Int32
  | 0, _, _, w => w
  | n + 1, i, σ, w => xm_kall n (i + 1) σ (w + nI (xs_q σ i).length)
def xm_lall : Nat → Nat → xs_S → Int32 → Int32
  | 0, _, _, w => w
  | n + 1, i, σ, w => xm_lall n (i + 1) σ (w + xs_lo σ (8 + i))
def xm_bwV (o : Nat) (r : Option Nat) (v : Value) : Prop := match r with
  | none => v = .null
  | some i => v = .ref (o + 36 + 3 * i) ∧ i < 6
theorem xs_ixl {x : Int32} {n : Nat} (h : vp_in x n) : xs_ix x < n := Nat.not_le.mp fun q => h (Or.inr q)
theorem xs_8 {i : Nat} (h : i < 6) : 8 + i < 15 := by omega
theorem xm_in8t {a : Int32} (h : xm_in8 a = true) : vp_in a 8 := by
  have h := of_decide_eq_true h
  obtain ⟨j, hj, rfl⟩ := nI_of h.1
  refine vp_in_nI (Nat.not_le.mp fun q => h.2 ?_) (by decide)
  exact nI_le q hj
theorem xm_in6t {a : Int32} (h : xm_in6 a = true) : vp_in a 6 := by
  have h := of_decide_eq_true h
  obtain ⟨j, hj, rfl⟩ := nI_of h.1
  refine vp_in_nI (Nat.not_le.mp fun q => h.2 ?_) (by decide)
  exact nI_le q hj
-- the face: code (0 answers; 1 argument, 2 state, 3 unsupported, 4 no such element), answer, state
def xp_register (σ : xs_S) (a p : Int32) : Nat × Int32 × xs_S :=
  if xm_in8 a = true ∧ ¬ p < 0 ∧ ¬ 9999 < p then (if (xs_ac σ (xs_ix a)).1 = true then (2, 0, σ) else (0, 1, xs_sac σ (xs_ix a) (true, p))) else (1, 0, σ)
def xp_connect (σ : xs_S) (c : Int32) : Nat × Int32 × xs_S :=
  if xm_in6 c = true then (if (xs_cn σ (xs_ix c)).1 = 0 then (0, 1, xm_clear (xm_sst σ (xs_ix c) 1) (8 + xs_ix c)) else (2, 0, σ)) else (1, 0, σ)
def xp_login1 (σ : xs_S) (i : Nat) (a : Int32) : xs_S := xm_sch (xm_sacc (xm_sst σ i 2) i a) i (xs_nx σ)
def xp_login (σ : xs_S) (c a : Int32) : Nat × Int32 × xs_S :=
  if xm_in6 c = true ∧ xm_in8 a = true then (if (xs_cn σ (xs_ix c)).1 = 1 then (0, xs_nx σ, xs_sg (xp_login1 σ (xs_ix c) a) (xs_up σ) ((xs_nx σ + 7919) - (xs_nx σ + 7919) / 10000 * 10000) (xs_lt σ)) else (2, 0, σ)) else (1, 0, σ)
def xp_prove (σ : xs_S) (c p : Int32) : Nat × Int32 × xs_S :=
  if xm_in6 c = true then (if (xs_cn σ (xs_ix c)).1 = 2 then (if xm_proof σ (xs_ix c) p = true then (0, 1, xm_sst σ (xs_ix c) 3) else (3, 0, xm_sacc (xm_sst σ (xs_ix c) 1) (xs_ix c) (-1))) else (2, 0, σ)) else (1, 0, σ)
def xp_bind1 (σ : xs_S) (i : Nat) (r : Int32) : xs_S := xm_srs (xm_sst σ i 4) i r
def xp_bind (σ : xs_S) (c r : Int32) : Nat × Int32 × xs_S :=
  if xm_in6 c = true ∧ ¬ r < 0 ∧ ¬ 3 ≤ r then (if (xs_cn σ (xs_ix c)).1 = 3 then (match xm_bw 6 0 σ (xs_cn σ (xs_ix c)).2.1 r with
    | none => (0, 0, xp_bind1 σ (xs_ix c) r)
    | some k => (0, 1, xp_bind1 (xm_shut σ k) (xs_ix c) r)) else (2, 0, σ)) else (1, 0, σ)
def xp_here1 (σ : xs_S) (i : Nat) (p : Int32) : xs_S := xm_stw 8 0 (xm_spr (xm_sav σ i true) i p) (xs_ix (xs_cn σ i).2.1) i 2
def xp_here2 (σ : xs_S) (i : Nat) (p : Int32) : xs_S :=
  if p < 0 then xm_so 8 0 (xp_here1 σ i p) (xs_ix (xs_cn σ i).2.1) i
  else xm_hk (xs_q (xm_so 8 0 (xp_here1 σ i p) (xs_ix (xs_cn σ i).2.1) i) (xs_ix (xs_cn σ i).2.1)).length (xm_so 8 0 (xp_here1 σ i p) (xs_ix (xs_cn σ i).2.1) i) (xs_ix (xs_cn σ i).2.1) i
def xp_here3 (σ : xs_S) (i : Nat) (p : Int32) : xs_S := if (xs_cn σ i).2.2.2.2.2 = true then xp_here1 σ i p else xp_here2 σ i p
def xp_here (σ : xs_S) (c p : Int32) : Nat × Int32 × xs_S :=
  if xm_in6 c = true ∧ ¬ p < (-3) ∧ ¬ 3 < p then (if (xs_cn σ (xs_ix c)).1 = 4 then (0, nI (xs_q (xp_here3 σ (xs_ix c) p) (8 + xs_ix c)).length, xp_here3 σ (xs_ix c) p) else (2, 0, σ)) else (1, 0, σ)
def xp_gone (σ : xs_S) (c : Int32) : Nat × Int32 × xs_S :=
  if xm_in6 c = true then (if (xs_cn σ (xs_ix c)).2.2.2.2.2 = true then (0, 1, xm_stw 8 0 (xm_sav σ (xs_ix c) false) (xs_ix (xs_cn σ (xs_ix c)).2.1) (xs_ix c) 3) else (2, 0, σ)) else (1, 0, σ)
def xp_close (σ : xs_S) (c : Int32) : Nat × Int32 × xs_S :=
  if xm_in6 c = true then (if (xs_cn σ (xs_ix c)).1 = 0 then (2, 0, σ) else (0, (xs_cn σ (xs_ix c)).1, xm_shut σ (xs_ix c))) else (1, 0, σ)
def xp_message (σ : xs_S) (c a r b : Int32) : Nat × Int32 × xs_S :=
  if xm_in6 c = true ∧ xm_in8 a = true ∧ ¬ r < (-1) ∧ ¬ 3 ≤ r then (if (xs_cn σ (xs_ix c)).1 = 4 then (0, 1, xm_send σ (1, (xs_cn σ (xs_ix c)).2.1, (xs_cn σ (xs_ix c)).2.2.1, b, a, r)) else (2, 0, σ)) else (1, 0, σ)
def xp_sub1 (σ : xs_S) (i : Nat) (a k : Int32) : xs_S := if k = 7 ∧ xm_has σ (xs_ix (xs_cn σ i).2.1) (xs_ix a) 2 = true then xm_sp 6 0 σ (xs_cn σ i).2.1 a 3 else σ
def xp_sub2 (σ : xs_S) (i : Nat) (a k : Int32) : xs_S := xm_send (xm_com (xp_sub1 σ i a k) (xs_ix (xs_cn σ i).2.1) (xs_ix a) k) (k, (xs_cn σ i).2.1, -1, 0, a, -1)
def xp_sub3 (σ : xs_S) (i : Nat) (a k : Int32) : xs_S := if k = 5 then xm_sp 6 0 (xp_sub2 σ i a k) (xs_cn σ i).2.1 a 2 else xp_sub2 σ i a k
def xp_subscribe (σ : xs_S) (c a k : Int32) : Nat × Int32 × xs_S :=
  if xm_in6 c = true ∧ xm_in8 a = true ∧ ¬ k < 4 ∧ ¬ 7 < k then (if (xs_cn σ (xs_ix c)).2.1 = a then (1, 0, σ) else if (xs_cn σ (xs_ix c)).1 = 4 then
    (if k = 5 ∧ xm_has σ (xs_ix (xs_cn σ (xs_ix c)).2.1) (xs_ix a) 8 = false then (0, 0, σ) else (0, 1, xp_sub3 σ (xs_ix c) a k)) else (2, 0, σ)) else (1, 0, σ)
def xp_link1 (σ : xs_S) (u : Bool) : xs_S := xs_sg σ u (xs_nx σ) (xs_lt σ)
def xp_link (σ : xs_S) (u : Bool) : Nat × Int32 × xs_S := if u = true then (0, nI (xs_q σ 14).length, xm_lk (xs_q σ 14).length (xp_link1 σ u)) else (0, 0, xp_link1 σ u)
def xp_take (σ : xs_S) (c : Int32) : Nat × Int32 × xs_S :=
  if xm_in6 c = true then (match xs_q σ (8 + xs_ix c) with
    | [] => (4, 0, σ)
    | z :: _ => (0, z.1, xs_sg (xm_pop σ (8 + xs_ix c)) (xs_up σ) (xs_nx σ) (some z))) else (1, 0, σ)
def xp_taken (σ : xs_S) (w : Int32) : Nat × Int32 × xs_S := match xs_lt σ with
  | none => (4, 0, σ)
  | some z => if w = 0 then (0, z.2.1, σ) else if w = 1 then (0, z.2.2.1, σ) else if w = 2 then (0, z.2.2.2.1, σ) else (1, 0, σ)
def xp_roster (σ : xs_S) (a b : Int32) : Nat × Int32 × xs_S := if xm_in8 a = true ∧ xm_in8 b = true then (0, xs_mk σ (xs_ix a) (xs_ix b), σ) else (1, 0, σ)
def xp_connection (σ : xs_S) (c w : Int32) : Nat × Int32 × xs_S :=
  if xm_in6 c = true then (if w = 0 then (0, (xs_cn σ (xs_ix c)).1, σ) else if w = 1 then (0, (xs_cn σ (xs_ix c)).2.1, σ) else if w = 2 then (0, (xs_cn σ (xs_ix c)).2.2.1, σ)
    else if w = 3 then (0, xs_b (xs_cn σ (xs_ix c)).2.2.2.2.2, σ) else if w = 4 then (0, nI (xs_q σ (8 + xs_ix c)).length, σ) else (1, 0, σ)) else (1, 0, σ)
def xp_count (σ : xs_S) (w : Int32) : Nat × Int32 × xs_S :=
  if w = 0 then (0, xm_kall 8 0 σ 0, σ) else if w = 1 then (0, nI (xs_q σ 14).length, σ) else if w = 2 then (0, xm_lall 6 0 σ 0, σ) else if w = 3 then (0, xs_b (xs_up σ), σ)
  else if ¬ w < 4 ∧ ¬ 12 ≤ w then (0, nI (xs_q σ (xs_ix (w - 4))).length, σ) else (1, 0, σ)
