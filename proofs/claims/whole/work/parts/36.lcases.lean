/-! The law: what holds at the head of its loop, and one turn. -/
def xl_B (z q : Nat) : Prop := xw_B z q ∨ xu_W (z + 56) q ∨ q = z + 81
theorem xl_Bw {z : Nat} : xl_B z (z + 81) ∧ ¬ xw_B z (z + 81) := ⟨Or.inr (Or.inr rfl), fun h => by obtain ⟨h1, h2, h3⟩ := h; omega⟩
def xl_E (g : xw_G) (p : Program) (s : State) (m : MethodId) (meth : Method) (c : Code) (b L : Nat) (xs : Nat → Int32) : Prop :=
  xh_C p s m #[Value.ref b] meth c R_L code 7 ret ∧ xw_K g s ∧ xw_T s.heap.size s ∧ xl_N s ∧ va_X b L xs s s.heap ∧ b < s.heap.size
def xl_V (g : xw_G) (s : State) (j : Nat) (σ : xs_S) (th rp : Int32) (n : Nat) (t : xu_X) (a : xu_M) (f : Nat → Int64) (H : Heap) (locs : List Loc) : Prop :=
  xw_R g (xl_B s.heap.size) s.heap.size σ H ∧ xu_R g (s.heap.size + 56) σ th rp n t a H ∧ xl_O g (s.heap.size + 81) f H ∧ va_S (fun q : Nat => s.heap.size ≤ q) s.heap H locs ∧ xm_I σ ∧ n ≤ j
abbrev xl_lv (b z : Nat) (i : Int32) : List (Nat × Value) := [(0, .ref b), (1, .ref z), (2, .ref (z + 56)), (3, .ref (z + 81)), (4, .int i)]
/-- how the law goes on behind one turn -/
def xl_kk (p : Program) (l : Launch) (e : Env) (R : Room) (s : State) (m : MethodId) (b : Nat) (below : List Frame) (meth : Method) (c : Code) (Q : State → Prop) (g : xw_G) (j : Nat) : Prop :=
  ∀ (σ : xs_S) (th rp : Int32) (n : Nat) (t : xu_X) (a : xu_M) (f : Nat → Int64) (H : Heap) (locs : List Loc) (ls : Array Slot), xl_V g s (j + 1) σ th rp n t a f H locs → lv_has ls 7 (xl_lv b s.heap.size (nI (5 * j))) →
    W p l e R s m #[Value.ref b] below meth c H locs (82 + 66 * (j + 1)) (1000 + 396 * (j + 1)) Q (F0 m 1141 ls [])
theorem xl_nI {k j : Nat} {v : Int32} (h : v = nI k) : nI j + v = nI (j + k) := by
  subst h
  induction k with
  | zero => rw [show nI 0 = 0 from rfl, Int32.add_zero]; rfl
  | succ k ih => rw [show j + (k + 1) = (j + k) + 1 from rfl, nI_succ, nI_succ, ← ih, Int32.add_assoc]
theorem xl_in {k j L : Nat} {v : Int32} (h : v = nI k) (hk : k < 5) (hj : 5 * j + 5 ≤ L) (hL : L ≤ 2560) : vp_in (nI (5 * j) + v) L := by
  rw [xl_nI h]
  exact vp_in_nI (by omega) (by omega)
theorem xl_fit {L k : Nat} (hL : L ≤ 2560) (hk : k ≤ 2560) (h : ¬ Int32.ofNat L - 5 < nI k) : k + 5 ≤ L := by
  refine Nat.not_lt.mp fun h1 => h ?_
  by_cases h5 : 5 ≤ L
  · obtain ⟨q, rfl⟩ : ∃ q, L = q + 5 := ⟨L - 5, by omega⟩
    have e : Int32.ofNat (q + 5) - 5 = nI q := by
      show nI (q + 5) - 5 = nI q
      rw [← xl_nI (k := 5) (v := 5) rfl, Int32.sub_eq_add_neg, Int32.add_assoc]
      exact Int32.add_zero _
    rw [e]
    exact nI_lt (by omega) (by omega)
  · have h0 : Int32.ofNat L - 5 < 0 := by
      rcases (show L = 0 ∨ L = 1 ∨ L = 2 ∨ L = 3 ∨ L = 4 by omega) with rfl | rfl | rfl | rfl | rfl <;> decide
    have h2 : (0 : Int32) ≤ nI k := by
      have h3 := nI_le (Nat.zero_le k) (show k < 2 ^ 31 by omega)
      exact h3
    exact Int32.lt_of_lt_of_le h0 h2
section XLL
variable {p : Program} {l : Launch} {e : Env} {R : Room} {s : State} {m : MethodId} {args : Array Value} {below : List Frame} {meth : Method} {c : Code} {H : Heap} {locs : List Loc} {cells slots : Nat} {Q : State → Prop}
variable {cc bytes : ByteArray} {pc nL maxL index fr lo mc ms : Nat} {ls : Array Slot} {rest st0 As : List Value} {y : MethodName} {ret1 : Option FieldType} {hh : List (Nat × Nat × Nat × Nat)} {g : xw_G} {b L j n n' : Nat} {xs : Nat → Int32} {σ τ : xs_S} {th th' rp r : Int32} {t : xu_X} {a : xu_M} {f : Nat → Int64} {res : Nat × Int32 × xs_S} {k : Nat → Int32} {G : Int32 → xu_M → Prop}
theorem xl_lcmp (hexec : p.tables.exec = Jvm.exec) (hb : c.code = cc) {x : Int64} (hdg : decode cc pc = .ok (.lcmp, 1))
    (k : W p l e R s m args below meth c H locs cells slots Q (F0 m (pc + 1) ls (.int 0 :: rest))) : W p l e R s m args below meth c H locs cells slots Q (F0 m pc ls (.long x :: .long x :: rest)) := by
  intro T hT X
  obtain ⟨t, a, b⟩ := k T hT X
  refine ⟨t, ?_, b⟩
  have hlt : ¬ x < x := Int64.lt_irrefl
  jvm_step X.here [X.here.top, hexec, hb, hdg]
  first
    | (rw [if_neg hlt, if_pos rfl]; exact a)
    | (simp only [gt_iff_lt, hlt, if_false, if_true]; exact a)
    | (simp [hlt]; exact a)
    | exact a
/-- one of the script's ints -/
theorem xl_sld (E : xl_E g p s m meth c b L xs) (hS : va_S (fun q : Nat => s.heap.size ≤ q) s.heap H locs) {i v : Int32} (hin : vp_in i L) (hv : xs i.toNatClampNeg = v) (hdg : decode code pc = .ok (.iaload, 1))
    (kk : W p l e R s m args below meth c H locs cells slots Q (F0 m (pc + 1) ls (.int v :: rest))) : W p l e R s m args below meth c H locs cells slots Q (F0 m pc ls (.int i :: .ref b :: rest)) := by
  obtain ⟨hC, hK, hT, hN, hX0, hbl⟩ := E
  obtain ⟨hx, hb, -⟩ := hC
  subst hv
  exact va_sld hx hb hX0 hbl (Nat.not_le.mpr hbl) hS hin hdg kk
/-- a call of one of the law's methods, in the law -/
theorem xl_hc (E : xl_E g p s m meth c b L xs) (hX : xw_R g (xl_B s.heap.size) s.heap.size σ H) (hU : xu_R g (s.heap.size + 56) σ th rp n t a H) (hO : xl_O g (s.heap.size + 81) f H) (hS : va_S (fun q : Nat => s.heap.size ≤ q) s.heap H locs)
    (hM : xl_F l y (Cond.codeWith y bytes maxL ret1 hh) g (xl_B s.heap.size) s.heap.size s.heap.size (s.heap.size + 81) σ res k As fr lo mc ms)
    (hcd : Cond.codeWith y bytes maxL ret1 hh ∈ xw_ws) (hlk : Cond.methodLink R_L index y ∈ xw_ws) (hsta : Cond.static y ∈ xw_ws) (hini : Cond.initialized y.cls ∈ xw_ws)
    (hd : y.cls ≠ "java/lang/invoke/MethodHandle" ∧ y.cls ≠ "java/lang/invoke/VarHandle" ∧ (parseMethodDescriptor y.desc).map (fun d => d.parameters.length) = some As.length)
    (hRf : fr + 1 ≤ R.frames) (hRl : 8 + (maxL + 11) + lo ≤ R.locals) (hRc : cells + mc ≤ R.cells) (hRs : slots + ms ≤ R.slots)
    (hls : ls.size = 7) (hst : st0 = As.reverse ++ rest) (hrm : (rest.map fun v => v.category).sum ≤ 8) (hdg : decode code pc = .ok (.invokestatic index, 3))
    (kk : ∀ (H : Heap) (locs : List Loc) (f : Nat → Int64), (res.1 = 0 → f 0 = res.2.1.toInt64) → xw_R g (xl_B s.heap.size) s.heap.size res.2.2 H → xu_R g (s.heap.size + 56) σ th rp n t a H → xl_O g (s.heap.size + 81) f H → va_S (fun q : Nat => s.heap.size ≤ q) s.heap H locs → W p l e R s m #[Value.ref b] below meth c H locs (cells + mc) (slots + ms) Q (F0 m (pc + 3) ls (.int (k res.1) :: rest))) : W p l e R s m #[Value.ref b] below meth c H locs cells slots Q (F0 m pc ls st0) := by
  obtain ⟨hC, hK, hT, hN, hX0, hbl⟩ := E
  refine xl_sF hM hcd hlk hsta hini hd hC hK hT (Nat.le_refl _) hN hX hO hS (fun _ h => h) (fun q h => ?_) hRf hRl hRc hRs hls hst hrm hdg (fun H1 locs1 f1 h0 hX1 hO1 hS1 hF => kk H1 locs1 f1 h0 hX1 (hU.keep (fun q hq => hF.2 q ?_ ?_)) hO1 hS1)
  · rcases h with (h | h) | h
    · exact h.1
    · exact Nat.le_trans hS.1 h
    · rw [h]; omega
  · have := hU.lt
    obtain ⟨q1, q2⟩ := hq
    omega
  · obtain ⟨q1, q2⟩ := hq
    intro z
    rcases z with ⟨z1, z2, z3⟩ | z
    · omega
    · omega
/-- a call of the reference, in the law -/
theorem xl_uc {σx : xs_S} (E : xl_E g p s m meth c b L xs) (hX : xw_R g (xl_B s.heap.size) s.heap.size σx H) (hU : xu_R g (s.heap.size + 56) σ th rp n t a H) (hO : xl_O g (s.heap.size + 81) f H) (hS : va_S (fun q : Nat => s.heap.size ≤ q) s.heap H locs)
    (hM : uc_Q l y (Cond.code y bytes maxL ret1) g (s.heap.size + 56) σ th rp n t a r τ th' n' G (.ref (s.heap.size + 56) :: As) fr lo) (hG : GoodIn xw_ws (wsV R_L index R_U y (Cond.code y bytes maxL ret1 :: xw_ws)))
    (hd : y.cls = R_U ∧ y.cls ≠ "java/lang/invoke/MethodHandle" ∧ y.cls ≠ "java/lang/invoke/VarHandle" ∧ (parseMethodDescriptor y.desc).map (fun d => d.parameters.length) = some As.length)
    (hRf : fr + 1 ≤ R.frames) (hRl : 8 + (maxL + 11) + lo ≤ R.locals) (hRc : cells + 0 ≤ R.cells) (hRs : slots + 0 ≤ R.slots)
    (hls : ls.size = 7) (hst : st0 = As.reverse ++ .ref (s.heap.size + 56) :: rest) (hrm : (rest.map fun v => v.category).sum ≤ 8) (hdg : decode code pc = .ok (.invokevirtual index, 3))
    (kk : ∀ (rp : Int32) (t : xu_X) (a : xu_M) (H : Heap) (locs : List Loc), xw_R g (xl_B s.heap.size) s.heap.size σx H → xu_R g (s.heap.size + 56) τ th' rp n' t a H → xl_O g (s.heap.size + 81) f H → va_S (fun q : Nat => s.heap.size ≤ q) s.heap H locs → W p l e R s m #[Value.ref b] below meth c H locs cells slots Q (F0 m (pc + 3) ls (.int r :: rest))) : W p l e R s m #[Value.ref b] below meth c H locs cells slots Q (F0 m pc ls st0) := by
  obtain ⟨hC, hK, hT, hN, hX0, hbl⟩ := E
  refine uk_iQ hM hG hd hC hK hU hS (fun q h => Nat.le_trans (Nat.le_add_right _ _) h.1) hRf hRl hRc hRs hls hst hrm hdg (fun rp1 t1 a1 H1 locs1 _ hU1 hS1 hz hk => kk rp1 t1 a1 H1 locs1 (hX.out (x := xu_W (s.heap.size + 56)) (fun q hq => ⟨Or.inr (Or.inl hq), fun z => ?_⟩) ⟨hz, fun q q1 q2 => hk q q1 q2⟩) hU1 (hO.kept (hk _ hO.lt (fun z => ?_))) hS1)
  · obtain ⟨q1, q2⟩ := hq
    obtain ⟨z1, z2, z3⟩ := z
    omega
  · have h1 : s.heap.size + 81 < s.heap.size + 56 + 25 := z.2
    omega
/-- the second half of a turn: which throw, and which answer -/
theorem xl_tl {P : Nat} {off : Int} {i : Int32} (hR : R.frames = 12 ∧ R.locals = 454 ∧ R.cells = 646917 ∧ R.slots = 7155354) (hcl : cells ≤ 646917) (hsl : slots ≤ 7155354) (E : xl_E g p s m meth c b L xs) (hV : xl_V g s j σ th rp n t a f H locs) (hf : th = 0 → f 0 = r.toInt64)
    (hl : lv_has ls 7 ((6, .int r) :: (5, .int th) :: xl_lv b s.heap.size i))
    (d0 : decode code P = .ok (.aload_n 2, 1)) (d1 : decode code (P + 1) = .ok (.invokevirtual 76, 3)) (d4 : decode code (P + 4) = .ok (.iload 5, 2)) (d6 : decode code (P + 6) = .ok (.if_icmp .eq 5, 3))
    (d11 : decode code (P + 11) = .ok (.iload 5, 2)) (d13 : decode code (P + 13) = .ok (.ifCond .ne 15, 3)) (d16 : decode code (P + 16) = .ok (.aload_n 3, 1)) (d17 : decode code (P + 17) = .ok (.iconst 0, 1)) (d18 : decode code (P + 18) = .ok (.laload, 1))
    (d19 : decode code (P + 19) = .ok (.iload 6, 2)) (d21 : decode code (P + 21) = .ok (.i2l, 1)) (d22 : decode code (P + 22) = .ok (.lcmp, 1)) (d23 : decode code (P + 23) = .ok (.ifCond .eq 5, 3)) (d28 : decode code (P + 28) = .ok (.goto off, 3)) (hoff : ((P + 28 : Nat) : Int) + off = ((1141 : Nat) : Int))
    (kk : ∀ (rp : Int32) (t : xu_X) (a : xu_M) (H : Heap) (locs : List Loc), xl_V g s j σ th rp n t a f H locs → W p l e R s m #[Value.ref b] below meth c H locs cells slots Q (F0 m 1141 ls [])) : W p l e R s m #[Value.ref b] below meth c H locs cells slots Q (F0 m P ls []) := by
  obtain ⟨hRf, hRl, hRc, hRs⟩ := hR
  obtain ⟨hC, hK, hT, hN, hX0, hbl⟩ := id E
  obtain ⟨hx, hb, hml, hr, hown, hts, hlk⟩ := id hC
  obtain ⟨hX, hU, hO, hS, hI, hn⟩ := hV
  refine lv_aload_n hx hb d0 rfl (lv_at hl 4 rfl) ?_
  refine xl_uc (rest := []) (As := []) E hX hU hO hS (c_U_thrown l g (s.heap.size + 56) σ th rp n t a) gd_L_U_thrown hd_U_thrown (by omega) (by omega) (by omega) (by omega) hl.1 rfl (Nat.le_of_ble_eq_true rfl) d1 (fun rp t a H locs hX hU hO hS => ?_)
  have kk := kk rp t a H locs ⟨hX, hU, hO, hS, hI, hn⟩
  have k28 : W p l e R s m #[Value.ref b] below meth c H locs cells slots Q (F0 m (P + 28) ls []) := lv_goto (tgt := 1141) hx hb d28 hoff kk
  refine lv_iload hx hb d4 (lv_at hl 1 rfl) ?_
  refine lv_icmp_eq (tgt := P + 11) hx hb d6 (by omega) (fun _ => ?_) (fun h => absurd rfl h)
  refine lv_iload hx hb d11 (lv_at hl 1 rfl) ?_
  refine lv_if_ne (tgt := P + 28) hx hb d13 (by omega) (fun _ => k28) (fun h => ?_)
  refine lv_aload_n hx hb d16 rfl (lv_at hl 5 rfl) ?_
  refine lv_iconst (v := 0) hx hb d17 (by decide) ?_
  refine xl_get hx hb hK hO d18 ?_
  rw [hf h]
  refine lv_iload hx hb d19 (lv_at hl 0 rfl) ?_
  refine lv_i2l (v := r.toInt64) hx hb d21 rfl ?_
  refine xl_lcmp hx hb d22 ?_
  exact lv_if_eq (tgt := P + 28) hx hb d23 (by omega) (fun _ => k28) (fun h => absurd rfl h)
end XLL
