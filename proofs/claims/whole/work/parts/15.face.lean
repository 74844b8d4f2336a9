/-! The face: what a call answers or throws. -/
def xx_nm : Nat → String
  | 1 => "java/lang/IllegalArgumentException"
  | 2 => "java/lang/IllegalStateException"
  | 3 => "java/lang/UnsupportedOperationException"
  | _ => "java/util/NoSuchElementException"
/-- a method that throws -/
def xc_X (l : Launch) (y : MethodName) (cd : Cond) (g : xw_G) (B : Nat → Prop) (o lim : Nat) (σ τ : xs_S) (av : List Value) (E : Heap → Prop) (nm : String) (fr lo mc ms : Nat) : Prop :=
  ∀ sz : Nat, xe_Met l y (cd :: xw_ws) { frames := fr, cells := mc, slots := ms, locals := lo } (xc_P g B o lim σ av E sz) nm (fun t => xw_W g B o lim τ t) (xw_A o sz) mc ms (xw_A o sz)
/-- a call of the face: what it answers or throws, and the state behind it: code 0 answers; 1, 2, 3, 4 throw -/
def xf_Q (g : xw_G) (B : Nat → Prop) (o lim : Nat) (res : Nat × Int32 × xs_S) (sz : Nat) : Array Value → State → Outcome → State → Prop := xb_Q (fun v t => res.1 = 0 ∧ v = .int res.2.1 ∧ xw_W g B o lim res.2.2 t) (xw_A o sz)
def xf_X (g : xw_G) (B : Nat → Prop) (o lim : Nat) (res : Nat × Int32 × xs_S) (mc ms sz : Nat) : Array Value → State → Outcome → State → Prop := xe_Q (xx_nm res.1) (fun t => ¬ res.1 = 0 ∧ xw_W g B o lim res.2.2 t) (xw_A o sz) mc ms (xw_A o sz)
def xc_F (l : Launch) (y : MethodName) (cd : Cond) (g : xw_G) (B : Nat → Prop) (o lim : Nat) (σ : xs_S) (res : Nat × Int32 × xs_S) (av : List Value) (fr lo mc ms : Nat) : Prop :=
  ∀ sz : Nat, MetFree l y (headSpec (cd :: xw_ws) { frames := fr, cells := mc, slots := ms, locals := lo }) (xc_P g B o lim σ av (fun _ => True) sz) (fun _ _ _ _ _ => True)
    (fun a s oc t => (xf_Q g B o lim res sz a s oc t ∧ ∃ L, FrameEnd s oc t L mc ms ∧ ∀ q ∈ L, xw_A o sz q.base) ∨ xf_X g B o lim res mc ms sz a s oc t)
section XFH
variable {l : Launch} {y : MethodName} {own : String} {cc : ByteArray} {maxL : Nat} {ret : Option FieldType} {g : xw_G} {B : Nat → Prop} {o lim : Nat} {σ τ : xs_S} {av : List Value} {E : Heap → Prop} {fr lo mc ms : Nat} {nm : String} {res : Nat × Int32 × xs_S}
theorem xh_X (hy : plainName y.cls = true) (ho : y.cls = own) (hn : (lg_sl av).length ≤ maxL)
    (body : ∀ (p : Program) (e : Env) (R : Room) (s : State) (m : MethodId) (below : List Frame) (meth : Method) (c : Code) (ls : Array Slot), R.frames = fr → R.locals = lo → R.cells = mc → R.slots = ms → (∀ x ∈ c.exceptionTable.toList, False) → xh_C p s m av.toArray meth c own cc maxL ret → xw_W g B o lim σ s → E s.heap → lv_has ls maxL (lv_args 0 av) →
      W p l e R s m av.toArray below meth c s.heap [] 0 0 (xe_MQ below (fun _ _ _ _ => False) (xe_Q nm (fun t => xw_W g B o lim τ t) (xw_A o s.heap.size) mc ms (xw_A o s.heap.size)) av.toArray s mc ms (xw_A o s.heap.size)) (F0 m 0 ls [])) : xc_X l y (Cond.code y cc maxL ret) g B o lim σ τ av E nm fr lo mc ms := by
  intro sz
  refine xe_throws (Qc := fun _ _ _ _ => False) (X := xe_Q nm (fun t => xw_W g B o lim τ t) (xw_A o sz) mc ms (xw_A o sz)) (xe_ofW (cc := cc) (maxL := maxL) (ret := ret) hy rfl ?_) (fun _ _ h => h) (fun _ _ _ _ _ h => h) (fun _ _ _ _ _ h => h)
  intro p e s m args below meth c s₁ B0 hml hxt hv
  obtain ⟨rfl, hsz, hW, hE⟩ := hv
  subst hsz
  have hts := atoms_spec (ws := Cond.code y cc maxL ret :: xw_ws) B0.pre
  have hown : s.vm.findClass own = some m.cls := ho ▸ findClass_of_methodNamed B0.named
  have hl := lv_entry av (n := maxL) hn
  rw [lg_entry_eq]
  exact body p e _ s m below meth c _ rfl rfl rfl rfl hxt ⟨B0.exec, B0.bytes, hml, B0.returns, hown, fun w h => hts w (List.mem_cons_of_mem _ h), B0.notSynchronized⟩ hW hE hl
theorem xh_F (hy : plainName y.cls = true) (ho : y.cls = own) (hn : (lg_sl av).length ≤ maxL)
    (body : ∀ (p : Program) (e : Env) (R : Room) (s : State) (m : MethodId) (below : List Frame) (meth : Method) (c : Code) (ls : Array Slot), R.frames = fr → R.locals = lo → R.cells = mc → R.slots = ms → (∀ x ∈ c.exceptionTable.toList, False) → xh_C p s m av.toArray meth c own cc maxL ret → xw_W g B o lim σ s → lv_has ls maxL (lv_args 0 av) →
      W p l e R s m av.toArray below meth c s.heap [] 0 0 (xe_MQ below (xf_Q g B o lim res s.heap.size) (xf_X g B o lim res mc ms s.heap.size) av.toArray s mc ms (xw_A o s.heap.size)) (F0 m 0 ls [])) : xc_F l y (Cond.code y cc maxL ret) g B o lim σ res av fr lo mc ms := by
  intro sz
  refine xe_ofW (cc := cc) (maxL := maxL) (ret := ret) hy rfl ?_
  intro p e s m args below meth c s₁ B0 hml hxt hv
  obtain ⟨rfl, hsz, hW, -⟩ := hv
  subst hsz
  have hts := atoms_spec (ws := Cond.code y cc maxL ret :: xw_ws) B0.pre
  have hown : s.vm.findClass own = some m.cls := ho ▸ findClass_of_methodNamed B0.named
  have hl := lv_entry av (n := maxL) hn
  rw [lg_entry_eq]
  exact body p e _ s m below meth c _ rfl rfl rfl rfl hxt ⟨B0.exec, B0.bytes, hml, B0.returns, hown, fun w h => hts w (List.mem_cons_of_mem _ h), B0.notSynchronized⟩ hW hl
end XFH
section XFK
variable {p : Program} {l : Launch} {e : Env} {R : Room} {s : State} {m : MethodId} {args : Array Value} {below : List Frame} {meth : Method} {c : Code} {H : Heap} {locs : List Loc} {cells slots : Nat} {Q : State → Prop}
variable {cc bytes : ByteArray} {pc nL maxL index fr lo mc ms : Nat} {ls : Array Slot} {rest st0 As : List Value} {own C : String} {y : MethodName} {ret ret0 : Option FieldType} {g : xw_G} {B : Nat → Prop} {o lim b : Nat} {σ0 σ τ : xs_S} {E : Heap → Prop} {nm : String} {res : Nat × Int32 × xs_S} {Qc : Array Value → State → Outcome → State → Prop}
/-- a static call that throws -/
theorem xk_sX (hM : xc_X l y (Cond.code y bytes maxL ret) g B o lim σ τ As E nm fr lo mc ms) (hG : GoodIn xw_ws (wsS own index y (Cond.code y bytes maxL ret :: xw_ws)))
    (hd : y.cls = own ∧ y.cls ≠ "java/lang/invoke/MethodHandle" ∧ y.cls ≠ "java/lang/invoke/VarHandle" ∧ (parseMethodDescriptor y.desc).map (fun d => d.parameters.length) = some As.length)
    (hC : xh_C p s m args meth c own cc nL ret0) (hW : xw_W g B o lim σ0 s) (hX : xw_R g B o σ H) (hS : va_S (xw_A o s.heap.size) s.heap H locs) (hE : E H)
    (hRf : fr + 1 ≤ R.frames) (hRl : 8 + (maxL + 11) + lo ≤ R.locals) (hRc : cells + mc ≤ R.cells) (hRs : slots + ms ≤ R.slots)
    (hls : ls.size = nL) (hst : st0 = As.reverse ++ rest) (hrm : (rest.map fun v => v.category).sum ≤ 8) (hdg : decode cc pc = .ok (.invokestatic index, 3))
    (kx : ∀ (ce : Cell) (q9 : Addr) (H1 : Heap) (locs1 : List Loc), xw_R g B o τ H1 → va_S (xw_A o s.heap.size) s.heap H1 locs1 → H1[q9]? = some ce → ce.vm = .none → s.vm.findClass nm = some ce.cls → xe_W p l e R s m args below meth c H1 locs1 (cells + mc) (slots + ms) Q (F0 m pc ls rest) q9) : W p l e R s m args below meth c H locs cells slots Q (F0 m pc ls st0) := by
  obtain ⟨hx, hb, hml, -, hown, hts, -⟩ := hC
  exact xe_callS (As := As) (rest := rest) ⟨hx, hb, hml, hown, hts⟩ (hM H.size) (cwS As.length hts hG rfl rfl rfl hd ⟨hRf, hRl⟩) ⟨xc_P.blind, fun U hU hw => ⟨rfl, by rw [hU], hW.to hX hS hU hw.alike, by rw [hU]; exact hE⟩⟩ rfl hls hst hrm hdg hRc hRs hS (xk_A hS) (xk_A hS)
    (fun ce q9 t locs1 _ hB _ _ hS1 h1 h2 h3 => kx ce q9 t.heap locs1 hB.1 hS1 h1 h2 h3)
theorem xr_F (hC : xh_C p s m args meth c own cc nL (some .int)) (hW : xw_W g B o lim σ0 s) (hX : xw_R g B o σ H) (hS : va_S (xw_A o s.heap.size) s.heap H locs) (hc : cells ≤ mc) (hs : slots ≤ ms) {v : Int32} (he : res = (0, v, σ)) {X : Array Value → State → Outcome → State → Prop} (hdg : decode cc pc = .ok (.ireturn, 1)) :
    W p l e R s m args below meth c H locs cells slots (xe_MQ below (xf_Q g B o lim res s.heap.size) X args s mc ms (xw_A o s.heap.size)) (F0 m pc ls [.int v]) := by
  obtain ⟨hx, hb, -, hr, -, -, hlk⟩ := hC
  subst he
  exact xe_ret (W.widen hc hs (W.iret hx hb hr (fun t ht hw => ⟨⟨.int v, rfl, rfl, rfl, hW.to hX hS ht hw.alike⟩, hS.F ht⟩) hS.2.2 hdg hlk))
/-- a thrown thing leaves a call of the face -/
theorem xr_FX (hC : xh_C p s m args meth c own cc nL ret0) (hxt : ∀ x ∈ c.exceptionTable.toList, False) (hW : xw_W g B o lim σ0 s) (hX : xw_R g B o σ H) (hS : va_S (xw_A o s.heap.size) s.heap H locs) (hc : cells ≤ mc) (hs : slots ≤ ms) {ce : Cell} {q9 : Addr} (h1 : H[q9]? = some ce) (h2 : ce.vm = .none) (h3 : s.vm.findClass nm = some ce.cls) {k : Nat} {v : Int32} (he : res = (k + 1, v, σ)) (hn : nm = xx_nm (k + 1)) :
    xe_W p l e R s m args below meth c H locs cells slots (xe_MQ below Qc (xf_X g B o lim res mc ms s.heap.size) args s mc ms (xw_A o s.heap.size)) (F0 m pc ls rest) q9 := by
  obtain ⟨-, -, -, -, -, -, hlk⟩ := hC
  subst he
  subst hn
  exact xe_out hxt hlk h1 h2 h3 (fun t ht hvm => ⟨(fun z => nomatch z), hW.to hX hS ht hvm⟩) hS hS.2.2 hc hs
theorem xr_W {t : State} {σ9 : xs_S} (hW : xw_W g B o lim σ0 s) (hX : xw_R g B o σ9 H) (hS : va_S (xw_A o s.heap.size) s.heap H locs) (hvm : s.vm.Alike t.vm) (hz : H.size ≤ t.heap.size) (hq : ∀ q : Nat, q < H.size → t.heap[q]? = H[q]?) : xw_W g B o lim σ9 t :=
  hW.to (hX.grow ⟨hz, fun q h _ => hq q h⟩) (locs := locs) ⟨Nat.le_trans hS.1 hz, fun q h1 h2 => (hq q (Nat.lt_of_lt_of_le h1 hS.1)).trans (hS.2.1 q h1 h2), hS.2.2⟩ rfl hvm
/-- 'throw new' in a method that only throws -/
theorem xr_TX {ik ic : Nat} (hC : xh_C p s m args meth c R_X cc nL ret0) (hsl : l.stackTraces = false) (hxt : ∀ x ∈ c.exceptionTable.toList, False) (hW : xw_W g B o lim σ0 s) (hX : xw_R g B o τ H) (hS : va_S (xw_A o s.heap.size) s.heap H locs) (hls : ls.size = nL)
    (hfit : Bundle.fit nm = true) (hk : Cond.classLink R_X ik nm ∈ xw_ws) (hini : Cond.initialized nm ∈ xw_ws) (hins : Cond.instantiable nm 6 ∈ xw_ws) (hat : ∀ w ∈ Bundle.ownAtoms0 R_X ic nm ["java/lang/RuntimeException", "java/lang/Exception"], w ∈ xw_ws ∨ w ∈ xt_no)
    (d0 : decode cc pc = .ok (.new ik, 3)) (d3 : decode cc (pc + 3) = .ok (.dup, 1)) (d4 : decode cc (pc + 4) = .ok (.invokespecial ic, 3)) (d7 : decode cc (pc + 7) = .ok (.athrow, 1))
    (hRf : 5 < R.frames) (hRl : 81 ≤ R.locals) (hRc : cells + 1 ≤ R.cells) (hRs : slots + 6 ≤ R.slots) (hc : cells + 1 ≤ mc) (hs : slots + 6 ≤ ms) :
    W p l e R s m args below meth c H locs cells slots (xe_MQ below Qc (xe_Q nm (fun t => xw_W g B o lim τ t) (xw_A o s.heap.size) mc ms (xw_A o s.heap.size)) args s mc ms (xw_A o s.heap.size)) (F0 m pc ls []) := by
  obtain ⟨hx, hb, hml, -, hown, hts, hlk⟩ := hC
  exact xe_throw0 hx hb hsl hown hfit (List.forall_mem_cons.mpr ⟨rfl, List.forall_mem_cons.mpr ⟨rfl, fun _ h => absurd h List.not_mem_nil⟩⟩) hk hini hins hat hts hW.2.2.1
    (fun q hq => hq.elim (fun z => Nat.le_trans hW.2.2.2 z.1) (fun z => Nat.le_trans hW.2.2.2 (Nat.le_trans (Nat.le_trans (Nat.le_add_right _ _) hW.1.lt) z))) hS (hls.trans hml.symm) d0 d3 d4 d7 hxt hRf hRl hRc hRs hlk (fun t h1 h2 h3 => xr_W hW hX hS h1 h2 h3) hS.2.2 hc hs
/-- 'throw new' in a call of the face -/
theorem xr_T {ik ic : Nat} (hC : xh_C p s m args meth c R_X cc nL ret0) (hsl : l.stackTraces = false) (hxt : ∀ x ∈ c.exceptionTable.toList, False) (hW : xw_W g B o lim σ0 s) (hX : xw_R g B o σ H) (hS : va_S (xw_A o s.heap.size) s.heap H locs) (hls : ls.size = nL)
    {k : Nat} {v : Int32} (he : res = (k + 1, v, σ)) (hfit : Bundle.fit (xx_nm (k + 1)) = true) (hk : Cond.classLink R_X ik (xx_nm (k + 1)) ∈ xw_ws) (hini : Cond.initialized (xx_nm (k + 1)) ∈ xw_ws) (hins : Cond.instantiable (xx_nm (k + 1)) 6 ∈ xw_ws) (hat : ∀ w ∈ Bundle.ownAtoms0 R_X ic (xx_nm (k + 1)) ["java/lang/RuntimeException", "java/lang/Exception"], w ∈ xw_ws ∨ w ∈ xt_no)
    (d0 : decode cc pc = .ok (.new ik, 3)) (d3 : decode cc (pc + 3) = .ok (.dup, 1)) (d4 : decode cc (pc + 4) = .ok (.invokespecial ic, 3)) (d7 : decode cc (pc + 7) = .ok (.athrow, 1))
    (hRf : 5 < R.frames) (hRl : 81 ≤ R.locals) (hRc : cells + 1 ≤ R.cells) (hRs : slots + 6 ≤ R.slots) (hc : cells + 1 ≤ mc) (hs : slots + 6 ≤ ms) :
    W p l e R s m args below meth c H locs cells slots (xe_MQ below Qc (xf_X g B o lim res mc ms s.heap.size) args s mc ms (xw_A o s.heap.size)) (F0 m pc ls []) := by
  obtain ⟨hx, hb, hml, -, hown, hts, hlk⟩ := hC
  subst he
  exact xe_throw0 hx hb hsl hown hfit (List.forall_mem_cons.mpr ⟨rfl, List.forall_mem_cons.mpr ⟨rfl, fun _ h => absurd h List.not_mem_nil⟩⟩) hk hini hins hat hts hW.2.2.1
    (fun q hq => hq.elim (fun z => Nat.le_trans hW.2.2.2 z.1) (fun z => Nat.le_trans hW.2.2.2 (Nat.le_trans (Nat.le_trans (Nat.le_add_right _ _) hW.1.lt) z))) hS (hls.trans hml.symm) d0 d3 d4 d7 hxt hRf hRl hRc hRs hlk (fun t h1 h2 h3 => ⟨(fun z => nomatch z), xr_W hW hX hS h1 h2 h3⟩) hS.2.2 hc hs
end XFK
-- what the face needs of the pure state
theorem xs_cn_send {σ : xs_S} {z : xs_Z} : xs_cn (xm_send σ z) = xs_cn σ := xm_same_send.2.1
theorem xs_cn_stw {n j : Nat} {σ : xs_S} {a i : Nat} {k : Int32} : xs_cn (xm_stw n j σ a i k) = xs_cn σ := (xm_same_stw n).2.1
theorem xs_cn_sp {n i : Nat} {σ : xs_S} {a t k : Int32} : xs_cn (xm_sp n i σ a t k) = xs_cn σ := (xm_same_sp n).2.1
theorem xs_cn_so {n j : Nat} {σ : xs_S} {a c : Nat} : xs_cn (xm_so n j σ a c) = xs_cn σ := (xm_same_so n).2.1
theorem xs_cn_com {σ : xs_S} {a b : Nat} {k : Int32} : xs_cn (xm_com σ a b k) = xs_cn σ := xm_same_com.2.1
theorem xm_spr_ac {σ : xs_S} {i : Nat} {v : Int32} : (xs_cn (xm_spr σ i v) i).2.1 = (xs_cn σ i).2.1 := by
  unfold xm_spr
  rw [xs_cn_scn]
theorem xm_x4 {x : Int32} (h1 : ¬ x < 4) (h2 : ¬ 12 ≤ x) : vp_in (x - 4) 8 := by
  obtain ⟨j, hj, rfl⟩ := nI_of (x := x) (fun h => h1 (Int32.lt_trans h (by decide)))
  have h3 : 4 ≤ j := Nat.not_lt.mp fun h => h1 (nI_lt h (by decide))
  have h4 : j < 12 := Nat.not_le.mp fun h => h2 (nI_le h hj)
  obtain ⟨k, rfl⟩ : ∃ k, j = k + 4 := ⟨j - 4, by omega⟩
  have h5 : nI (k + 4) - 4 = nI k := by
    rw [nI_succ, nI_succ, nI_succ, nI_succ, Int32.sub_eq_add_neg, Int32.add_assoc, Int32.add_assoc, Int32.add_assoc, Int32.add_assoc]
    exact Int32.add_zero _
  rw [h5]
  exact vp_in_nI (by omega) (by decide)
theorem xm_len0 {l : List xs_Z} (h : nI l.length = 0) (hl : l.length < 2 ^ 31) : l = [] := by
  cases l with
  | nil => rfl
  | cons z t => exact absurd h (nI_ne0 (Nat.succ_pos _) hl)
theorem xm_len1 {l : List xs_Z} (h : ¬ nI l.length = 0) : ∃ z t, l = z :: t := by
  cases l with
  | nil => exact absurd rfl h
  | cons z t => exact ⟨z, t, rfl⟩
