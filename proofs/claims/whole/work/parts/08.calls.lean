/-! Worlds, contracts, heads, calls and ends. -/
/-- a static field of Throwable that a throw reads: where it lies, that it holds a reference; its cell lies below lim -/
def xt_S (n d : String) (lim : Nat) (U : State) (H : Heap) : Prop := ∃ (c : ClassId) (k : Class) (i : Nat) (f : Field) (a : Nat) (cell : Cell) (v : Value), U.vm.findClass Bundle.tN = some c ∧ U.fieldFound? Bundle.tN n d = some (c, k, i, f) ∧ f.isStatic = true ∧ k.statics = some a ∧ H[a]? = some cell ∧ cell.vm.isStatics = true ∧ cell.cls = c ∧ k.staticTypes[f.slot]? = some f.type ∧ cell.slots[f.slot]? = some v ∧ v.isRef = true ∧ a < lim
theorem xt_S.to {n d : String} {lim : Nat} {u U : State} {H H1 : Heap} (h : xt_S n d lim u H) (hvm : u.vm.Alike U.vm) (hq : ∀ q : Nat, q < H.size → q < lim → H1[q]? = H[q]?) : xt_S n d lim U H1 := by
  obtain ⟨c, k, i, f, a, cell, v, h1, h2, h3, h4, h5, h6, h7, h8, h9, h10, h11⟩ := h
  obtain ⟨k', hi', he⟩ := State.fieldFound?_setVm hvm h2
  exact ⟨c, k', i, f, a, cell, v, by rw [hvm.findClass]; exact h1, hi', h3, by rw [he]; exact h4, by rw [hq a (Array.getElem?_eq_some_iff.mp h5).1 h11]; exact h5, h6, h7, by rw [he]; exact h8, h9, h10, h11⟩
theorem xt_S.lays {n d : String} {lim : Nat} {s : State} {args : Array Value} (h : xt_S n d lim s s.heap) : (Cond.laysStatic Bundle.tN n d).before args s = true := by
  obtain ⟨c, k, i, f, a, cell, v, h1, h2, h3, h4, h5, h6, h7, h8, h9, h10, h11⟩ := h
  exact Cond.laysStatic_of h1 h2 h3 h4 h5 h6 h7 (Array.getElem?_eq_some_iff.mp h9).1 h8
theorem xt_S.ref {n d : String} {lim : Nat} {s : State} {args : Array Value} (h : xt_S n d lim s s.heap) : (Cond.isRef (.static Bundle.tN n d)).before args s = true := by
  obtain ⟨c, k, i, f, a, cell, v, h1, h2, h3, h4, h5, h6, h7, h8, h9, h10, h11⟩ := h
  have he : (Term.static Bundle.tN n d).eval args s none [] s = some v := by
    simp [Term.eval, State.fieldNamed?, h2, h3, h4, h5, h6, h9]
  simp only [Cond.before, Cond.holds, Cond.value, he]
  cases v <;> simp_all [Value.isRef]
/-- words of a throw that no method is handed: they speak of the tables alone -/
def xt_fw : List Cond := [.castable "java/lang/IllegalArgumentException" "java/lang/IllegalArgumentException", .castable "java/lang/IllegalStateException" "java/lang/IllegalStateException", .castable "java/lang/UnsupportedOperationException" "java/lang/UnsupportedOperationException", .castable "java/util/NoSuchElementException" "java/util/NoSuchElementException",
  .declares ⟨"java/lang/RuntimeException", "<init>", "()V"⟩, .declares ⟨"java/lang/Exception", "<init>", "()V"⟩, .declares ⟨"java/lang/Throwable", "<init>", "()V"⟩]
theorem xt_fw_face : ∀ w ∈ xt_fw, (w.faceAtom && w.onTables) = true := List.all_eq_true.mp rfl
theorem xt_fw_to {w : Cond} {a a' : Array Value} {u U : State} (hw : (w.faceAtom && w.onTables) = true) (hvm : u.vm.Alike U.vm) (h : w.before a u = true) : w.before a' U = true := by
  rw [Bool.and_eq_true] at hw
  show w.before a' (U.setVm U.vm) = true
  rw [Cond.onTables_vm (A' := a) (U' := u) U.vm w hw.2]
  exact Cond.faceAtom_setVm hvm w hw.1 h
def xw_T (lim : Nat) (U : State) : Prop := xt_S "UNASSIGNED_STACK" Bundle.steD lim U U.heap ∧ xt_S "SUPPRESSED_SENTINEL" Bundle.listD lim U U.heap ∧ ∀ w ∈ xt_fw, w.before #[] U = true
theorem xw_T.to {lim : Nat} {s U : State} (h : xw_T lim s) (hvm : s.vm.Alike U.vm) (hq : ∀ q : Nat, q < s.heap.size → q < lim → U.heap[q]? = s.heap[q]?) : xw_T lim U := ⟨h.1.to hvm hq, h.2.1.to hvm hq, fun w hw => xt_fw_to (xt_fw_face w hw) hvm (h.2.2 w hw)⟩
/-- the world of a method: the state, the tables, the statics -/
def xw_W (g : xw_G) (B : Nat → Prop) (o lim : Nat) (σ : xs_S) (U : State) : Prop := xw_R g B o σ U.heap ∧ xw_K g U ∧ xw_T lim U ∧ lim ≤ o
theorem xw_R.lt {g : xw_G} {B : Nat → Prop} {o : Nat} {σ : xs_S} {H : Heap} (h : xw_R g B o σ H) : o + 56 ≤ H.size := by
  have h1 := h.2.2.2.2.2.2.1 14 (by decide)
  obtain ⟨f, ⟨-, h2⟩, -⟩ := h1
  have h3 : o + xs_qo 14 + 1 < H.size := h2.lt
  have h4 : xs_qo 14 = 54 := rfl
  omega
theorem xw_W.to {g : xw_G} {B : Nat → Prop} {o lim : Nat} {σ τ : xs_S} {s U : State} {H : Heap} {locs : List Loc} (h : xw_W g B o lim σ s) (hX : xw_R g B o τ H) (hS : va_S (xw_A o s.heap.size) s.heap H locs) (hU : U.heap = H) (hvm : s.vm.Alike U.vm) : xw_W g B o lim τ U := by
  obtain ⟨h1, h2, h3, h4⟩ := h
  refine ⟨by rw [hU]; exact hX, va_K.moved hvm h2, h3.to hvm (fun q hq hl => ?_), h4⟩
  rw [hU]
  refine hS.2.1 q hq (fun z => ?_)
  rcases z with z | z
  · exact Nat.not_lt.mpr (Nat.le_trans h4 z.1) hl
  · exact Nat.not_le.mpr hq z
theorem xw_W.blind {g : xw_G} {B : Nat → Prop} {o lim : Nat} {σ : xs_S} {U : State} {f : JFrame} {mk : MethodId} {a : Array Value} (h : xw_W g B o lim σ U) : xw_W g B o lim σ (U.calling f mk a) :=
  ⟨h.1, va_K.moved (u := U) (U := U.calling f mk a) (Vm.Alike.refl U.vm) h.2.1, h.2.2.1.to (U := U.calling f mk a) (Vm.Alike.refl U.vm) (fun _ _ _ => rfl), h.2.2.2⟩
def xc_P (g : xw_G) (B : Nat → Prop) (o lim : Nat) (σ : xs_S) (av : List Value) (E : Heap → Prop) (sz : Nat) : Array Value → State → Prop := va_Pc av (fun U => U.heap.size = sz ∧ xw_W g B o lim σ U ∧ E U.heap)
theorem xc_P.blind {g : xw_G} {B : Nat → Prop} {o lim : Nat} {σ : xs_S} {av : List Value} {E : Heap → Prop} {sz : Nat} : FrameBlind (xc_P g B o lim σ av E sz) := fun a U f mk h => ⟨h.1, h.2.1, h.2.2.1.blind, h.2.2.2⟩
/-- a method that answers nothing -/
def xc_V (l : Launch) (y : MethodName) (cd : Cond) (g : xw_G) (B : Nat → Prop) (o lim : Nat) (σ τ : xs_S) (av : List Value) (E : Heap → Prop) (fr lo mc ms : Nat) : Prop :=
  ∀ sz : Nat, Met l y (cd :: xw_ws) { frames := fr, cells := mc, slots := ms, locals := lo } (xc_P g B o lim σ av E sz) (xb_V (fun t => xw_W g B o lim τ t) (xw_A o sz)) mc ms (xw_A o sz)
/-- a method that answers a value -/
def xc_Q (l : Launch) (y : MethodName) (cd : Cond) (g : xw_G) (B : Nat → Prop) (o lim : Nat) (σ τ : xs_S) (av : List Value) (E : Heap → Prop) (val : Value → Heap → Prop) (fr lo mc ms : Nat) : Prop :=
  ∀ sz : Nat, Met l y (cd :: xw_ws) { frames := fr, cells := mc, slots := ms, locals := lo } (xc_P g B o lim σ av E sz) (xb_Q (fun v t => val v t.heap ∧ xw_W g B o lim τ t) (xw_A o sz)) mc ms (xw_A o sz)
/-- what every body has at hand -/
def xh_C (p : Program) (s : State) (m : MethodId) (args : Array Value) (meth : Method) (c : Code) (own : String) (cc : ByteArray) (maxL : Nat) (ret : Option FieldType) : Prop :=
  p.tables.exec = Jvm.exec ∧ c.code = cc ∧ c.maxLocals = maxL ∧ meth.sig.returnType = ret ∧ s.vm.findClass own = some m.cls ∧ (∀ w ∈ xw_ws, w.before args s = true) ∧ meth.locks = false
section XH
variable {l : Launch} {y : MethodName} {own : String} {cc : ByteArray} {maxL : Nat} {ret : Option FieldType} {g : xw_G} {B : Nat → Prop} {o lim : Nat} {σ τ : xs_S} {av : List Value} {E : Heap → Prop} {fr lo mc ms : Nat} {val : Value → Heap → Prop}
theorem xh_V (hy : plainName y.cls = true) (ho : y.cls = own) (hn : (lg_sl av).length ≤ maxL)
    (body : ∀ (p : Program) (e : Env) (R : Room) (s : State) (m : MethodId) (below : List Frame) (meth : Method) (c : Code) (ls : Array Slot), R.frames = fr → R.locals = lo → R.cells = mc → R.slots = ms → xh_C p s m av.toArray meth c own cc maxL ret → xw_W g B o lim σ s → E s.heap → lv_has ls maxL (lv_args 0 av) →
      W p l e R s m av.toArray below meth c s.heap [] 0 0 (MQ below (xb_V (fun t => xw_W g B o lim τ t) (xw_A o s.heap.size)) av.toArray s mc ms (xw_A o s.heap.size)) (F0 m 0 ls [])) : xc_V l y (Cond.code y cc maxL ret) g B o lim σ τ av E fr lo mc ms := by
  intro sz
  refine Met.ofW (cc := cc) (maxL := maxL) (ret := ret) hy rfl ?_
  intro p e s m args below meth c s₁ B0 hml hv
  obtain ⟨rfl, hsz, hW, hE⟩ := hv
  subst hsz
  have hts := atoms_spec (ws := Cond.code y cc maxL ret :: xw_ws) B0.pre
  have hown : s.vm.findClass own = some m.cls := ho ▸ findClass_of_methodNamed B0.named
  have hl := lv_entry av (n := maxL) hn
  rw [lg_entry_eq]
  exact body p e _ s m below meth c _ rfl rfl rfl rfl ⟨B0.exec, B0.bytes, hml, B0.returns, hown, fun w h => hts w (List.mem_cons_of_mem _ h), B0.notSynchronized⟩ hW hE hl
theorem xh_Q (hy : plainName y.cls = true) (ho : y.cls = own) (hn : (lg_sl av).length ≤ maxL)
    (body : ∀ (p : Program) (e : Env) (R : Room) (s : State) (m : MethodId) (below : List Frame) (meth : Method) (c : Code) (ls : Array Slot), R.frames = fr → R.locals = lo → R.cells = mc → R.slots = ms → xh_C p s m av.toArray meth c own cc maxL ret → xw_W g B o lim σ s → E s.heap → lv_has ls maxL (lv_args 0 av) →
      W p l e R s m av.toArray below meth c s.heap [] 0 0 (MQ below (xb_Q (fun v t => val v t.heap ∧ xw_W g B o lim τ t) (xw_A o s.heap.size)) av.toArray s mc ms (xw_A o s.heap.size)) (F0 m 0 ls [])) : xc_Q l y (Cond.code y cc maxL ret) g B o lim σ τ av E val fr lo mc ms := by
  intro sz
  refine Met.ofW (cc := cc) (maxL := maxL) (ret := ret) hy rfl ?_
  intro p e s m args below meth c s₁ B0 hml hv
  obtain ⟨rfl, hsz, hW, hE⟩ := hv
  subst hsz
  have hts := atoms_spec (ws := Cond.code y cc maxL ret :: xw_ws) B0.pre
  have hown : s.vm.findClass own = some m.cls := ho ▸ findClass_of_methodNamed B0.named
  have hl := lv_entry av (n := maxL) hn
  rw [lg_entry_eq]
  exact body p e _ s m below meth c _ rfl rfl rfl rfl ⟨B0.exec, B0.bytes, hml, B0.returns, hown, fun w h => hts w (List.mem_cons_of_mem _ h), B0.notSynchronized⟩ hW hE hl
end XH
section XK
variable {p : Program} {l : Launch} {e : Env} {R : Room} {s : State} {m : MethodId} {args : Array Value} {below : List Frame} {meth : Method} {c : Code} {H : Heap} {locs : List Loc} {cells slots : Nat} {Q : State → Prop}
variable {cc bytes : ByteArray} {pc nL maxL index fr lo mc ms : Nat} {ls : Array Slot} {rest st0 As : List Value} {own C : String} {y : MethodName} {ret ret0 : Option FieldType} {g : xw_G} {B : Nat → Prop} {o lim b : Nat} {σ0 σ τ : xs_S} {E : Heap → Prop} {val : Value → Heap → Prop}
theorem xk_A (hS : va_S (xw_A o s.heap.size) s.heap H locs) : ∀ q, xw_A o H.size q → xw_A o s.heap.size q := fun q h => h.elim Or.inl (fun z => Or.inr (Nat.le_trans hS.1 z))
/-- a call on an object, nothing answered -/
theorem xk_iV (hM : xc_V l y (Cond.code y bytes maxL ret) g B o lim σ τ (.ref b :: As) E fr lo mc ms) (hG : GoodIn xw_ws (wsV own index C y (Cond.code y bytes maxL ret :: xw_ws)))
    (hd : y.cls = C ∧ y.cls ≠ "java/lang/invoke/MethodHandle" ∧ y.cls ≠ "java/lang/invoke/VarHandle" ∧ (parseMethodDescriptor y.desc).map (fun d => d.parameters.length) = some As.length)
    (hC : xh_C p s m args meth c own cc nL ret0) (hW : xw_W g B o lim σ0 s) (hX : xw_R g B o σ H) (hS : va_S (xw_A o s.heap.size) s.heap H locs)
    (hrecv : ∃ cell : Cell, H[b]? = some cell ∧ cell.vm.isStatics = false ∧ s.vm.findClass C = some cell.cls) (hE : E H)
    (hRf : fr + 1 ≤ R.frames) (hRl : 8 + (maxL + 11) + lo ≤ R.locals) (hRc : cells + mc ≤ R.cells) (hRs : slots + ms ≤ R.slots)
    (hls : ls.size = nL) (hst : st0 = As.reverse ++ .ref b :: rest) (hrm : (rest.map fun v => v.category).sum ≤ 8) (hdg : decode cc pc = .ok (.invokevirtual index, 3))
    (kk : ∀ (H1 : Heap) (locs1 : List Loc), xw_R g B o τ H1 → va_S (xw_A o s.heap.size) s.heap H1 locs1 → xw_F (xw_B o) H H1 → W p l e R s m args below meth c H1 locs1 (cells + mc) (slots + ms) Q (F0 m (pc + 3) ls rest)) : W p l e R s m args below meth c H locs cells slots Q (F0 m pc ls st0) := by
  obtain ⟨hx, hb, hml, -, hown, hts, -⟩ := hC
  exact xb_callv (va_runV (As := As) (rest := rest) ⟨hx, hb, hml, hown, hts⟩ (hM H.size) (cwV As.length hts hG rfl rfl rfl hd ⟨hRf, hRl⟩) ⟨xc_P.blind, hrecv, fun U hU hw => ⟨rfl, by rw [hU], hW.to hX hS hU hw.alike, by rw [hU]; exact hE⟩⟩ rfl rfl hls hst (lv_room hrm) hdg ⟨hRc, hRs⟩) hS (xk_A hS) (xk_A hS)
    (fun t locs1 _ hB hz hk hS1 => kk t.heap locs1 hB.1 hS1 (xw_F.call hz hk))
theorem xk_iQ (hM : xc_Q l y (Cond.code y bytes maxL ret) g B o lim σ τ (.ref b :: As) E val fr lo mc ms) (hG : GoodIn xw_ws (wsV own index C y (Cond.code y bytes maxL ret :: xw_ws)))
    (hd : y.cls = C ∧ y.cls ≠ "java/lang/invoke/MethodHandle" ∧ y.cls ≠ "java/lang/invoke/VarHandle" ∧ (parseMethodDescriptor y.desc).map (fun d => d.parameters.length) = some As.length)
    (hC : xh_C p s m args meth c own cc nL ret0) (hW : xw_W g B o lim σ0 s) (hX : xw_R g B o σ H) (hS : va_S (xw_A o s.heap.size) s.heap H locs)
    (hrecv : ∃ cell : Cell, H[b]? = some cell ∧ cell.vm.isStatics = false ∧ s.vm.findClass C = some cell.cls) (hE : E H)
    (hRf : fr + 1 ≤ R.frames) (hRl : 8 + (maxL + 11) + lo ≤ R.locals) (hRc : cells + mc ≤ R.cells) (hRs : slots + ms ≤ R.slots)
    (hls : ls.size = nL) (hst : st0 = As.reverse ++ .ref b :: rest) (hrm : (rest.map fun v => v.category).sum ≤ 8) (hdg : decode cc pc = .ok (.invokevirtual index, 3))
    (kk : ∀ (v : Value) (H1 : Heap) (locs1 : List Loc), val v H1 → xw_R g B o τ H1 → va_S (xw_A o s.heap.size) s.heap H1 locs1 → xw_F (xw_B o) H H1 → W p l e R s m args below meth c H1 locs1 (cells + mc) (slots + ms) Q (F0 m (pc + 3) ls (v :: rest))) : W p l e R s m args below meth c H locs cells slots Q (F0 m pc ls st0) := by
  obtain ⟨hx, hb, hml, -, hown, hts, -⟩ := hC
  exact xb_callq (va_runV (As := As) (rest := rest) ⟨hx, hb, hml, hown, hts⟩ (hM H.size) (cwV As.length hts hG rfl rfl rfl hd ⟨hRf, hRl⟩) ⟨xc_P.blind, hrecv, fun U hU hw => ⟨rfl, by rw [hU], hW.to hX hS hU hw.alike, by rw [hU]; exact hE⟩⟩ rfl rfl hls hst (lv_room hrm) hdg ⟨hRc, hRs⟩) hS (xk_A hS) (xk_A hS)
    (fun v t locs1 _ hB hz hk hS1 => kk v t.heap locs1 hB.1 hB.2.1 hS1 (xw_F.call hz hk))
theorem xk_sV (hM : xc_V l y (Cond.code y bytes maxL ret) g B o lim σ τ As E fr lo mc ms) (hG : GoodIn xw_ws (wsS own index y (Cond.code y bytes maxL ret :: xw_ws)))
    (hd : y.cls = own ∧ y.cls ≠ "java/lang/invoke/MethodHandle" ∧ y.cls ≠ "java/lang/invoke/VarHandle" ∧ (parseMethodDescriptor y.desc).map (fun d => d.parameters.length) = some As.length)
    (hC : xh_C p s m args meth c own cc nL ret0) (hW : xw_W g B o lim σ0 s) (hX : xw_R g B o σ H) (hS : va_S (xw_A o s.heap.size) s.heap H locs) (hE : E H)
    (hRf : fr + 1 ≤ R.frames) (hRl : 8 + (maxL + 11) + lo ≤ R.locals) (hRc : cells + mc ≤ R.cells) (hRs : slots + ms ≤ R.slots)
    (hls : ls.size = nL) (hst : st0 = As.reverse ++ rest) (hrm : (rest.map fun v => v.category).sum ≤ 8) (hdg : decode cc pc = .ok (.invokestatic index, 3))
    (kk : ∀ (H1 : Heap) (locs1 : List Loc), xw_R g B o τ H1 → va_S (xw_A o s.heap.size) s.heap H1 locs1 → xw_F (xw_B o) H H1 → W p l e R s m args below meth c H1 locs1 (cells + mc) (slots + ms) Q (F0 m (pc + 3) ls rest)) : W p l e R s m args below meth c H locs cells slots Q (F0 m pc ls st0) := by
  obtain ⟨hx, hb, hml, -, hown, hts, -⟩ := hC
  exact xb_callv (va_runS (As := As) (rest := rest) ⟨hx, hb, hml, hown, hts⟩ (hM H.size) (cwS As.length hts hG rfl rfl rfl hd ⟨hRf, hRl⟩) ⟨xc_P.blind, fun U hU hw => ⟨rfl, by rw [hU], hW.to hX hS hU hw.alike, by rw [hU]; exact hE⟩⟩ rfl rfl hls hst (lv_room hrm) hdg ⟨hRc, hRs⟩) hS (xk_A hS) (xk_A hS)
    (fun t locs1 _ hB hz hk hS1 => kk t.heap locs1 hB.1 hS1 (xw_F.call hz hk))
theorem xk_sQ (hM : xc_Q l y (Cond.code y bytes maxL ret) g B o lim σ τ As E val fr lo mc ms) (hG : GoodIn xw_ws (wsS own index y (Cond.code y bytes maxL ret :: xw_ws)))
    (hd : y.cls = own ∧ y.cls ≠ "java/lang/invoke/MethodHandle" ∧ y.cls ≠ "java/lang/invoke/VarHandle" ∧ (parseMethodDescriptor y.desc).map (fun d => d.parameters.length) = some As.length)
    (hC : xh_C p s m args meth c own cc nL ret0) (hW : xw_W g B o lim σ0 s) (hX : xw_R g B o σ H) (hS : va_S (xw_A o s.heap.size) s.heap H locs) (hE : E H)
    (hRf : fr + 1 ≤ R.frames) (hRl : 8 + (maxL + 11) + lo ≤ R.locals) (hRc : cells + mc ≤ R.cells) (hRs : slots + ms ≤ R.slots)
    (hls : ls.size = nL) (hst : st0 = As.reverse ++ rest) (hrm : (rest.map fun v => v.category).sum ≤ 8) (hdg : decode cc pc = .ok (.invokestatic index, 3))
    (kk : ∀ (v : Value) (H1 : Heap) (locs1 : List Loc), val v H1 → xw_R g B o τ H1 → va_S (xw_A o s.heap.size) s.heap H1 locs1 → xw_F (xw_B o) H H1 → W p l e R s m args below meth c H1 locs1 (cells + mc) (slots + ms) Q (F0 m (pc + 3) ls (v :: rest))) : W p l e R s m args below meth c H locs cells slots Q (F0 m pc ls st0) := by
  obtain ⟨hx, hb, hml, -, hown, hts, -⟩ := hC
  exact xb_callq (va_runS (As := As) (rest := rest) ⟨hx, hb, hml, hown, hts⟩ (hM H.size) (cwS As.length hts hG rfl rfl rfl hd ⟨hRf, hRl⟩) ⟨xc_P.blind, fun U hU hw => ⟨rfl, by rw [hU], hW.to hX hS hU hw.alike, by rw [hU]; exact hE⟩⟩ rfl rfl hls hst (lv_room hrm) hdg ⟨hRc, hRs⟩) hS (xk_A hS) (xk_A hS)
    (fun v t locs1 _ hB hz hk hS1 => kk v t.heap locs1 hB.1 hB.2.1 hS1 (xw_F.call hz hk))
/-- ends -/
theorem xr_V (hC : xh_C p s m args meth c own cc nL none) (hW : xw_W g B o lim σ0 s) (hX : xw_R g B o σ H) (hS : va_S (xw_A o s.heap.size) s.heap H locs) (hc : cells ≤ mc) (hs : slots ≤ ms) (he : σ = τ) (hdg : decode cc pc = .ok (.return_, 1)) :
    W p l e R s m args below meth c H locs cells slots (MQ below (xb_V (fun t => xw_W g B o lim τ t) (xw_A o s.heap.size)) args s mc ms (xw_A o s.heap.size)) (F0 m pc ls []) := by
  obtain ⟨hx, hb, -, hr, -, -, hlk⟩ := hC
  subst he
  exact W.widen hc hs (W.vret hx hb hr (fun t ht hw => ⟨⟨rfl, hW.to hX hS ht hw.alike⟩, hS.F ht⟩) hS.2.2 hdg hlk)
theorem xr_I (hC : xh_C p s m args meth c own cc nL (some .int)) (hW : xw_W g B o lim σ0 s) (hX : xw_R g B o σ H) (hS : va_S (xw_A o s.heap.size) s.heap H locs) (hc : cells ≤ mc) (hs : slots ≤ ms) (he : σ = τ) {v : Int32} (hv : val (.int v) H) (hdg : decode cc pc = .ok (.ireturn, 1)) :
    W p l e R s m args below meth c H locs cells slots (MQ below (xb_Q (fun v t => val v t.heap ∧ xw_W g B o lim τ t) (xw_A o s.heap.size)) args s mc ms (xw_A o s.heap.size)) (F0 m pc ls [.int v]) := by
  obtain ⟨hx, hb, -, hr, -, -, hlk⟩ := hC
  subst he
  exact W.widen hc hs (W.iret hx hb hr (fun t ht hw => ⟨⟨.int v, rfl, by rw [ht]; exact hv, hW.to hX hS ht hw.alike⟩, hS.F ht⟩) hS.2.2 hdg hlk)
theorem xr_Z (hC : xh_C p s m args meth c own cc nL (some .boolean)) (hW : xw_W g B o lim σ0 s) (hX : xw_R g B o σ H) (hS : va_S (xw_A o s.heap.size) s.heap H locs) (hc : cells ≤ mc) (hs : slots ≤ ms) (he : σ = τ) {v : Int32} (hn : narrow .boolean (.int v) = .int v) (hv : val (.int v) H) (hdg : decode cc pc = .ok (.ireturn, 1)) :
    W p l e R s m args below meth c H locs cells slots (MQ below (xb_Q (fun v t => val v t.heap ∧ xw_W g B o lim τ t) (xw_A o s.heap.size)) args s mc ms (xw_A o s.heap.size)) (F0 m pc ls [.int v]) := by
  obtain ⟨hx, hb, -, hr, -, -, hlk⟩ := hC
  subst he
  exact W.widen hc hs (W.zret hx hb hr hn (fun t ht hw => ⟨⟨.int v, rfl, by rw [ht]; exact hv, hW.to hX hS ht hw.alike⟩, hS.F ht⟩) hS.2.2 hdg hlk)
theorem xr_R {rt : String} (hC : xh_C p s m args meth c own cc nL (some (.object rt))) (hW : xw_W g B o lim σ0 s) (hX : xw_R g B o σ H) (hS : va_S (xw_A o s.heap.size) s.heap H locs) (hc : cells ≤ mc) (hs : slots ≤ ms) (he : σ = τ) {v : Value} (hn : v = .null ∨ ∃ a, v = .ref a) (hv : val v H) (hdg : decode cc pc = .ok (.areturn, 1)) :
    W p l e R s m args below meth c H locs cells slots (MQ below (xb_Q (fun v t => val v t.heap ∧ xw_W g B o lim τ t) (xw_A o s.heap.size)) args s mc ms (xw_A o s.heap.size)) (F0 m pc ls [v]) := by
  obtain ⟨hx, hb, -, hr, -, -, hlk⟩ := hC
  subst he
  exact W.widen hc hs (W.aret hx hb hr (Or.inl ⟨rt, rfl⟩) hn (fun t ht hw => ⟨⟨v, rfl, by rw [ht]; exact hv, hW.to hX hS ht hw.alike⟩, hS.F ht⟩) hS.2.2 hdg hlk)
end XK
