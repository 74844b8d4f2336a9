/-! The law's own methods: each calls the face once, keeps the answer in an array of one long, and says which throw it caught. -/
def xl_A (o w sz q : Nat) : Prop := xw_A o sz q ∨ q = w
abbrev xl_O (g : xw_G) (w : Nat) (f : Nat → Int64) (H : Heap) : Prop := va_at g.1 vwCl (w, .inl (g.2 5, 1, .inr (.inl f))) H
/-- which of the thrown classes don't take each other -/
def xl_N (U : State) : Prop := ∀ q ∈ ([(2, 1), (3, 1), (3, 2), (4, 1), (1, 4)] : List (Nat × Nat)), ∃ c d, U.vm.findClass (xx_nm q.1) = some c ∧ U.vm.findClass (xx_nm q.2) = some d ∧ U.vm.assignable c d = false
theorem xl_N.moved {u U : State} (hvm : u.vm.Alike U.vm) (h : xl_N u) : xl_N U := fun q hq => by
  obtain ⟨c, d, h1, h2, h3⟩ := h q hq
  exact ⟨c, d, by rw [hvm.findClass]; exact h1, by rw [hvm.findClass]; exact h2, by rw [hvm.assignable]; exact h3⟩
theorem xw_T.old {lim : Nat} {A : Nat → Prop} {s U : State} {H : Heap} {locs : List Loc} (h : xw_T lim s) (hA : ∀ q, A q → lim ≤ q) (hS : va_S A s.heap H locs) (hU : U.heap = H) (hvm : s.vm.Alike U.vm) : xw_T lim U :=
  h.to hvm (fun q hq hl => by rw [hU]; exact hS.2.1 q hq (fun z => Nat.not_lt.mpr (hA q z) hl))
theorem xw_W.mk9 {g : xw_G} {B : Nat → Prop} {o lim : Nat} {τ : xs_S} {A : Nat → Prop} {s U : State} {H : Heap} {locs : List Loc} (hK : xw_K g s) (hT : xw_T lim s) (hlo : lim ≤ o) (hA : ∀ q, A q → lim ≤ q) (hS : va_S A s.heap H locs) (hX : xw_R g B o τ H) (hU : U.heap = H) (hvm : s.vm.Alike U.vm) : xw_W g B o lim τ U :=
  ⟨by rw [hU]; exact hX, va_K.moved hvm hK, hT.old hA hS hU hvm, hlo⟩
theorem xw_R.out {g : xw_G} {B x : Nat → Prop} {o : Nat} {σ : xs_S} {H H1 : Heap} (h : xw_R g B o σ H) (hx : ∀ q, x q → B q ∧ ¬ xw_B o q) (hF : xw_F x H H1) : xw_R g B o σ H1 := by
  obtain ⟨⟨v, h1, h2⟩, h3, h4, h5, h6, h7, h8, h9, h10⟩ := h
  have hb : ∀ q, x q → B q := fun q z => (hx q z).1
  have hn : ∀ q, o ≤ q → q < o + 56 → q ≠ o + 1 → ¬ x q := fun q a1 a2 a3 z => (hx q z).2 ⟨a1, a2, a3⟩
  refine ⟨⟨v, xw_at h1 hF (hn _ (by (try dsimp only); omega) (by (try dsimp only); omega) (by (try dsimp only); omega)), h2.F hb hF⟩, xw_at h3 hF (hn _ (by (try dsimp only); omega) (by (try dsimp only); omega) (by (try dsimp only); omega)), xw_at h4 hF (hn _ (by (try dsimp only); omega) (by (try dsimp only); omega) (by (try dsimp only); omega)), fun i hi => xw_at (h5 i hi) hF (hn _ (by (try dsimp only); omega) (by (try dsimp only); omega) (by (try dsimp only); omega)), fun i hi => xw_at (h6 i hi) hF (hn _ (by (try dsimp only); omega) (by (try dsimp only); omega) (by (try dsimp only); omega)), fun i hi => xw_at (h7 i hi) hF (hn _ (by (try dsimp only); omega) (by (try dsimp only); omega) (by (try dsimp only); omega)), fun n hn' => ?_, h9, fun q hq => Nat.lt_of_lt_of_le (h10 q hq) hF.1⟩
  have q3 := xw_qo3 hn'
  exact (h8 n hn').F hb hF (hn _ (by omega) (by omega) (by omega)) (hn _ (by omega) (by omega) (by omega))
theorem xu_R.keep {g : xw_G} {o n : Nat} {σ : xs_S} {th rp : Int32} {t : xu_X} {a : xu_M} {H H1 : Heap} (h : xu_R g o σ th rp n t a H) (hk : ∀ q, xu_W o q → H1[q]? = H[q]?) : xu_R g o σ th rp n t a H1 :=
  ⟨h.1.kept (hk o ⟨Nat.le_refl _, by omega⟩), fun k h1 h2 => (h.2.1 k h1 h2).kept (hk (o + k) ⟨by omega, by omega⟩), h.2.2⟩
theorem xu_R.lt {g : xw_G} {o n : Nat} {σ : xs_S} {th rp : Int32} {t : xu_X} {a : xu_M} {H : Heap} (h : xu_R g o σ th rp n t a H) : o + 25 ≤ H.size := by
  have h1 : o + 24 < H.size := (h.2.1 24 (by decide) (by decide)).lt
  omega
/-- a method of the law: k says which number it answers for what the call did -/
def xl_F (l : Launch) (y : MethodName) (cd : Cond) (g : xw_G) (B : Nat → Prop) (o lim w : Nat) (σ : xs_S) (res : Nat × Int32 × xs_S) (k : Nat → Int32) (av : List Value) (fr lo mc ms : Nat) : Prop :=
  ∀ (sz : Nat) (f : Nat → Int64), Met l y (cd :: xw_ws) { frames := fr, cells := mc, slots := ms, locals := lo } (va_Pc av (fun U => U.heap.size = sz ∧ xw_W g B o lim σ U ∧ xl_O g w f U.heap ∧ xl_N U))
    (xb_Q (fun v t => v = .int (k res.1) ∧ xw_R g B o res.2.2 t.heap ∧ ∃ f' : Nat → Int64, xl_O g w f' t.heap ∧ (res.1 = 0 → f' 0 = res.2.1.toInt64)) (xl_A o w sz)) mc ms (xl_A o w sz)
section XLH
variable {l : Launch} {y : MethodName} {own : String} {cc : ByteArray} {maxL : Nat} {ret : Option FieldType} {hh : List (Nat × Nat × Nat × Nat)} {g : xw_G} {B : Nat → Prop} {o lim w : Nat} {σ : xs_S} {av : List Value} {fr lo mc ms : Nat} {res : Nat × Int32 × xs_S} {k : Nat → Int32}
theorem xl_hd (hy : plainName y.cls = true) (ho : y.cls = own) (hn : (lg_sl av).length ≤ maxL)
    (body : ∀ (p : Program) (e : Env) (R : Room) (s : State) (m : MethodId) (below : List Frame) (meth : Method) (c : Code) (ls : Array Slot) (f : Nat → Int64), R.frames = fr → R.locals = lo → R.cells = mc → R.slots = ms → c.exceptionTable.toList.map (fun h => (h.startPc, h.endPc, h.handlerPc, h.catchType)) = hh → xh_C p s m av.toArray meth c own cc maxL ret → xw_W g B o lim σ s → xl_O g w f s.heap → xl_N s → lv_has ls maxL (lv_args 0 av) →
      W p l e R s m av.toArray below meth c s.heap [] 0 0 (MQ below (xb_Q (fun v t => v = .int (k res.1) ∧ xw_R g B o res.2.2 t.heap ∧ ∃ f' : Nat → Int64, xl_O g w f' t.heap ∧ (res.1 = 0 → f' 0 = res.2.1.toInt64)) (xl_A o w s.heap.size)) av.toArray s mc ms (xl_A o w s.heap.size)) (F0 m 0 ls [])) : xl_F l y (Cond.codeWith y cc maxL ret hh) g B o lim w σ res k av fr lo mc ms := by
  intro sz f
  refine va_MetW (cc := cc) (maxL := maxL) (ret := ret) (hh := hh) hy rfl ?_
  intro p e s m args below meth c s₁ B0 hml hv
  obtain ⟨rfl, hsz, hW, hO, hN⟩ := hv
  subst hsz
  have hts := atoms_spec (ws := Cond.codeWith y cc maxL ret hh :: xw_ws) B0.pre
  have hown : s.vm.findClass own = some m.cls := ho ▸ findClass_of_methodNamed B0.named
  have hl := lv_entry av (n := maxL) hn
  obtain ⟨m', meth', c', q1, q2, q3, -, -, htab, -, -, -⟩ := Cond.codeWith_spec (hts _ List.mem_cons_self)
  cases B0.named.symm.trans q1
  cases B0.method.symm.trans q2
  cases (Stand.of_body B0).code.symm.trans q3
  rw [lg_entry_eq]
  exact body p e _ s m below meth c _ f rfl rfl rfl rfl htab ⟨B0.exec, B0.bytes, hml, B0.returns, hown, fun w h => hts w (List.mem_cons_of_mem _ h), B0.notSynchronized⟩ hW hO hN hl
end XLH
section XLK
variable {p : Program} {l : Launch} {e : Env} {R : Room} {s : State} {m : MethodId} {args : Array Value} {below : List Frame} {meth : Method} {c : Code} {H : Heap} {locs : List Loc} {cells slots : Nat} {Q : State → Prop}
variable {cc bytes : ByteArray} {pc nL maxL index fr lo mc ms n : Nat} {ls : Array Slot} {rest st0 As : List Value} {own : String} {y : MethodName} {ret ret0 : Option FieldType} {hh : List (Nat × Nat × Nat × Nat)} {g : xw_G} {B : Nat → Prop} {o lim w : Nat} {σ0 σ : xs_S} {res : Nat × Int32 × xs_S} {k : Nat → Int32} {A0 : Nat → Prop}
/-- a call of the face, either way -/
theorem xl_iF (hM : xc_F l y (Cond.code y bytes maxL ret) g B o lim σ res (.ref o :: As) fr lo mc ms) (hG : GoodIn xw_ws (wsV own index R_X y (Cond.code y bytes maxL ret :: xw_ws)))
    (hd : y.cls = R_X ∧ y.cls ≠ "java/lang/invoke/MethodHandle" ∧ y.cls ≠ "java/lang/invoke/VarHandle" ∧ (parseMethodDescriptor y.desc).map (fun d => d.parameters.length) = some As.length)
    (hC : xh_C p s m args meth c own cc nL ret0) (hK : xw_K g s) (hT : xw_T lim s) (hlo : lim ≤ o) (hX : xw_R g B o σ H) (hS : va_S A0 s.heap H locs) (hA0 : ∀ q, A0 q → lim ≤ q) (hA1 : ∀ q, xw_A o H.size q → A0 q)
    (hRf : fr + 1 ≤ R.frames) (hRl : 8 + (maxL + 11) + lo ≤ R.locals) (hRc : cells + mc ≤ R.cells) (hRs : slots + ms ≤ R.slots)
    (hls : ls.size = nL) (hst : st0 = As.reverse ++ .ref o :: rest) (hrm : (rest.map fun v => v.category).sum ≤ 8) (hdg : decode cc pc = .ok (.invokevirtual index, 3))
    (kk : ∀ (H1 : Heap) (locs1 : List Loc), res.1 = 0 → xw_R g B o res.2.2 H1 → va_S A0 s.heap H1 locs1 → xw_F (xw_B o) H H1 → W p l e R s m args below meth c H1 locs1 (cells + mc) (slots + ms) Q (F0 m (pc + 3) ls (.int res.2.1 :: rest)))
    (kx : ∀ (ce : Cell) (q9 : Addr) (H1 : Heap) (locs1 : List Loc), ¬ res.1 = 0 → xw_R g B o res.2.2 H1 → va_S A0 s.heap H1 locs1 → xw_F (xw_B o) H H1 → H1[q9]? = some ce → ce.vm = .none → s.vm.findClass (xx_nm res.1) = some ce.cls → xe_W p l e R s m args below meth c H1 locs1 (cells + mc) (slots + ms) Q (F0 m pc ls rest) q9) : W p l e R s m args below meth c H locs cells slots Q (F0 m pc ls st0) := by
  obtain ⟨hx, hb, hml, -, hown, hts, -⟩ := hC
  have hrecv : ∃ cell : Cell, H[o]? = some cell ∧ cell.vm.isStatics = false ∧ s.vm.findClass R_X = some cell.cls := by
    obtain ⟨v, h1, -⟩ := hX.1
    exact xb_recv hK (ci := xi_X) rfl h1
  have hpre : PreV s H R_X o (xc_P g B o lim σ (.ref o :: As) (fun _ => True) H.size) As := ⟨xc_P.blind, hrecv, fun U hU hw => ⟨rfl, by rw [hU], xw_W.mk9 hK hT hlo hA0 hS hX hU hw.alike, trivial⟩⟩
  by_cases h0 : res.1 = 0
  · have hM0 : Met l y (Cond.code y bytes maxL ret :: xw_ws) { frames := fr, cells := mc, slots := ms, locals := lo } (xc_P g B o lim σ (.ref o :: As) (fun _ => True) H.size) (xf_Q g B o lim res H.size) mc ms (xw_A o H.size) :=
      xe_returns (hM H.size) (fun _ _ h => h) (fun _ _ _ _ _ h => by obtain ⟨_, _, _, _, h9, _⟩ := h; exact h9.1 h0)
    exact xb_callq (va_runV (As := As) (rest := rest) ⟨hx, hb, hml, hown, hts⟩ hM0 (cwV As.length hts hG rfl rfl rfl hd ⟨hRf, hRl⟩) hpre rfl rfl hls hst (lv_room hrm) hdg ⟨hRc, hRs⟩) hS hA1 hA1
      (fun v t locs1 _ hB hz hk hS1 => by
        obtain ⟨-, rfl, hW1⟩ := hB
        exact kk t.heap locs1 h0 hW1.1 hS1 (xw_F.call hz hk))
  · have hM1 : xe_Met l y (Cond.code y bytes maxL ret :: xw_ws) { frames := fr, cells := mc, slots := ms, locals := lo } (xc_P g B o lim σ (.ref o :: As) (fun _ => True) H.size) (xx_nm res.1) (fun t => ¬ res.1 = 0 ∧ xw_W g B o lim res.2.2 t) (xw_A o H.size) mc ms (xw_A o H.size) :=
      xe_throws (hM H.size) (fun _ _ h => h) (fun _ _ _ _ _ h => by obtain ⟨⟨_, _, h9, _⟩, _⟩ := h; exact h0 h9) (fun _ _ _ _ _ h => h)
    exact xe_callV (As := As) (rest := rest) ⟨hx, hb, hml, hown, hts⟩ hM1 (cwV As.length hts hG rfl rfl rfl hd ⟨hRf, hRl⟩) hpre rfl hls hst hrm hdg hRc hRs hS hA1 hA1
      (fun ce q9 t locs1 _ hB hz hk hS1 h1 h2 h3 => kx ce q9 t.heap locs1 h0 hB.2.1 hS1 (xw_F.call hz hk) h1 h2 h3)
/-- the answer goes into the array -/
theorem xl_put (hx : p.tables.exec = Jvm.exec) (hb : c.code = cc) (hK : xw_K g s) {f : Nat → Int64} {x : Int64} (hO : xl_O g w f H) (hdg : decode cc pc = .ok (.lastore, 1))
    (kk : ∀ (H1 : Heap) (lc : Loc), lc.base = w → xl_O g w (vp_updL f 0 x) H1 → H1.size = H.size → (∀ q : Nat, q ≠ w → H1[q]? = H[q]?) → W p l e R s m args below meth c H1 (locs ++ [lc]) cells slots Q (F0 m (pc + 1) ls rest)) : W p l e R s m args below meth c H locs cells slots Q (F0 m pc ls (.long x :: .int 0 :: .ref w :: rest)) := by
  refine W.last hx hb hO ((hK.2 5 _ rfl).1 1 (fun j => .long (f j))) (fun q => by cases q) (by show ¬ ((0 : Int32) < 0 ∨ (arrV _ _ _).slots.size ≤ _); rw [arrV_size]; show ¬ ((0 : Int32) < 0 ∨ 1 ≤ (0 : Int32).toNatClampNeg); decide) rfl rfl hdg fun H1 e z oq => ?_
  refine kk H1 _ rfl ?_ z oq
  show H1[w]? = some (vp_cell _ _)
  rw [e]
  rw [vp_cell_l, vp_cell_l, arrV_store]
  congr 2
  funext q
  by_cases hq : q = 0
  · subst hq
    simp [updV, vp_updL]
  · simp [updV, vp_updL, hq]
theorem xl_get (hx : p.tables.exec = Jvm.exec) (hb : c.code = cc) (hK : xw_K g s) {f : Nat → Int64} (hO : xl_O g w f H) (hdg : decode cc pc = .ok (.laload, 1))
    (kk : W p l e R s m args below meth c H locs cells slots Q (F0 m (pc + 1) ls (.long (f 0) :: rest))) : W p l e R s m args below meth c H locs cells slots Q (F0 m pc ls (.int 0 :: .ref w :: rest)) :=
  va_lald hx hb hK (xb_one hO) 0 5 rfl rfl (i := 0) (show ¬ ((0 : Int32) < 0 ∨ 1 ≤ (0 : Int32).toNatClampNeg) from by decide) hdg kk
/-- the end of a method of the law -/
theorem xl_ret (hC : xh_C p s m args meth c own cc nL (some .int)) {f' : Nat → Int64} {σ' : xs_S} (hX : xw_R g B o σ' H) (hO : xl_O g w f' H) (hS : va_S (xl_A o w s.heap.size) s.heap H locs) (hc : cells ≤ mc) (hs : slots ≤ ms) {v : Int32} (he : v = k res.1) (h2 : σ' = res.2.2) (h0 : res.1 = 0 → f' 0 = res.2.1.toInt64) (hdg : decode cc pc = .ok (.ireturn, 1)) :
    W p l e R s m args below meth c H locs cells slots (MQ below (xb_Q (fun v t => v = .int (k res.1) ∧ xw_R g B o res.2.2 t.heap ∧ ∃ f' : Nat → Int64, xl_O g w f' t.heap ∧ (res.1 = 0 → f' 0 = res.2.1.toInt64)) (xl_A o w s.heap.size)) args s mc ms (xl_A o w s.heap.size)) (F0 m pc ls [.int v]) := by
  obtain ⟨hx, hb, -, hr, -, -, hlk⟩ := hC
  subst he
  subst h2
  exact W.widen hc hs (W.iret hx hb hr (fun t ht hw => ⟨⟨.int (k res.1), rfl, rfl, by rw [ht]; exact hX, f', by rw [ht]; exact hO, h0⟩, hS.F ht⟩) hS.2.2 hdg hlk)
/-- a call of a static method that has a table -/
theorem xl_runS {rm : Room} {Pc : Array Value → State → Prop} {Qc : Array Value → State → Outcome → State → Prop} {free : Addr → Prop} (hC : xh_C p s m args meth c own cc nL ret0) (hM : Met l y (Cond.codeWith y bytes maxL ret hh :: xw_ws) rm Pc Qc mc ms free)
    (hcd : Cond.codeWith y bytes maxL ret hh ∈ xw_ws) (hlk : Cond.methodLink own index y ∈ xw_ws) (hsta : Cond.static y ∈ xw_ws) (hini : Cond.initialized y.cls ∈ xw_ws)
    (hd : y.cls ≠ "java/lang/invoke/MethodHandle" ∧ y.cls ≠ "java/lang/invoke/VarHandle" ∧ (parseMethodDescriptor y.desc).map (fun d => d.parameters.length) = some As.length)
    (hrc : rm.cells = mc) (hrs : rm.slots = ms) (hRf : rm.frames + 1 ≤ R.frames) (hRl : 8 + (maxL + 11) + rm.locals ≤ R.locals) (hRc : cells + mc ≤ R.cells) (hRs : slots + ms ≤ R.slots) (hp : PreS s H Pc As)
    (hls : ls.size = nL) (hst : st0 = As.reverse ++ rest) (hrm : (rest.map fun v => v.category).sum ≤ 8) (hdg : decode cc pc = .ok (.invokestatic index, 3)) :
    va_Run p l e R s m args below meth c H locs cells slots mc ms (F0 m pc ls st0) rest (Qc As.toArray) free := by
  obtain ⟨hx, hb, hml, -, hown, hts, -⟩ := hC
  have hK : Back l R p e below s args y 3 8 (PreOf R mc ms Pc) (PostOf Qc mc ms free) :=
    va_backW (bytes := bytes) (maxL := maxL) (ret := ret) (hh := hh) hM hp.1 hrc hrs hRf hRl (pay_in hts (xw_good hcd)) List.mem_cons_self (fun a' U hW => word_at hW (Or.inl (by first | rfl | simp [Cond.onTables, Cond.keeps, Cond.steady])) (hts _ hini))
  intro T hT X
  obtain ⟨mk, methM, cM, hnamed, hmethM, -, -, -, -, -, -, hsigM⟩ := Cond.codeWith_spec (hts _ hcd)
  have hstatic : methM.isStatic = true := Cond.static_spec hnamed hmethM (hts _ hsta)
  obtain ⟨kP, hkP, -⟩ := className_of_methodNamed hnamed
  have hinitP : kP.init = .initialized := Cond.initialized_spec (findClass_of_methodNamed hnamed) hkP (hts _ hini)
  have hdg' : decode c.code pc = .ok (.invokestatic index, 3) := by rw [hb]; exact hdg
  have hlen : As.length = methM.sig.parameters.length := by
    have h1 := hd.2.2
    rw [hsigM] at h1
    exact (Option.some.inj h1).symm
  obtain ⟨vm₁, X₁, hstep₁⟩ := X.invokestatic hx hown (hts _ hlk) hnamed hmethM hstatic hkP hinitP ⟨hd.1, hd.2.1⟩ (g := F0 m pc ls st0) rfl (argsL := As) (rest := rest) hlen hst hdg'
  obtain ⟨v, ⟨U', l2, c2, s2⟩, X', ⟨g', mk', t, L, e1, e2, hq, h1, hL, h2, h3⟩, st⟩ := hK m meth c ⟨T.setVm vm₁, locs, cells, slots⟩ (F0 m pc ls rest) (.invokestatic index) mk As.toArray X₁ rfl (hls.trans hml.symm) hdg' (lv_room hrm) (X₁.named hnamed) ⟨hRc, hRs, hp.2 (T.setVm vm₁) hT X₁.warmed⟩
  dsimp only [Pt.U, Pt.locs, Pt.cells, Pt.slots] at X' e1 e2 h1 h2 h3 st
  subst h1; subst h2; subst h3
  exact ⟨v, (T.setVm vm₁).calling g' mk' As.toArray, t, U', L, hT, X', hL, e1, e2, hq, fun target h => hstep₁ _ fun acts => by rw [doInvoke_state]; exact st.trans h⟩
/-- a call of one of the law's methods -/
theorem xl_sF {f : Nat → Int64} (hM : xl_F l y (Cond.codeWith y bytes maxL ret hh) g B o lim w σ res k As fr lo mc ms)
    (hcd : Cond.codeWith y bytes maxL ret hh ∈ xw_ws) (hlk : Cond.methodLink own index y ∈ xw_ws) (hsta : Cond.static y ∈ xw_ws) (hini : Cond.initialized y.cls ∈ xw_ws)
    (hd : y.cls ≠ "java/lang/invoke/MethodHandle" ∧ y.cls ≠ "java/lang/invoke/VarHandle" ∧ (parseMethodDescriptor y.desc).map (fun d => d.parameters.length) = some As.length)
    (hC : xh_C p s m args meth c own cc nL ret0) (hK : xw_K g s) (hT : xw_T lim s) (hlo : lim ≤ o) (hN : xl_N s) (hX : xw_R g B o σ H) (hO : xl_O g w f H) (hS : va_S A0 s.heap H locs) (hA0 : ∀ q, A0 q → lim ≤ q) (hA1 : ∀ q, xl_A o w H.size q → A0 q)
    (hRf : fr + 1 ≤ R.frames) (hRl : 8 + (maxL + 11) + lo ≤ R.locals) (hRc : cells + mc ≤ R.cells) (hRs : slots + ms ≤ R.slots)
    (hls : ls.size = nL) (hst : st0 = As.reverse ++ rest) (hrm : (rest.map fun v => v.category).sum ≤ 8) (hdg : decode cc pc = .ok (.invokestatic index, 3))
    (kk : ∀ (H1 : Heap) (locs1 : List Loc) (f : Nat → Int64), (res.1 = 0 → f 0 = res.2.1.toInt64) → xw_R g B o res.2.2 H1 → xl_O g w f H1 → va_S A0 s.heap H1 locs1 → xw_F (fun q => xw_B o q ∨ q = w) H H1 → W p l e R s m args below meth c H1 locs1 (cells + mc) (slots + ms) Q (F0 m (pc + 3) ls (.int (k res.1) :: rest))) : W p l e R s m args below meth c H locs cells slots Q (F0 m pc ls st0) := by
  refine xb_callq (xl_runS (As := As) (rest := rest) hC (hM H.size f) hcd hlk hsta hini hd rfl rfl hRf hRl hRc hRs ⟨fun a U f9 mk h => ⟨h.1, h.2.1, h.2.2.1.blind, h.2.2.2.1, h.2.2.2.2.moved (U := U.calling f9 mk a) (Vm.Alike.refl U.vm)⟩, fun U hU hw => ⟨rfl, by rw [hU], xw_W.mk9 hK hT hlo hA0 hS hX hU hw.alike, by rw [hU]; exact hO, hN.moved hw.alike⟩⟩ hls hst hrm hdg) hS hA1 hA1 ?_
  intro v t locs1 _ hB hz hk hS1
  obtain ⟨rfl, hX1, f1, hO1, h01⟩ := hB
  refine kk t.heap locs1 f1 h01 hX1 hO1 hS1 ⟨hz, fun q hq hnx => hk q hq ?_⟩
  intro z
  rcases z with (z | z) | z
  · exact hnx (Or.inl z)
  · exact Nat.not_le.mpr hq z
  · exact hnx (Or.inr z)
end XLK
section XLC
variable {s : State} {args : Array Value} {m : MethodId} {pc : Nat} {lim : Nat} {ce : Cell}
/-- one row of a table: the class is linked, and it takes the thrown object -/
theorem xl_T1 {i a b h k : Nat} {t : List (Nat × Nat × Nat × Nat)} (hown : s.vm.findClass R_L = some m.cls) (hlk : (Cond.classLink R_L i (xx_nm k)).before args s = true) (hc : s.vm.findClass (xx_nm k) = some ce.cls) (hpc : a ≤ pc ∧ pc < b ∧ i ≠ 0) (pl : Platform) (hpl : pl.magicAccessors = ({} : Platform).magicAccessors) : xl_T pl s m.cls pc ce.cls h ((a, b, h, i) :: t) := by
  obtain ⟨c, hc1, hcl⟩ := Cond.classLink_spec hown hlk pl hpl
  cases hc.symm.trans hc1
  refine ⟨hpc, _, hcl, Or.inl ⟨?_, rfl⟩⟩
  show s.vm.assignableAux (255 + 1) ce.cls ce.cls = true
  rw [Vm.assignableAux, Bool.or_eq_true, beq_iff_eq]
  exact Or.inl rfl
/-- one row of a table: the class is linked, and it does not take it -/
theorem xl_T2 {i a b h h' k j : Nat} {t : List (Nat × Nat × Nat × Nat)} (hown : s.vm.findClass R_L = some m.cls) (hlk : (Cond.classLink R_L i (xx_nm j)).before args s = true) (hN : xl_N s) (hkj : (k, j) ∈ ([(2, 1), (3, 1), (3, 2), (4, 1), (1, 4)] : List (Nat × Nat))) (hc : s.vm.findClass (xx_nm k) = some ce.cls) (hpc : a ≤ pc ∧ pc < b ∧ i ≠ 0) (pl : Platform) (hpl : pl.magicAccessors = ({} : Platform).magicAccessors) (ht : xl_T pl s m.cls pc ce.cls h t) : xl_T pl s m.cls pc ce.cls h ((a, b, h', i) :: t) := by
  obtain ⟨c, hc1, hcl⟩ := Cond.classLink_spec hown hlk pl hpl
  obtain ⟨c2, d2, q1, q2, q3⟩ := hN _ hkj
  cases hc.symm.trans q1
  cases hc1.symm.trans q2
  exact ⟨hpc, _, hcl, Or.inr ⟨q3, ht⟩⟩
theorem xl_kls {k : Nat} (hown : (Cond.initialized (xx_nm k)).before args s = true) (hc : s.vm.findClass (xx_nm k) = some ce.cls) : ∃ q, s.vm.classes[ce.cls]? = some q := Vm.classAt_of_findClass hc
end XLC
