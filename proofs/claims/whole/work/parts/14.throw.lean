/-! 'throw new E()', and the catching of what a callee threw. -/
section XEF
variable {p : Program} {l : Launch} {e : Env} {R : Room} {s : State} {m : MethodId} {args : Array Value} {below : List Frame} {meth : Method} {c : Code} {T : State} {H : Heap} {locs : List Loc} {cells slots : Nat} {Q : State → Prop}
/-- the invocation, seen as if it began here -/
theorem xe_rebase (X : Stand p l e R s m args below meth c T locs cells slots) {Rn : Room} (hf : Rn.frames ≤ R.frames) (hl : Rn.locals ≤ R.locals) (hc : cells + Rn.cells ≤ R.cells) (hs : slots + Rn.slots ≤ R.slots) :
    Stand p l e Rn ((T.setVm s.vm).setFrames (.invoking m args :: below)) m args below meth c T [] 0 0 := by
  obtain ⟨g₀, hg0⟩ := Option.isSome_iff_exists.mp X.here.top
  obtain ⟨r, hr⟩ := State.topJava?_eq_some.mp hg0
  have hr' : (T.setVm s.vm).frames = .java g₀ :: r := hr
  have hcur : (T.setVm s.vm).cur < (T.setVm s.vm).threads.size := State.cur_lt_of_frames hr'
  have hF : ((T.setVm s.vm).setFrames (.invoking m args :: below)).frames = .invoking m args :: below := State.frames_setFrames _ hcur
  have hlim : e.platform.stackLimits (T.setVm s.vm).me = e.platform.stackLimits s.me := X.limits
  have hby : (T.setVm s.vm).me.stackBytes = s.me.stackBytes := X.bytes
  have hU : ((T.setVm s.vm).setFrames (.invoking m args :: below)).localsInUse = s.localsInUse := by
    rw [State.localsInUse_invoking hF (meth := meth) (c := c) X.method X.code, State.localsInUse_invoking X.frames X.method X.code]
  refine ⟨X.admits, X.cas, X.clock, hF, ?_, X.hears, X.method, X.code, X.here, X.tail, X.warmed, ?_, ?_, ?_⟩
  · have h := X.room
    have q1 := X.heapSize
    have q2 := X.used
    simp only [State.hasRoom, Bool.and_eq_true, decide_eq_true_eq] at h ⊢
    obtain ⟨⟨⟨⟨h1, h2, h3, h4, h5, h6⟩, h7⟩, h8⟩, h9⟩ := h
    rw [X.frames, List.length_cons] at h2 h3
    simp only [hF, hU, List.length_cons, State.stackLimits_setFrames, State.stackBytes_setFrames, hlim, hby]
    refine ⟨⟨⟨⟨by omega, by omega, by omega, by omega, by omega, h6⟩, ?_⟩, ?_⟩, X.book⟩
    · show T.heap.size + Rn.cells ≤ e.platform.maxCells
      omega
    · show T.slotsUsed + Rn.slots ≤ e.platform.maxSlots
      omega
  · rw [State.stackLimits_setFrames]; rfl
  · rw [State.stackBytes_setFrames]; rfl
  · obtain ⟨t, ht, -⟩ := State.frames_cons hF
    have h := (State.sameButNew.refl ((T.setVm s.vm).setFrames (.invoking m args :: below)) ht).setFrames (T.setVm s.vm).frames (State.cur_lt_of_frames hF)
    rw [State.setFrames_setFrames] at h
    obtain ⟨t2, ht2, -⟩ := State.frames_cons hr'
    rw [State.setFrames_self ht2] at h
    exact h
variable {cc : ByteArray} {pc mc ms : Nat} {ls : Array Slot} {rest : List Value} {own cls : String} {names : List String} {ik ic lim : Nat} {A : Nat → Prop} {B : State → Prop} {free : Addr → Prop} {Qc : Array Value → State → Outcome → State → Prop}
/-- the words of a throw but the four that look into the heap -/
def xe_no (w : Cond) : Bool := decide (w ≠ .isRef (.static Bundle.tN "UNASSIGNED_STACK" Bundle.steD)) && decide (w ≠ .isRef (.static Bundle.tN "SUPPRESSED_SENTINEL" Bundle.listD)) && decide (w ≠ .laysStatic Bundle.tN "UNASSIGNED_STACK" Bundle.steD) && decide (w ≠ .laysStatic Bundle.tN "SUPPRESSED_SENTINEL" Bundle.listD)
theorem xe_words {L : List Cond} {U : State} (h : ∀ w ∈ L.filter xe_no, w.before args U = true) (hT : xw_T lim U) : ∀ w ∈ L, w.before args U = true := by
  intro w hw
  by_cases e1 : w = .isRef (.static Bundle.tN "UNASSIGNED_STACK" Bundle.steD)
  · rw [e1]; exact hT.1.ref
  by_cases e2 : w = .isRef (.static Bundle.tN "SUPPRESSED_SENTINEL" Bundle.listD)
  · rw [e2]; exact hT.2.ref
  by_cases e3 : w = .laysStatic Bundle.tN "UNASSIGNED_STACK" Bundle.steD
  · rw [e3]; exact hT.1.lays
  by_cases e4 : w = .laysStatic Bundle.tN "SUPPRESSED_SENTINEL" Bundle.listD
  · rw [e4]; exact hT.2.lays
  exact h w (List.mem_filter.mpr ⟨hw, by unfold xe_no; rw [decide_eq_true e1, decide_eq_true e2, decide_eq_true e3, decide_eq_true e4]; rfl⟩)
/-- 'throw new E()': new; dup; the constructor; athrow -/
theorem xe_throw0 (hexec : p.tables.exec = Jvm.exec) (hb : c.code = cc) (hsl : l.stackTraces = false) (hown : s.vm.findClass own = some m.cls) (hcls : Bundle.fit cls = true) (hnames : ∀ n ∈ names, Bundle.fit n = true)
    (hk : Cond.classLink own ik cls ∈ xw_ws) (hini : Cond.initialized cls ∈ xw_ws) (hins : Cond.instantiable cls 6 ∈ xw_ws) (hat : ∀ w ∈ (Bundle.ownAtoms0 own ic cls names).filter xe_no, w ∈ xw_ws) (hts : ∀ w ∈ xw_ws, w.before args s = true)
    (hT0 : xw_T lim s) (hlim : ∀ q, A q → lim ≤ q) (hS : va_S A s.heap H locs) (hsize : ls.size = c.maxLocals)
    (d0 : decode cc pc = .ok (.new ik, 3)) (d3 : decode cc (pc + 3) = .ok (.dup, 1)) (d4 : decode cc (pc + 4) = .ok (.invokespecial ic, 3)) (d7 : decode cc (pc + 7) = .ok (.athrow, 1)) (hout : ∀ x ∈ c.exceptionTable.toList, False)
    (hRf : names.length + 3 < R.frames) (hRl : (rest.map fun v => v.category).sum + (13 * (names.length + 1) + 42) ≤ R.locals) (hRc : cells + 1 ≤ R.cells) (hRs : slots + 6 ≤ R.slots) (hlk : meth.locks = false)
    (hB : ∀ t : State, s.vm.Alike t.vm → H.size ≤ t.heap.size → (∀ q : Nat, q < H.size → t.heap[q]? = H[q]?) → B t) (hf : ∀ z ∈ locs, free z.base) (hc : cells + 1 ≤ mc) (hs : slots + 6 ≤ ms) :
    W p l e R s m args below meth c H locs cells slots (xe_MQ below Qc (xe_Q cls B A mc ms free) args s mc ms free) (F0 m pc ls rest) := by
  intro T hT X
  have htr : e.platform.stackTraces = false := (show e.platform.stackTraces = l.stackTraces by rw [X.admits.platform]).trans hsl
  have Y := xe_rebase X (Rn := { frames := R.frames, locals := R.locals, cells := 1, slots := 6 }) (Nat.le_refl _) (Nat.le_refl _) hRc hRs
  obtain ⟨s', hA⟩ : ∃ z, z = (T.setVm s.vm).setFrames (.invoking m args :: below) := ⟨_, rfl⟩
  rw [← hA] at Y
  have hvm : s'.vm = s.vm := by rw [hA]; rfl
  have hhp : s'.heap = H := by rw [hA]; exact hT
  have hW0 : s.WarmedH s'.vm := by rw [hvm]; exact State.WarmedH.refl s
  have hw : ∀ w ∈ xw_ws, w.before args s' = true := fun w h => word_at hW0 (good_of_word (List.mem_filter.mp h).2) (hts w h)
  have hT1 : xw_T lim s' := hT0.to hW0.alike (fun q h1 h2 => by rw [hhp]; exact hS.2.1 q h1 (fun z => Nat.not_lt.mpr (hlim q z) h2))
  have h : ∀ w ∈ Bundle.ownAtoms0 own ic cls names, w.before args s' = true := xe_words (fun w hw9 => hw w (hat w hw9)) hT1
  have hown' : s'.vm.findClass own = some m.cls := by rw [hvm]; exact hown
  obtain ⟨vm₁, cX, kX, hfX, hkX, -, -, X₁, st1⟩ := Y.newCold hexec (own := own) (C := cls) (index := ik) (n := 6) hown' (hw _ hk) (hw _ hins) (hw _ hini)
    (g := F0 m pc ls rest) rfl (by rw [hb]; exact d0) (Nat.le_refl _) (Nat.le_refl _)
  generalize hT9 : (T.setVm vm₁).pushCell { cls := cX, slots := kX.instanceTypes.map defaultValue, vm := .none } = T1 at X₁ st1
  have hcellA : T1.heap[T.heap.size]? = some (freshCell cX kX) := by rw [← hT9]; exact State.heap_pushCell_size _ _
  have d3' : decode c.code (pc + 3) = .ok (.dup, 1) := by rw [hb]; exact d3
  have hcat : (Value.ref T.heap.size).category = 1 := rfl
  obtain ⟨U, hsteps, hrun, hend, hW, hsame, ce, hce, hO⟩ := X₁.ctorThrow0 hexec htr (own := own) (cls := cls) (names := names) (ic := ic) hown' hcls hnames h (fun x hx => nomatch hx) hfX hkX hcellA (by rw [hhp, hT]; exact Nat.le_refl _)
    (g := { method := m, pc := pc + 4, locals := ls, stack := .ref T.heap.size :: .ref T.heap.size :: rest, locked := none }) rfl hsize rfl rfl (rest := rest) rfl
    (by rw [hb]; exact d4) (by rw [hb]; exact d7) (fun x hx => (hout x hx).elim) hRf (by simp only [List.map_cons, List.sum_cons, hcat]; omega) hlk
  have hWs : s.WarmedH U.vm := State.WarmedH.trans hW0 hW
  obtain ⟨-, z2, -, -, -, z6⟩ := id hsame
  have f1 : H.size ≤ U.heap.size := by rw [← hhp]; exact z2
  have f2 : ∀ q : Nat, q < H.size → U.heap[q]? = H[q]? := fun q hq => by
    rw [← hhp] at hq ⊢
    obtain ⟨c9, e1, e2, e3, e4⟩ := z6 q _ (Array.getElem?_eq_getElem hq)
    have hs9 : c9.slots = (s'.heap[q]).slots := Array.ext_getElem? fun i => e4 i (fun z => nomatch z)
    have e5 : U.heap[q]? = some c9 := e1
    rw [hs9] at e2
    rw [e5, Array.getElem?_eq_getElem hq, e2]
  have hall : s.sameButNew ({ U with vm := s.vm } : State) locs mc ms := by
    subst hA
    obtain ⟨e1, e2⟩ := hsame
    rw [State.setFrames_setFrames] at e1
    have h2 : (T.setVm s.vm).sameButNew ({ U with vm := s.vm } : State) [] (0 + 1) (0 + 6) := ⟨e1, e2⟩
    have h3 := X.same.trans h2
    rw [List.append_nil] at h3
    exact h3.mono hc hs
  have hSU : va_F A s U := ⟨Nat.le_trans hS.1 f1, fun q h1 h2 => (f2 q (Nat.lt_of_lt_of_le h1 hS.1)).trans (hS.2.1 q h1 h2)⟩
  have hclc : s.vm.findClass cls = some ce.cls := by
    have h9 := hO.cls
    rw [hvm] at h9
    exact h9
  refine ⟨U, ?_, .threw T.heap.size, hrun, hend, Or.inr ⟨T.heap.size, ce, locs, rfl, hB U hWs.alike f1 f2, hSU, hce, hO.vm, hclc, hWs, hall, hf⟩⟩
  refine st1 _ ?_
  show Steps p.tables e below (T1.setTop { method := m, pc := pc + 3, locals := ls, stack := .ref T.heap.size :: rest, locked := none }) _
  jvm_step X₁.here [X₁.here.top, hexec, d3', Value.category]
  exact hsteps
end XEF
