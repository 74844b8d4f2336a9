/-! 'throw new E()', and the catching of what a callee threw. -/
section XEF
variable {p : Program} {l : Launch} {e : Env} {R : Room} {s : State} {m : MethodId} {args : Array Value} {below : List Frame} {meth : Method} {c : Code} {T : State} {H : Heap} {locs : List Loc} {cells slots : Nat} {Q : State → Prop}
/-- the invocation, seen as if it began here -/
theorem xe_rebase (X : Stand p l e R s m args below meth c T locs cells slots) {Rn : Room} (hf : Rn.frames ≤ R.frames) (hl : Rn.locals ≤ R.locals) (hc : cells + Rn.cells ≤ R.cells) (hs : slots + Rn.slots ≤ R.slots) :
    Stand p l e Rn ((T.setVm s.vm).setFrames (.invoking m args :: below)) m args below meth c T [] 0 0 := by
  obtain ⟨g₀, hg0⟩ := Option.isSome_iff_exists.mp X.here.top
  obtain ⟨r, hr⟩ := State.topJava?_eq_some.mp hg0
  have hr' : (T.setVm s.vm).frames = .java g₀ :: r := hr
  have hcur : (T.setVm s.vm).cur < (T.setVm s.vm).threads.size := State.cur_lt_of_frames hr'
  have hF : ((T.setVm s.vm).setFrames (.invoking m args :: below)).frames = .invoking m args :: below := State.frames_setFrames _ hcur
  have hlim : e.platform.stackLimits (T.setVm s.vm).me = e.platform.stackLimits s.me := X.limits
  have hby : (T.setVm s.vm).me.stackBytes = s.me.stackBytes := X.bytes
  have hU : ((T.setVm s.vm).setFrames (.invoking m args :: below)).localsInUse = s.localsInUse := by
    rw [State.localsInUse_invoking hF (meth := meth) (c := c) X.method X.code, State.localsInUse_invoking X.frames X.method X.code]
  refine ⟨X.admits, X.cas, X.clock, hF, ?_, X.hears, X.method, X.code, X.here, X.tail, X.warmed, ?_, ?_, ?_⟩
  · have h := X.room
    have q1 := X.heapSize
    have q2 := X.used
    simp only [State.hasRoom, Bool.and_eq_true, decide_eq_true_eq] at h ⊢
    obtain ⟨⟨⟨⟨h1, h2, h3, h4, h5, h6⟩, h7⟩, h8⟩, h9⟩ := h
    rw [X.frames, List.length_cons] at h2 h3
    simp only [hF, hU, List.length_cons, State.stackLimits_setFrames, State.stackBytes_setFrames, hlim, hby]
    refine ⟨⟨⟨⟨by omega, by omega, by omega, by omega, by omega, h6⟩, ?_⟩, ?_⟩, X.book⟩
    · show T.heap.size + Rn.cells ≤ e.platform.maxCells
      omega
    · show T.slotsUsed + Rn.slots ≤ e.platform.maxSlots
      omega
  · rw [State.stackLimits_setFrames]; rfl
  · rw [State.stackBytes_setFrames]; rfl
  · obtain ⟨t, ht, -⟩ := State.frames_cons hF
    have h := (State.sameButNew.refl ((T.setVm s.vm).setFrames (.invoking m args :: below)) ht).setFrames (T.setVm s.vm).frames (State.cur_lt_of_frames hF)
    rw [State.setFrames_setFrames] at h
    obtain ⟨t2, ht2, -⟩ := State.frames_cons hr'
    rw [State.setFrames_self ht2] at h
    exact h
variable {cc : ByteArray} {pc mc ms : Nat} {ls : Array Slot} {rest : List Value} {own cls : String} {names : List String} {ik ic lim : Nat} {A : Nat → Prop} {B : State → Prop} {free : Addr → Prop} {Qc : Array Value → State → Outcome → State → Prop}
/-- the words of a throw that no method is handed -/
def xt_no : List Cond := .isRef (.static Bundle.tN "UNASSIGNED_STACK" Bundle.steD) :: .isRef (.static Bundle.tN "SUPPRESSED_SENTINEL" Bundle.listD) :: .laysStatic Bundle.tN "UNASSIGNED_STACK" Bundle.steD :: .laysStatic Bundle.tN "SUPPRESSED_SENTINEL" Bundle.listD :: xt_fw
theorem xe_words {U : State} (h : ∀ w ∈ xw_ws, w.before args U = true) (hT : xw_T lim U) : ∀ w, w ∈ xw_ws ∨ w ∈ xt_no → w.before args U = true := by
  intro w hw
  rcases hw with hw | hw
  · exact h w hw
  · rcases List.mem_cons.mp hw with rfl | hw
    · exact hT.1.ref
    · rcases List.mem_cons.mp hw with rfl | hw
      · exact hT.2.1.ref
      · rcases List.mem_cons.mp hw with rfl | hw
        · exact hT.1.lays
        · rcases List.mem_cons.mp hw with rfl | hw
          · exact hT.2.1.lays
          · exact xt_fw_to (xt_fw_face w hw) (Vm.Alike.refl U.vm) (hT.2.2 w hw)
/-- 'throw new E()': new; dup; the constructor; athrow -/
theorem xe_throw0 (hexec : p.tables.exec = Jvm.exec) (hb : c.code = cc) (hsl : l.stackTraces = false) (hown : s.vm.findClass own = some m.cls) (hcls : Bundle.fit cls = true) (hnames : ∀ n ∈ names, Bundle.fit n = true)
    (hk : Cond.classLink own ik cls ∈ xw_ws) (hini : Cond.initialized cls ∈ xw_ws) (hins : Cond.instantiable cls 6 ∈ xw_ws) (hat : ∀ w ∈ Bundle.ownAtoms0 own ic cls names, w ∈ xw_ws ∨ w ∈ xt_no) (hts : ∀ w ∈ xw_ws, w.before args s = true)
    (hT0 : xw_T lim s) (hlim : ∀ q, A q → lim ≤ q) (hS : va_S A s.heap H locs) (hsize : ls.size = c.maxLocals)
    (d0 : decode cc pc = .ok (.new ik, 3)) (d3 : decode cc (pc + 3) = .ok (.dup, 1)) (d4 : decode cc (pc + 4) = .ok (.invokespecial ic, 3)) (d7 : decode cc (pc + 7) = .ok (.athrow, 1)) (hout : ∀ x ∈ c.exceptionTable.toList, False)
    (hRf : names.length + 3 < R.frames) (hRl : (rest.map fun v => v.category).sum + (13 * (names.length + 1) + 42) ≤ R.locals) (hRc : cells + 1 ≤ R.cells) (hRs : slots + 6 ≤ R.slots) (hlk : meth.locks = false)
    (hB : ∀ t : State, s.vm.Alike t.vm → H.size ≤ t.heap.size → (∀ q : Nat, q < H.size → t.heap[q]? = H[q]?) → B t) (hf : ∀ z ∈ locs, free z.base) (hc : cells + 1 ≤ mc) (hs : slots + 6 ≤ ms) :
    W p l e R s m args below meth c H locs cells slots (xe_MQ below Qc (xe_Q cls B A mc ms free) args s mc ms free) (F0 m pc ls rest) := by
  intro T hT X
  have htr : e.platform.stackTraces = false := (show e.platform.stackTraces = l.stackTraces by rw [X.admits.platform]).trans hsl
  have Y := xe_rebase X (Rn := { frames := R.frames, locals := R.locals, cells := 1, slots := 6 }) (Nat.le_refl _) (Nat.le_refl _) hRc hRs
  obtain ⟨s', hA⟩ : ∃ z, z = (T.setVm s.vm).setFrames (.invoking m args :: below) := ⟨_, rfl⟩
  rw [← hA] at Y
  have hvm : s'.vm = s.vm := by rw [hA]; rfl
  have hhp : s'.heap = H := by rw [hA]; exact hT
  have hW0 : s.WarmedH s'.vm := by rw [hvm]; exact State.WarmedH.refl s
  have hw : ∀ w ∈ xw_ws, w.before args s' = true := fun w h => word_at hW0 (good_of_word (List.mem_filter.mp h).2) (hts w h)
  have hT1 : xw_T lim s' := hT0.to hW0.alike (fun q h1 h2 => by rw [hhp]; exact hS.2.1 q h1 (fun z => Nat.not_lt.mpr (hlim q z) h2))
  have h : ∀ w ∈ Bundle.ownAtoms0 own ic cls names, w.before args s' = true := fun w hw9 => xe_words hw hT1 w (hat w hw9)
  have hown' : s'.vm.findClass own = some m.cls := by rw [hvm]; exact hown
  obtain ⟨vm₁, cX, kX, hfX, hkX, -, -, X₁, st1⟩ := Y.newCold hexec (own := own) (C := cls) (index := ik) (n := 6) hown' (hw _ hk) (hw _ hins) (hw _ hini)
    (g := F0 m pc ls rest) rfl (by rw [hb]; exact d0) (Nat.le_refl _) (Nat.le_refl _)
  generalize hT9 : (T.setVm vm₁).pushCell { cls := cX, slots := kX.instanceTypes.map defaultValue, vm := .none } = T1 at X₁ st1
  have hcellA : T1.heap[T.heap.size]? = some (freshCell cX kX) := by rw [← hT9]; exact State.heap_pushCell_size _ _
  have d3' : decode c.code (pc + 3) = .ok (.dup, 1) := by rw [hb]; exact d3
  have hcat : (Value.ref T.heap.size).category = 1 := rfl
  obtain ⟨U, hsteps, hrun, hend, hW, hsame, ce, hce, hO⟩ := X₁.ctorThrow0 hexec htr (own := own) (cls := cls) (names := names) (ic := ic) hown' hcls hnames h (fun x hx => nomatch hx) hfX hkX hcellA (by rw [hhp, hT]; exact Nat.le_refl _)
    (g := { method := m, pc := pc + 4, locals := ls, stack := .ref T.heap.size :: .ref T.heap.size :: rest, locked := none }) rfl hsize rfl rfl (rest := rest) rfl
    (by rw [hb]; exact d4) (by rw [hb]; exact d7) (fun x hx => (hout x hx).elim) hRf (by simp only [List.map_cons, List.sum_cons, hcat]; omega) hlk
  have hWs : s.WarmedH U.vm := State.WarmedH.trans hW0 hW
  obtain ⟨-, z2, -, -, -, z6⟩ := id hsame
  have f1 : H.size ≤ U.heap.size := by rw [← hhp]; exact z2
  have f2 : ∀ q : Nat, q < H.size → U.heap[q]? = H[q]? := fun q hq => by
    rw [← hhp] at hq ⊢
    obtain ⟨c9, e1, e2, e3, e4⟩ := z6 q _ (Array.getElem?_eq_getElem hq)
    have hs9 : c9.slots = (s'.heap[q]).slots := Array.ext_getElem? fun i => e4 i (fun z => nomatch z)
    have e5 : U.heap[q]? = some c9 := e1
    rw [hs9] at e2
    rw [e5, Array.getElem?_eq_getElem hq, e2]
  have hall : s.sameButNew ({ U with vm := s.vm } : State) locs mc ms := by
    subst hA
    obtain ⟨e1, e2⟩ := hsame
    rw [State.setFrames_setFrames] at e1
    have h2 : (T.setVm s.vm).sameButNew ({ U with vm := s.vm } : State) [] (0 + 1) (0 + 6) := ⟨e1, e2⟩
    have h3 := X.same.trans h2
    rw [List.append_nil] at h3
    exact h3.mono hc hs
  have hSU : va_F A s U := ⟨Nat.le_trans hS.1 f1, fun q h1 h2 => (f2 q (Nat.lt_of_lt_of_le h1 hS.1)).trans (hS.2.1 q h1 h2)⟩
  have hclc : s.vm.findClass cls = some ce.cls := by
    have h9 := hO.cls
    rw [hvm] at h9
    exact h9
  refine ⟨U, ?_, .threw T.heap.size, hrun, hend, Or.inr ⟨T.heap.size, ce, locs, rfl, hB U hWs.alike f1 f2, hSU, hce, hO.vm, hclc, hWs, hall, hf⟩⟩
  refine st1 _ ?_
  show Steps p.tables e below (T1.setTop { method := m, pc := pc + 3, locals := ls, stack := .ref T.heap.size :: rest, locked := none }) _
  jvm_step X₁.here [X₁.here.top, hexec, d3', Value.category]
  exact hsteps
end XEF
set_option maxRecDepth 100000 in
theorem hat_1 : ∀ w ∈ Bundle.ownAtoms0 R_X 160 "java/lang/IllegalArgumentException" ["java/lang/RuntimeException", "java/lang/Exception"], w ∈ xw_ws ∨ w ∈ xt_no := List.forall_mem_cons.mpr ⟨Or.inl (xw_t 7 rfl rfl), List.forall_mem_cons.mpr ⟨Or.inl (xw_t 266 rfl rfl), List.forall_mem_cons.mpr ⟨Or.inl (xw_t 275 rfl rfl), List.forall_mem_cons.mpr ⟨Or.inl (xw_t 280 rfl rfl), List.forall_mem_cons.mpr ⟨Or.inl (xw_t 283 rfl rfl), List.forall_mem_cons.mpr ⟨Or.inl (xw_t 285 rfl rfl), List.forall_mem_cons.mpr ⟨Or.inl (xw_t 267 rfl rfl), List.forall_mem_cons.mpr ⟨Or.inl (xw_t 268 rfl rfl), List.forall_mem_cons.mpr ⟨Or.inl (xw_t 20 rfl rfl), List.forall_mem_cons.mpr ⟨Or.inl (xw_t 21 rfl rfl), List.forall_mem_cons.mpr ⟨Or.inl (xw_t 269 rfl rfl), List.forall_mem_cons.mpr ⟨Or.inl (xw_t 274 rfl rfl), List.forall_mem_cons.mpr ⟨Or.inl (xw_t 281 rfl rfl), List.forall_mem_cons.mpr ⟨Or.inl (xw_t 297 rfl rfl), List.forall_mem_cons.mpr ⟨Or.inl (xw_t 256 rfl rfl), List.forall_mem_cons.mpr ⟨Or.inl (xw_t 298 rfl rfl), List.forall_mem_cons.mpr ⟨Or.inl (xw_t 258 rfl rfl), List.forall_mem_cons.mpr ⟨Or.inl (xw_t 299 rfl rfl), List.forall_mem_cons.mpr ⟨Or.inl (xw_t 260 rfl rfl), List.forall_mem_cons.mpr ⟨Or.inl (xw_t 270 rfl rfl), List.forall_mem_cons.mpr ⟨Or.inr (List.mem_of_getElem? (i := 2) rfl), List.forall_mem_cons.mpr ⟨Or.inl (xw_t 272 rfl rfl), List.forall_mem_cons.mpr ⟨Or.inr (List.mem_of_getElem? (i := 3) rfl), List.forall_mem_cons.mpr ⟨Or.inl (xw_t 262 rfl rfl), List.forall_mem_cons.mpr ⟨Or.inl (xw_t 287 rfl rfl), List.forall_mem_cons.mpr ⟨Or.inl (xw_t 288 rfl rfl), List.forall_mem_cons.mpr ⟨Or.inl (xw_t 289 rfl rfl), List.forall_mem_cons.mpr ⟨Or.inl (xw_t 290 rfl rfl), List.forall_mem_cons.mpr ⟨Or.inr (List.mem_of_getElem? (i := 8) rfl), List.forall_mem_cons.mpr ⟨Or.inl (xw_t 290 rfl rfl), List.forall_mem_cons.mpr ⟨Or.inl (xw_t 291 rfl rfl), List.forall_mem_cons.mpr ⟨Or.inl (xw_t 292 rfl rfl), List.forall_mem_cons.mpr ⟨Or.inl (xw_t 293 rfl rfl), List.forall_mem_cons.mpr ⟨Or.inr (List.mem_of_getElem? (i := 9) rfl), List.forall_mem_cons.mpr ⟨Or.inl (xw_t 293 rfl rfl), List.forall_mem_cons.mpr ⟨Or.inl (xw_t 294 rfl rfl), List.forall_mem_cons.mpr ⟨Or.inl (xw_t 295 rfl rfl), List.forall_mem_cons.mpr ⟨Or.inl (xw_t 267 rfl rfl), List.forall_mem_cons.mpr ⟨Or.inr (List.mem_of_getElem? (i := 10) rfl), List.forall_mem_cons.mpr ⟨Or.inl (xw_t 286 rfl rfl), List.forall_mem_cons.mpr ⟨Or.inl (xw_t 245 rfl rfl), List.forall_mem_cons.mpr ⟨Or.inr (List.mem_of_getElem? (i := 4) rfl), List.forall_mem_cons.mpr ⟨Or.inl (xw_t 253 rfl rfl), List.forall_mem_cons.mpr ⟨Or.inl (xw_t 254 rfl rfl), List.forall_mem_cons.mpr ⟨Or.inl (xw_t 255 rfl rfl), List.forall_mem_cons.mpr ⟨Or.inl (xw_t 257 rfl rfl), List.forall_mem_cons.mpr ⟨Or.inl (xw_t 259 rfl rfl), List.forall_mem_cons.mpr ⟨Or.inl (xw_t 261 rfl rfl), List.forall_mem_cons.mpr ⟨Or.inr (List.mem_of_getElem? (i := 0) rfl), List.forall_mem_cons.mpr ⟨Or.inr (List.mem_of_getElem? (i := 1) rfl), List.forall_mem_cons.mpr ⟨Or.inl (xw_t 265 rfl rfl), List.forall_mem_cons.mpr ⟨Or.inl (xw_t 264 rfl rfl), List.forall_mem_cons.mpr ⟨Or.inl (xw_t 263 rfl rfl), fun _ h => absurd h List.not_mem_nil⟩⟩⟩⟩⟩⟩⟩⟩⟩⟩⟩⟩⟩⟩⟩⟩⟩⟩⟩⟩⟩⟩⟩⟩⟩⟩⟩⟩⟩⟩⟩⟩⟩⟩⟩⟩⟩⟩⟩⟩⟩⟩⟩⟩⟩⟩⟩⟩⟩⟩⟩⟩⟩
theorem hkl_1 : Cond.classLink R_X 158 "java/lang/IllegalArgumentException" ∈ xw_ws := xw_t 244 rfl rfl
theorem hii_1 : Cond.initialized "java/lang/IllegalArgumentException" ∈ xw_ws := xw_t 10 rfl rfl
theorem hia_1 : Cond.instantiable "java/lang/IllegalArgumentException" 6 ∈ xw_ws := xw_t 245 rfl rfl
set_option maxRecDepth 100000 in
theorem hat_2 : ∀ w ∈ Bundle.ownAtoms0 R_X 177 "java/lang/IllegalStateException" ["java/lang/RuntimeException", "java/lang/Exception"], w ∈ xw_ws ∨ w ∈ xt_no := List.forall_mem_cons.mpr ⟨Or.inl (xw_t 7 rfl rfl), List.forall_mem_cons.mpr ⟨Or.inl (xw_t 266 rfl rfl), List.forall_mem_cons.mpr ⟨Or.inl (xw_t 275 rfl rfl), List.forall_mem_cons.mpr ⟨Or.inl (xw_t 280 rfl rfl), List.forall_mem_cons.mpr ⟨Or.inl (xw_t 283 rfl rfl), List.forall_mem_cons.mpr ⟨Or.inl (xw_t 285 rfl rfl), List.forall_mem_cons.mpr ⟨Or.inl (xw_t 267 rfl rfl), List.forall_mem_cons.mpr ⟨Or.inl (xw_t 268 rfl rfl), List.forall_mem_cons.mpr ⟨Or.inl (xw_t 20 rfl rfl), List.forall_mem_cons.mpr ⟨Or.inl (xw_t 21 rfl rfl), List.forall_mem_cons.mpr ⟨Or.inl (xw_t 269 rfl rfl), List.forall_mem_cons.mpr ⟨Or.inl (xw_t 274 rfl rfl), List.forall_mem_cons.mpr ⟨Or.inl (xw_t 281 rfl rfl), List.forall_mem_cons.mpr ⟨Or.inl (xw_t 297 rfl rfl), List.forall_mem_cons.mpr ⟨Or.inl (xw_t 256 rfl rfl), List.forall_mem_cons.mpr ⟨Or.inl (xw_t 298 rfl rfl), List.forall_mem_cons.mpr ⟨Or.inl (xw_t 258 rfl rfl), List.forall_mem_cons.mpr ⟨Or.inl (xw_t 299 rfl rfl), List.forall_mem_cons.mpr ⟨Or.inl (xw_t 260 rfl rfl), List.forall_mem_cons.mpr ⟨Or.inl (xw_t 270 rfl rfl), List.forall_mem_cons.mpr ⟨Or.inr (List.mem_of_getElem? (i := 2) rfl), List.forall_mem_cons.mpr ⟨Or.inl (xw_t 272 rfl rfl), List.forall_mem_cons.mpr ⟨Or.inr (List.mem_of_getElem? (i := 3) rfl), List.forall_mem_cons.mpr ⟨Or.inl (xw_t 262 rfl rfl), List.forall_mem_cons.mpr ⟨Or.inl (xw_t 321 rfl rfl), List.forall_mem_cons.mpr ⟨Or.inl (xw_t 322 rfl rfl), List.forall_mem_cons.mpr ⟨Or.inl (xw_t 323 rfl rfl), List.forall_mem_cons.mpr ⟨Or.inl (xw_t 290 rfl rfl), List.forall_mem_cons.mpr ⟨Or.inr (List.mem_of_getElem? (i := 8) rfl), List.forall_mem_cons.mpr ⟨Or.inl (xw_t 290 rfl rfl), List.forall_mem_cons.mpr ⟨Or.inl (xw_t 291 rfl rfl), List.forall_mem_cons.mpr ⟨Or.inl (xw_t 292 rfl rfl), List.forall_mem_cons.mpr ⟨Or.inl (xw_t 293 rfl rfl), List.forall_mem_cons.mpr ⟨Or.inr (List.mem_of_getElem? (i := 9) rfl), List.forall_mem_cons.mpr ⟨Or.inl (xw_t 293 rfl rfl), List.forall_mem_cons.mpr ⟨Or.inl (xw_t 294 rfl rfl), List.forall_mem_cons.mpr ⟨Or.inl (xw_t 295 rfl rfl), List.forall_mem_cons.mpr ⟨Or.inl (xw_t 267 rfl rfl), List.forall_mem_cons.mpr ⟨Or.inr (List.mem_of_getElem? (i := 10) rfl), List.forall_mem_cons.mpr ⟨Or.inl (xw_t 320 rfl rfl), List.forall_mem_cons.mpr ⟨Or.inl (xw_t 312 rfl rfl), List.forall_mem_cons.mpr ⟨Or.inr (List.mem_of_getElem? (i := 5) rfl), List.forall_mem_cons.mpr ⟨Or.inl (xw_t 314 rfl rfl), List.forall_mem_cons.mpr ⟨Or.inl (xw_t 277 rfl rfl), List.forall_mem_cons.mpr ⟨Or.inl (xw_t 315 rfl rfl), List.forall_mem_cons.mpr ⟨Or.inl (xw_t 316 rfl rfl), List.forall_mem_cons.mpr ⟨Or.inl (xw_t 317 rfl rfl), List.forall_mem_cons.mpr ⟨Or.inl (xw_t 318 rfl rfl), List.forall_mem_cons.mpr ⟨Or.inr (List.mem_of_getElem? (i := 0) rfl), List.forall_mem_cons.mpr ⟨Or.inr (List.mem_of_getElem? (i := 1) rfl), List.forall_mem_cons.mpr ⟨Or.inl (xw_t 265 rfl rfl), List.forall_mem_cons.mpr ⟨Or.inl (xw_t 264 rfl rfl), List.forall_mem_cons.mpr ⟨Or.inl (xw_t 319 rfl rfl), fun _ h => absurd h List.not_mem_nil⟩⟩⟩⟩⟩⟩⟩⟩⟩⟩⟩⟩⟩⟩⟩⟩⟩⟩⟩⟩⟩⟩⟩⟩⟩⟩⟩⟩⟩⟩⟩⟩⟩⟩⟩⟩⟩⟩⟩⟩⟩⟩⟩⟩⟩⟩⟩⟩⟩⟩⟩⟩⟩
theorem hkl_2 : Cond.classLink R_X 175 "java/lang/IllegalStateException" ∈ xw_ws := xw_t 311 rfl rfl
theorem hii_2 : Cond.initialized "java/lang/IllegalStateException" ∈ xw_ws := xw_t 11 rfl rfl
theorem hia_2 : Cond.instantiable "java/lang/IllegalStateException" 6 ∈ xw_ws := xw_t 312 rfl rfl
set_option maxRecDepth 100000 in
theorem hat_3 : ∀ w ∈ Bundle.ownAtoms0 R_X 92 "java/lang/UnsupportedOperationException" ["java/lang/RuntimeException", "java/lang/Exception"], w ∈ xw_ws ∨ w ∈ xt_no := List.forall_mem_cons.mpr ⟨Or.inl (xw_t 7 rfl rfl), List.forall_mem_cons.mpr ⟨Or.inl (xw_t 266 rfl rfl), List.forall_mem_cons.mpr ⟨Or.inl (xw_t 275 rfl rfl), List.forall_mem_cons.mpr ⟨Or.inl (xw_t 280 rfl rfl), List.forall_mem_cons.mpr ⟨Or.inl (xw_t 283 rfl rfl), List.forall_mem_cons.mpr ⟨Or.inl (xw_t 285 rfl rfl), List.forall_mem_cons.mpr ⟨Or.inl (xw_t 267 rfl rfl), List.forall_mem_cons.mpr ⟨Or.inl (xw_t 268 rfl rfl), List.forall_mem_cons.mpr ⟨Or.inl (xw_t 20 rfl rfl), List.forall_mem_cons.mpr ⟨Or.inl (xw_t 21 rfl rfl), List.forall_mem_cons.mpr ⟨Or.inl (xw_t 269 rfl rfl), List.forall_mem_cons.mpr ⟨Or.inl (xw_t 274 rfl rfl), List.forall_mem_cons.mpr ⟨Or.inl (xw_t 281 rfl rfl), List.forall_mem_cons.mpr ⟨Or.inl (xw_t 297 rfl rfl), List.forall_mem_cons.mpr ⟨Or.inl (xw_t 256 rfl rfl), List.forall_mem_cons.mpr ⟨Or.inl (xw_t 298 rfl rfl), List.forall_mem_cons.mpr ⟨Or.inl (xw_t 258 rfl rfl), List.forall_mem_cons.mpr ⟨Or.inl (xw_t 299 rfl rfl), List.forall_mem_cons.mpr ⟨Or.inl (xw_t 260 rfl rfl), List.forall_mem_cons.mpr ⟨Or.inl (xw_t 270 rfl rfl), List.forall_mem_cons.mpr ⟨Or.inr (List.mem_of_getElem? (i := 2) rfl), List.forall_mem_cons.mpr ⟨Or.inl (xw_t 272 rfl rfl), List.forall_mem_cons.mpr ⟨Or.inr (List.mem_of_getElem? (i := 3) rfl), List.forall_mem_cons.mpr ⟨Or.inl (xw_t 262 rfl rfl), List.forall_mem_cons.mpr ⟨Or.inl (xw_t 369 rfl rfl), List.forall_mem_cons.mpr ⟨Or.inl (xw_t 370 rfl rfl), List.forall_mem_cons.mpr ⟨Or.inl (xw_t 371 rfl rfl), List.forall_mem_cons.mpr ⟨Or.inl (xw_t 290 rfl rfl), List.forall_mem_cons.mpr ⟨Or.inr (List.mem_of_getElem? (i := 8) rfl), List.forall_mem_cons.mpr ⟨Or.inl (xw_t 290 rfl rfl), List.forall_mem_cons.mpr ⟨Or.inl (xw_t 291 rfl rfl), List.forall_mem_cons.mpr ⟨Or.inl (xw_t 292 rfl rfl), List.forall_mem_cons.mpr ⟨Or.inl (xw_t 293 rfl rfl), List.forall_mem_cons.mpr ⟨Or.inr (List.mem_of_getElem? (i := 9) rfl), List.forall_mem_cons.mpr ⟨Or.inl (xw_t 293 rfl rfl), List.forall_mem_cons.mpr ⟨Or.inl (xw_t 294 rfl rfl), List.forall_mem_cons.mpr ⟨Or.inl (xw_t 295 rfl rfl), List.forall_mem_cons.mpr ⟨Or.inl (xw_t 267 rfl rfl), List.forall_mem_cons.mpr ⟨Or.inr (List.mem_of_getElem? (i := 10) rfl), List.forall_mem_cons.mpr ⟨Or.inl (xw_t 368 rfl rfl), List.forall_mem_cons.mpr ⟨Or.inl (xw_t 360 rfl rfl), List.forall_mem_cons.mpr ⟨Or.inr (List.mem_of_getElem? (i := 6) rfl), List.forall_mem_cons.mpr ⟨Or.inl (xw_t 362 rfl rfl), List.forall_mem_cons.mpr ⟨Or.inl (xw_t 278 rfl rfl), List.forall_mem_cons.mpr ⟨Or.inl (xw_t 363 rfl rfl), List.forall_mem_cons.mpr ⟨Or.inl (xw_t 364 rfl rfl), List.forall_mem_cons.mpr ⟨Or.inl (xw_t 365 rfl rfl), List.forall_mem_cons.mpr ⟨Or.inl (xw_t 366 rfl rfl), List.forall_mem_cons.mpr ⟨Or.inr (List.mem_of_getElem? (i := 0) rfl), List.forall_mem_cons.mpr ⟨Or.inr (List.mem_of_getElem? (i := 1) rfl), List.forall_mem_cons.mpr ⟨Or.inl (xw_t 265 rfl rfl), List.forall_mem_cons.mpr ⟨Or.inl (xw_t 264 rfl rfl), List.forall_mem_cons.mpr ⟨Or.inl (xw_t 367 rfl rfl), fun _ h => absurd h List.not_mem_nil⟩⟩⟩⟩⟩⟩⟩⟩⟩⟩⟩⟩⟩⟩⟩⟩⟩⟩⟩⟩⟩⟩⟩⟩⟩⟩⟩⟩⟩⟩⟩⟩⟩⟩⟩⟩⟩⟩⟩⟩⟩⟩⟩⟩⟩⟩⟩⟩⟩⟩⟩⟩⟩
theorem hkl_3 : Cond.classLink R_X 90 "java/lang/UnsupportedOperationException" ∈ xw_ws := xw_t 359 rfl rfl
theorem hii_3 : Cond.initialized "java/lang/UnsupportedOperationException" ∈ xw_ws := xw_t 12 rfl rfl
theorem hia_3 : Cond.instantiable "java/lang/UnsupportedOperationException" 6 ∈ xw_ws := xw_t 360 rfl rfl
set_option maxRecDepth 100000 in
theorem hat_4 : ∀ w ∈ Bundle.ownAtoms0 R_X 147 "java/util/NoSuchElementException" ["java/lang/RuntimeException", "java/lang/Exception"], w ∈ xw_ws ∨ w ∈ xt_no := List.forall_mem_cons.mpr ⟨Or.inl (xw_t 7 rfl rfl), List.forall_mem_cons.mpr ⟨Or.inl (xw_t 266 rfl rfl), List.forall_mem_cons.mpr ⟨Or.inl (xw_t 275 rfl rfl), List.forall_mem_cons.mpr ⟨Or.inl (xw_t 280 rfl rfl), List.forall_mem_cons.mpr ⟨Or.inl (xw_t 283 rfl rfl), List.forall_mem_cons.mpr ⟨Or.inl (xw_t 285 rfl rfl), List.forall_mem_cons.mpr ⟨Or.inl (xw_t 267 rfl rfl), List.forall_mem_cons.mpr ⟨Or.inl (xw_t 268 rfl rfl), List.forall_mem_cons.mpr ⟨Or.inl (xw_t 20 rfl rfl), List.forall_mem_cons.mpr ⟨Or.inl (xw_t 21 rfl rfl), List.forall_mem_cons.mpr ⟨Or.inl (xw_t 269 rfl rfl), List.forall_mem_cons.mpr ⟨Or.inl (xw_t 274 rfl rfl), List.forall_mem_cons.mpr ⟨Or.inl (xw_t 281 rfl rfl), List.forall_mem_cons.mpr ⟨Or.inl (xw_t 297 rfl rfl), List.forall_mem_cons.mpr ⟨Or.inl (xw_t 256 rfl rfl), List.forall_mem_cons.mpr ⟨Or.inl (xw_t 298 rfl rfl), List.forall_mem_cons.mpr ⟨Or.inl (xw_t 258 rfl rfl), List.forall_mem_cons.mpr ⟨Or.inl (xw_t 299 rfl rfl), List.forall_mem_cons.mpr ⟨Or.inl (xw_t 260 rfl rfl), List.forall_mem_cons.mpr ⟨Or.inl (xw_t 270 rfl rfl), List.forall_mem_cons.mpr ⟨Or.inr (List.mem_of_getElem? (i := 2) rfl), List.forall_mem_cons.mpr ⟨Or.inl (xw_t 272 rfl rfl), List.forall_mem_cons.mpr ⟨Or.inr (List.mem_of_getElem? (i := 3) rfl), List.forall_mem_cons.mpr ⟨Or.inl (xw_t 262 rfl rfl), List.forall_mem_cons.mpr ⟨Or.inl (xw_t 475 rfl rfl), List.forall_mem_cons.mpr ⟨Or.inl (xw_t 476 rfl rfl), List.forall_mem_cons.mpr ⟨Or.inl (xw_t 477 rfl rfl), List.forall_mem_cons.mpr ⟨Or.inl (xw_t 290 rfl rfl), List.forall_mem_cons.mpr ⟨Or.inr (List.mem_of_getElem? (i := 8) rfl), List.forall_mem_cons.mpr ⟨Or.inl (xw_t 290 rfl rfl), List.forall_mem_cons.mpr ⟨Or.inl (xw_t 291 rfl rfl), List.forall_mem_cons.mpr ⟨Or.inl (xw_t 292 rfl rfl), List.forall_mem_cons.mpr ⟨Or.inl (xw_t 293 rfl rfl), List.forall_mem_cons.mpr ⟨Or.inr (List.mem_of_getElem? (i := 9) rfl), List.forall_mem_cons.mpr ⟨Or.inl (xw_t 293 rfl rfl), List.forall_mem_cons.mpr ⟨Or.inl (xw_t 294 rfl rfl), List.forall_mem_cons.mpr ⟨Or.inl (xw_t 295 rfl rfl), List.forall_mem_cons.mpr ⟨Or.inl (xw_t 267 rfl rfl), List.forall_mem_cons.mpr ⟨Or.inr (List.mem_of_getElem? (i := 10) rfl), List.forall_mem_cons.mpr ⟨Or.inl (xw_t 474 rfl rfl), List.forall_mem_cons.mpr ⟨Or.inl (xw_t 466 rfl rfl), List.forall_mem_cons.mpr ⟨Or.inr (List.mem_of_getElem? (i := 7) rfl), List.forall_mem_cons.mpr ⟨Or.inl (xw_t 468 rfl rfl), List.forall_mem_cons.mpr ⟨Or.inl (xw_t 279 rfl rfl), List.forall_mem_cons.mpr ⟨Or.inl (xw_t 469 rfl rfl), List.forall_mem_cons.mpr ⟨Or.inl (xw_t 470 rfl rfl), List.forall_mem_cons.mpr ⟨Or.inl (xw_t 471 rfl rfl), List.forall_mem_cons.mpr ⟨Or.inl (xw_t 472 rfl rfl), List.forall_mem_cons.mpr ⟨Or.inr (List.mem_of_getElem? (i := 0) rfl), List.forall_mem_cons.mpr ⟨Or.inr (List.mem_of_getElem? (i := 1) rfl), List.forall_mem_cons.mpr ⟨Or.inl (xw_t 265 rfl rfl), List.forall_mem_cons.mpr ⟨Or.inl (xw_t 264 rfl rfl), List.forall_mem_cons.mpr ⟨Or.inl (xw_t 473 rfl rfl), fun _ h => absurd h List.not_mem_nil⟩⟩⟩⟩⟩⟩⟩⟩⟩⟩⟩⟩⟩⟩⟩⟩⟩⟩⟩⟩⟩⟩⟩⟩⟩⟩⟩⟩⟩⟩⟩⟩⟩⟩⟩⟩⟩⟩⟩⟩⟩⟩⟩⟩⟩⟩⟩⟩⟩⟩⟩⟩⟩
theorem hkl_4 : Cond.classLink R_X 145 "java/util/NoSuchElementException" ∈ xw_ws := xw_t 465 rfl rfl
theorem hii_4 : Cond.initialized "java/util/NoSuchElementException" ∈ xw_ws := xw_t 13 rfl rfl
theorem hia_4 : Cond.instantiable "java/util/NoSuchElementException" 6 ∈ xw_ws := xw_t 466 rfl rfl

