/-! What a method of the law catches: a table whose rows all cover the place; each row's class is linked, and may be met for the first time. -/
/-- the rows h of a table, all over pc: which handler takes an object of class k -/
def xl_T (pl : Platform) (s : State) (d : ClassId) (pc : Nat) (k : ClassId) (hp : Nat) : List (Nat × Nat × Nat × Nat) → Prop
  | [] => False
  | h :: t => (h.1 ≤ pc ∧ pc < h.2.1 ∧ h.2.2.2 ≠ 0) ∧ ∃ c, s.vm.ClassLinks pl d h.2.2.2 c ∧ ((s.vm.assignable k c = true ∧ h.2.2.1 = hp) ∨ (s.vm.assignable k c = false ∧ xl_T pl s d pc k hp t))
theorem xl_go {e : Env} {s : State} {f : JFrame} {a : Addr} {cell : Cell} {hp : Nat} (hobj : ∀ k, cell.vm ≠ .statics k) (hk : ∃ k, s.vm.classes[cell.cls]? = some k) :
    ∀ (t : List ExceptionTableEntry) (S : State), s.WarmedH S.vm → S.heap[a]? = some cell → xl_T e.platform s f.method.cls f.pc cell.cls hp (t.map (fun h => (h.startPc, h.endPc, h.handlerPc, h.catchType))) →
      ∃ vm', s.WarmedH vm' ∧ ∀ (Q : Handler → Pre) (E : CtlPost) (d : Bool) (acts : List Action), wp (findHandler.go f a t) Q E e d acts S ↔ Q (.found hp) d acts (S.setVm vm') := by
  obtain ⟨k0, hk0⟩ := hk
  intro t
  induction t with
  | nil => intro S _ _ h; exact h.elim
  | cons x t ih =>
    intro S hW hcell h
    obtain ⟨⟨h1, h2, h3⟩, c, hl, hor⟩ := h
    dsimp only at h1 h2 h3 hl hor
    obtain ⟨k1, hk1, -⟩ := hW.alike.2.2 _ _ hk0
    obtain ⟨dk, _, _, kt, hd, _, _, _, _, hkt, _, hopen⟩ := hl.here
    obtain ⟨kt1, hkt1, -⟩ := hW.alike.2.2 _ _ hkt
    have hW1 := hW.noted hd hopen (State.rightAt_cls hl)
    obtain ⟨ra, rt⟩ := (resolveClass_links e.toSetting (hW.classLinks hl)).op (op := VmOp.resolveClass f.method.cls x.catchType) rfl
    have hal : S.vm.Alike (S.vm.noted f.method.cls x.catchType (.cls c)) := (Vm.Alike.refl S.vm).noted _ _ _
    obtain ⟨k2, hk2, -⟩ := hal.2.2 _ _ hk1
    obtain ⟨kt2, hkt2, -⟩ := hal.2.2 _ _ hkt1
    rcases hor with ⟨hy, rfl⟩ | ⟨hy, hrest⟩
    · have hy' : (S.vm.noted f.method.cls x.catchType (.cls c)).assignable cell.cls c = true := by rw [hal.assignable, hW.alike.assignable]; exact hy
      exact ⟨_, hW1, fun Q E d acts => by simp [findHandler.go, h1, h2, h3, ra, rt, hcell, hobj, hk2, hkt2, hy', VmOp.dirties, VmOp.acts]⟩
    · have hy' : (S.vm.noted f.method.cls x.catchType (.cls c)).assignable cell.cls c = false := by rw [hal.assignable, hW.alike.assignable]; exact hy
      obtain ⟨vm', hW', hq⟩ := ih (S.setVm (S.vm.noted f.method.cls x.catchType (.cls c))) hW1 hcell hrest
      refine ⟨vm', hW', fun Q E d acts => ?_⟩
      refine Iff.trans ?_ (hq Q E d acts)
      simp [findHandler.go, h1, h2, h3, ra, rt, hcell, hobj, hk2, hkt2, hy', VmOp.dirties, VmOp.acts]
theorem xl_step {e : Env} {s : State} {a : Addr} {f : JFrame} {r : List Frame} {pc : Nat} {vm' : Vm} (hfind : ∀ (Q : Handler → Pre) (E : CtlPost) (d : Bool) (acts : List Action), wp (findHandler f a) Q E e d acts s ↔ Q (.found pc) d acts (s.setVm vm')) :
    (stepThrowing e s a (.java f :: r)).Is ((s.setVm vm').setFrames (.java { f with pc := pc, stack := [.ref a] } :: r)) [] := by
  simp only [stepThrowing, searchFrame, vmDo]
  generalize hr : Sem.go _ e false [] s = res
  obtain ⟨as, rfl, ha⟩ := Sem.eq_ok_of hr (a := Handler.found pc) (s' := s.setVm vm') (acts' := []) (by simp [hfind _ _ _ _])
  exact ⟨rfl, ha⟩
section XL
variable {p : Program} {l : Launch} {e : Env} {R : Room} {s : State} {m : MethodId} {args : Array Value} {below : List Frame} {meth : Method} {c : Code} {H : Heap} {locs : List Loc} {cells slots : Nat} {Q : State → Prop}
variable {pc : Nat} {ls : Array Slot} {rest : List Value}
/-- the catching: the walk goes on at the handler, the object alone on the stack -/
theorem xl_catch {q : Addr} {ce : Cell} {hp : Nat} {hh : List (Nat × Nat × Nat × Nat)} (hhh : c.exceptionTable.toList.map (fun h => (h.startPc, h.endPc, h.handlerPc, h.catchType)) = hh) (hcell : H[q]? = some ce) (hv : ce.vm = .none) (hk : ∃ k, s.vm.classes[ce.cls]? = some k)
    (hT : ∀ pl : Platform, pl.magicAccessors = ({} : Platform).magicAccessors → xl_T pl s m.cls pc ce.cls hp hh)
    (kk : W p l e R s m args below meth c H locs cells slots Q (F0 m hp ls [.ref q])) : xe_W p l e R s m args below meth c H locs cells slots Q (F0 m pc ls rest) q := by
  intro T hT1 X
  have hpl : e.platform.magicAccessors = ({} : Platform).magicAccessors := by rw [X.admits.platform]
  subst hhh
  obtain ⟨vm', hW', hq⟩ := xl_go (e := e) (s := s) (f := F0 m pc ls rest) (a := q) (cell := ce) (hp := hp) (fun k h => by rw [hv] at h; cases h) hk c.exceptionTable.toList ((T.setTop (F0 m pc ls rest)).pushFrame (.throwing q)) X.warmed (by show T.heap[q]? = some ce; rw [hT1]; exact hcell) (hT e.platform hpl)
  obtain ⟨t, a1, a2⟩ := kk (T.setVm vm') hT1 (X.noted hW')
  refine ⟨t, ?_, a2⟩
  have h : At T (F0 m pc ls rest).method c below := X.here
  obtain ⟨hgo, hw⟩ := h.throwing q
  refine Steps.head hgo hw ?_
  rw [stepThread_throwing (frames_entered h.top _), (xl_step (e := e) (s := (T.setTop (F0 m pc ls rest)).pushFrame (.throwing q)) (vm' := vm') (pc := hp) (f := F0 m pc ls rest) (a := q) (fun Q E d acts => by rw [W.findHandler_eq (meth := meth) (code := c) X.method' X.code]; exact hq Q E d acts)).1]
  obtain ⟨g₀, hg⟩ := Option.isSome_iff_exists.mp h.top
  obtain ⟨r, hr⟩ := State.topJava?_eq_some.mp hg
  have hr' : (T.setVm vm').frames = .java g₀ :: r := hr
  rw [State.setTop_of_frames _ hr'] at a1
  rw [State.pushFrame, State.setTop_of_frames _ hr, hr]
  have e9 : ∀ F : List Frame, (T.setFrames F).setVm vm' = (T.setVm vm').setFrames F := fun _ => rfl
  rw [State.setFrames_setFrames, e9, State.setFrames_setFrames]
  exact a1
end XL
