/-! The reference: rows. -/
section UB
variable {p : Program} {l : Launch} {e : Env} {R : Room} {s : State} {m : MethodId} {args : Array Value} {below : List Frame} {meth : Method} {c : Code} {H : Heap} {locs : List Loc} {cells slots : Nat} {Q : State → Prop}
variable {cc : ByteArray} {pc : Nat} {ls : Array Slot} {rest : List Value} {D : va_G} {cl : List vw_C} {a : Nat} {tys : List (ClassId × FieldType)}
theorem xb_zald (hexec : p.tables.exec = Jvm.exec) (hb : c.code = cc) (hK : va_K D cl tys s) (t0 : Nat) {cA : ClassId} {n : Nat} {f : Nat → Int32} (ht : tys[t0]? = some (cA, .boolean)) (hat : va_at D cl (a, .inl (cA, n, .inl f)) H) {i : Int32} (hin : vp_in i n) (hdg : decode cc pc = .ok (.baload, 1))
    (kk : W p l e R s m args below meth c H locs cells slots Q (F0 m (pc + 1) ls (.int (f i.toNatClampNeg) :: rest))) : W p l e R s m args below meth c H locs cells slots Q (F0 m pc ls (.int i :: .ref a :: rest)) :=
  va_zald hexec hb hK (xb_one hat) 0 t0 rfl ht hin hdg kk
theorem xb_zast (hexec : p.tables.exec = Jvm.exec) (hb : c.code = cc) (hK : va_K D cl tys s) (t0 : Nat) {cA : ClassId} {n : Nat} {f : Nat → Int32} (ht : tys[t0]? = some (cA, .boolean)) (hat : va_at D cl (a, .inl (cA, n, .inl f)) H) {i : Int32} {x : Int32} (hnr : narrow .boolean (.int x) = .int x) (hin : vp_in i n) (hdg : decode cc pc = .ok (.bastore, 1))
    (kk : ∀ (H1 : Heap) (lc : Loc), lc.base = a → va_at D cl (a, .inl (cA, n, .inl (upd f i.toNatClampNeg x))) H1 → H1.size = H.size → (∀ q : Nat, q ≠ a → H1[q]? = H[q]?) → W p l e R s m args below meth c H1 (locs ++ [lc]) cells slots Q (F0 m (pc + 1) ls rest)) : W p l e R s m args below meth c H locs cells slots Q (F0 m pc ls (.int x :: .int i :: .ref a :: rest)) := by
  refine W.zast hexec hb hat ((hK.2 t0 _ ht).1 n (fun j => .int (f j))) (fun q => by cases q) (by show ¬ (i < 0 ∨ (arrV _ _ _).slots.size ≤ _); rw [arrV_size]; exact hin) rfl rfl hdg fun H1 e z oq => ?_
  refine kk H1 _ rfl ?_ z oq
  show H1[a]? = some (vp_cell _ _)
  rw [e, hnr]
  rw [vp_cell_i, vp_cell_i, arrV_store]
  congr 2
  funext q
  by_cases hq : q = i.toNatClampNeg
  · subst hq
    simp [updV, upd]
  · simp [updV, upd, hq]
end UB
/-- nothing that waits at the link has changed -/
def xu_K (a b : xu_M) : Prop := ∀ k, 19 ≤ k → b k = a k
theorem xu_K.rf {a : xu_M} : xu_K a a := fun _ _ => rfl
theorem xu_K.tr {a b d : xu_M} (h : xu_K a b) (h2 : xu_K b d) : xu_K a d := fun k hk => (h2 k hk).trans (h k hk)
theorem xu_K.set {a b : xu_M} (h : xu_K a b) {k i : Nat} {v : Int32} (hk : k ≤ 18) : xu_K a (xu_set b k i v) := fun q hq => (xu_set_ne (by omega)).trans (h q hq)
def uw_W (g : xw_G) (o : Nat) (σ : xs_S) (th rp : Int32) (n : Nat) (t : xu_X) (a : xu_M) (U : State) : Prop := xu_R g o σ th rp n t a U.heap ∧ xw_K g U
def uc_P (g : xw_G) (o : Nat) (σ : xs_S) (th rp : Int32) (n : Nat) (t : xu_X) (a : xu_M) (av : List Value) : Array Value → State → Prop := va_Pc av (uw_W g o σ th rp n t a)
theorem uc_P.blind {g : xw_G} {o n : Nat} {σ : xs_S} {th rp : Int32} {t : xu_X} {a : xu_M} {av : List Value} : FrameBlind (uc_P g o σ th rp n t a av) := fun a U f mk h => ⟨h.1, h.2.1, va_K.moved (u := U) (U := U.calling f mk a) (Vm.Alike.refl U.vm) h.2.2⟩
def uc_V (l : Launch) (y : MethodName) (cd : Cond) (g : xw_G) (o : Nat) (σ : xs_S) (th rp : Int32) (n : Nat) (t : xu_X) (a : xu_M) (τ : xs_S) (th' : Int32) (n' : Nat) (G : Int32 → xu_M → Prop) (av : List Value) (fr lo : Nat) : Prop :=
  Met l y (cd :: xw_ws) { frames := fr, cells := 0, slots := 0, locals := lo } (uc_P g o σ th rp n t a av) (xb_V (fun T => ∃ rp' t' a', G rp' a' ∧ uw_W g o τ th' rp' n' t' a' T) (xu_W o)) 0 0 (xu_W o)
def uc_Q (l : Launch) (y : MethodName) (cd : Cond) (g : xw_G) (o : Nat) (σ : xs_S) (th rp : Int32) (n : Nat) (t : xu_X) (a : xu_M) (r : Int32) (τ : xs_S) (th' : Int32) (n' : Nat) (G : Int32 → xu_M → Prop) (av : List Value) (fr lo : Nat) : Prop :=
  Met l y (cd :: xw_ws) { frames := fr, cells := 0, slots := 0, locals := lo } (uc_P g o σ th rp n t a av) (xb_Q (fun v T => v = .int r ∧ ∃ rp' t' a', G rp' a' ∧ uw_W g o τ th' rp' n' t' a' T) (xu_W o)) 0 0 (xu_W o)
section UH
variable {l : Launch} {y : MethodName} {own : String} {cc : ByteArray} {maxL : Nat} {ret : Option FieldType} {g : xw_G} {o n n' : Nat} {σ τ : xs_S} {th rp th' r : Int32} {G : Int32 → xu_M → Prop} {av : List Value} {fr lo : Nat} {t : xu_X} {a : xu_M}
theorem uh_V (hy : plainName y.cls = true) (ho : y.cls = own) (hn : (lg_sl av).length ≤ maxL)
    (body : ∀ (p : Program) (e : Env) (R : Room) (s : State) (m : MethodId) (below : List Frame) (meth : Method) (c : Code) (ls : Array Slot), R.frames = fr → R.locals = lo → xh_C p s m av.toArray meth c own cc maxL ret → xw_K g s → xu_R g o σ th rp n t a s.heap → lv_has ls maxL (lv_args 0 av) →
      W p l e R s m av.toArray below meth c s.heap [] 0 0 (MQ below (xb_V (fun T => ∃ rp' t' a', G rp' a' ∧ uw_W g o τ th' rp' n' t' a' T) (xu_W o)) av.toArray s 0 0 (xu_W o)) (F0 m 0 ls [])) : uc_V l y (Cond.code y cc maxL ret) g o σ th rp n t a τ th' n' G av fr lo := by
  refine Met.ofW (cc := cc) (maxL := maxL) (ret := ret) hy rfl ?_
  intro p e s m args below meth c s₁ B0 hml hv
  obtain ⟨rfl, hX, hK⟩ := hv
  have hts := atoms_spec (ws := Cond.code y cc maxL ret :: xw_ws) B0.pre
  have hown : s.vm.findClass own = some m.cls := ho ▸ findClass_of_methodNamed B0.named
  have hl := lv_entry av (n := maxL) hn
  rw [lg_entry_eq]
  exact body p e _ s m below meth c _ rfl rfl ⟨B0.exec, B0.bytes, hml, B0.returns, hown, fun w h => hts w (List.mem_cons_of_mem _ h), B0.notSynchronized⟩ hK hX hl
theorem uh_Q (hy : plainName y.cls = true) (ho : y.cls = own) (hn : (lg_sl av).length ≤ maxL)
    (body : ∀ (p : Program) (e : Env) (R : Room) (s : State) (m : MethodId) (below : List Frame) (meth : Method) (c : Code) (ls : Array Slot), R.frames = fr → R.locals = lo → xh_C p s m av.toArray meth c own cc maxL ret → xw_K g s → xu_R g o σ th rp n t a s.heap → lv_has ls maxL (lv_args 0 av) →
      W p l e R s m av.toArray below meth c s.heap [] 0 0 (MQ below (xb_Q (fun v T => v = .int r ∧ ∃ rp' t' a', G rp' a' ∧ uw_W g o τ th' rp' n' t' a' T) (xu_W o)) av.toArray s 0 0 (xu_W o)) (F0 m 0 ls [])) : uc_Q l y (Cond.code y cc maxL ret) g o σ th rp n t a r τ th' n' G av fr lo := by
  refine Met.ofW (cc := cc) (maxL := maxL) (ret := ret) hy rfl ?_
  intro p e s m args below meth c s₁ B0 hml hv
  obtain ⟨rfl, hX, hK⟩ := hv
  have hts := atoms_spec (ws := Cond.code y cc maxL ret :: xw_ws) B0.pre
  have hown : s.vm.findClass own = some m.cls := ho ▸ findClass_of_methodNamed B0.named
  have hl := lv_entry av (n := maxL) hn
  rw [lg_entry_eq]
  exact body p e _ s m below meth c _ rfl rfl ⟨B0.exec, B0.bytes, hml, B0.returns, hown, fun w h => hts w (List.mem_cons_of_mem _ h), B0.notSynchronized⟩ hK hX hl
end UH
section UK
variable {p : Program} {l : Launch} {e : Env} {R : Room} {s : State} {m : MethodId} {args : Array Value} {below : List Frame} {meth : Method} {c : Code} {H : Heap} {locs : List Loc} {cells slots : Nat} {Q : State → Prop}
variable {cc bytes : ByteArray} {pc nL maxL index fr lo : Nat} {ls : Array Slot} {rest st0 As : List Value} {own C : String} {y : MethodName} {ret ret0 : Option FieldType} {g : xw_G} {o n n' : Nat} {σ τ : xs_S} {th rp th' r : Int32} {G : Int32 → xu_M → Prop} {t : xu_X} {a : xu_M} {A0 : Nat → Prop} {H0 : Heap}
theorem uk_iV (hM : uc_V l y (Cond.code y bytes maxL ret) g o σ th rp n t a τ th' n' G (.ref o :: As) fr lo) (hG : GoodIn xw_ws (wsV own index R_U y (Cond.code y bytes maxL ret :: xw_ws)))
    (hd : y.cls = R_U ∧ y.cls ≠ "java/lang/invoke/MethodHandle" ∧ y.cls ≠ "java/lang/invoke/VarHandle" ∧ (parseMethodDescriptor y.desc).map (fun d => d.parameters.length) = some As.length)
    (hC : xh_C p s m args meth c own cc nL ret0) (hK : xw_K g s) (hX : xu_R g o σ th rp n t a H) (hS : va_S A0 H0 H locs) (hA : ∀ q, xu_W o q → A0 q)
    (hRf : fr + 1 ≤ R.frames) (hRl : 8 + (maxL + 11) + lo ≤ R.locals) (hRc : cells + 0 ≤ R.cells) (hRs : slots + 0 ≤ R.slots)
    (hls : ls.size = nL) (hst : st0 = As.reverse ++ .ref o :: rest) (hrm : (rest.map fun v => v.category).sum ≤ 8) (hdg : decode cc pc = .ok (.invokevirtual index, 3))
    (kk : ∀ (rp : Int32) (t : xu_X) (a : xu_M) (H1 : Heap) (locs1 : List Loc), G rp a → xu_R g o τ th' rp n' t a H1 → va_S A0 H0 H1 locs1 → H.size ≤ H1.size → (∀ q : Nat, q < H.size → ¬ xu_W o q → H1[q]? = H[q]?) → W p l e R s m args below meth c H1 locs1 cells slots Q (F0 m (pc + 3) ls rest)) : W p l e R s m args below meth c H locs cells slots Q (F0 m pc ls st0) := by
  obtain ⟨hx, hb, hml, -, hown, hts, -⟩ := hC
  exact xb_callv (va_runV (As := As) (rest := rest) ⟨hx, hb, hml, hown, hts⟩ hM (cwV As.length hts hG rfl rfl rfl hd ⟨hRf, hRl⟩) ⟨uc_P.blind, xb_recv hK (ci := xi_U) rfl hX.1, fun U hU hw => ⟨rfl, by rw [hU]; exact hX, va_K.moved hw.alike hK⟩⟩ rfl rfl hls hst (lv_room hrm) hdg ⟨hRc, hRs⟩) hS hA hA
    (fun T locs1 _ hB hz hk hS1 => by obtain ⟨rp', t', a', hg, hX', -⟩ := hB; exact kk rp' t' a' T.heap locs1 hg hX' hS1 hz hk)
theorem uk_iQ (hM : uc_Q l y (Cond.code y bytes maxL ret) g o σ th rp n t a r τ th' n' G (.ref o :: As) fr lo) (hG : GoodIn xw_ws (wsV own index R_U y (Cond.code y bytes maxL ret :: xw_ws)))
    (hd : y.cls = R_U ∧ y.cls ≠ "java/lang/invoke/MethodHandle" ∧ y.cls ≠ "java/lang/invoke/VarHandle" ∧ (parseMethodDescriptor y.desc).map (fun d => d.parameters.length) = some As.length)
    (hC : xh_C p s m args meth c own cc nL ret0) (hK : xw_K g s) (hX : xu_R g o σ th rp n t a H) (hS : va_S A0 H0 H locs) (hA : ∀ q, xu_W o q → A0 q)
    (hRf : fr + 1 ≤ R.frames) (hRl : 8 + (maxL + 11) + lo ≤ R.locals) (hRc : cells + 0 ≤ R.cells) (hRs : slots + 0 ≤ R.slots)
    (hls : ls.size = nL) (hst : st0 = As.reverse ++ .ref o :: rest) (hrm : (rest.map fun v => v.category).sum ≤ 8) (hdg : decode cc pc = .ok (.invokevirtual index, 3))
    (kk : ∀ (rp : Int32) (t : xu_X) (a : xu_M) (H1 : Heap) (locs1 : List Loc), G rp a → xu_R g o τ th' rp n' t a H1 → va_S A0 H0 H1 locs1 → H.size ≤ H1.size → (∀ q : Nat, q < H.size → ¬ xu_W o q → H1[q]? = H[q]?) → W p l e R s m args below meth c H1 locs1 cells slots Q (F0 m (pc + 3) ls (.int r :: rest))) : W p l e R s m args below meth c H locs cells slots Q (F0 m pc ls st0) := by
  obtain ⟨hx, hb, hml, -, hown, hts, -⟩ := hC
  exact xb_callq (va_runV (As := As) (rest := rest) ⟨hx, hb, hml, hown, hts⟩ hM (cwV As.length hts hG rfl rfl rfl hd ⟨hRf, hRl⟩) ⟨uc_P.blind, xb_recv hK (ci := xi_U) rfl hX.1, fun U hU hw => ⟨rfl, by rw [hU]; exact hX, va_K.moved hw.alike hK⟩⟩ rfl rfl hls hst (lv_room hrm) hdg ⟨hRc, hRs⟩) hS hA hA
    (fun v T locs1 _ hB hz hk hS1 => by obtain ⟨rfl, rp', t', a', hg, hX', -⟩ := hB; exact kk rp' t' a' T.heap locs1 hg hX' hS1 hz hk)
theorem uk_sQ (hM : uc_Q l y (Cond.code y bytes maxL ret) g o σ th rp n t a r τ th' n' G As fr lo) (hG : GoodIn xw_ws (wsS own index y (Cond.code y bytes maxL ret :: xw_ws)))
    (hd : y.cls = own ∧ y.cls ≠ "java/lang/invoke/MethodHandle" ∧ y.cls ≠ "java/lang/invoke/VarHandle" ∧ (parseMethodDescriptor y.desc).map (fun d => d.parameters.length) = some As.length)
    (hC : xh_C p s m args meth c own cc nL ret0) (hK : xw_K g s) (hX : xu_R g o σ th rp n t a H) (hS : va_S A0 H0 H locs) (hA : ∀ q, xu_W o q → A0 q)
    (hRf : fr + 1 ≤ R.frames) (hRl : 8 + (maxL + 11) + lo ≤ R.locals) (hRc : cells + 0 ≤ R.cells) (hRs : slots + 0 ≤ R.slots)
    (hls : ls.size = nL) (hst : st0 = As.reverse ++ rest) (hrm : (rest.map fun v => v.category).sum ≤ 8) (hdg : decode cc pc = .ok (.invokestatic index, 3))
    (kk : ∀ (rp : Int32) (t : xu_X) (a : xu_M) (H1 : Heap) (locs1 : List Loc), G rp a → xu_R g o τ th' rp n' t a H1 → va_S A0 H0 H1 locs1 → H.size ≤ H1.size → (∀ q : Nat, q < H.size → ¬ xu_W o q → H1[q]? = H[q]?) → W p l e R s m args below meth c H1 locs1 cells slots Q (F0 m (pc + 3) ls (.int r :: rest))) : W p l e R s m args below meth c H locs cells slots Q (F0 m pc ls st0) := by
  obtain ⟨hx, hb, hml, -, hown, hts, -⟩ := hC
  exact xb_callq (va_runS (As := As) (rest := rest) ⟨hx, hb, hml, hown, hts⟩ hM (cwS As.length hts hG rfl rfl rfl hd ⟨hRf, hRl⟩) ⟨uc_P.blind, fun U hU hw => ⟨rfl, by rw [hU]; exact hX, va_K.moved hw.alike hK⟩⟩ rfl rfl hls hst (lv_room hrm) hdg ⟨hRc, hRs⟩) hS hA hA
    (fun v T locs1 _ hB hz hk hS1 => by obtain ⟨rfl, rp', t', a', hg, hX', -⟩ := hB; exact kk rp' t' a' T.heap locs1 hg hX' hS1 hz hk)
/-- ends -/
theorem ur_V (hC : xh_C p s m args meth c own cc nL none) (hK : xw_K g s) (hX : xu_R g o σ th rp n t a H) (hS : va_S (xu_W o) s.heap H locs) (hg : G rp a) (he : σ = τ) (ht : th = th') (hn : n = n') (hdg : decode cc pc = .ok (.return_, 1)) :
    W p l e R s m args below meth c H locs 0 0 (MQ below (xb_V (fun T => ∃ rp' t' a', G rp' a' ∧ uw_W g o τ th' rp' n' t' a' T) (xu_W o)) args s 0 0 (xu_W o)) (F0 m pc ls []) := by
  obtain ⟨hx, hb, -, hr, -, -, hlk⟩ := hC
  subst he
  subst ht
  subst hn
  exact W.vret hx hb hr (fun T hT hw => ⟨⟨rfl, rp, t, a, hg, by rw [hT]; exact hX, va_K.moved hw.alike hK⟩, hS.F hT⟩) hS.2.2 hdg hlk
theorem ur_I (hC : xh_C p s m args meth c own cc nL (some .int)) (hK : xw_K g s) (hX : xu_R g o σ th rp n t a H) (hS : va_S (xu_W o) s.heap H locs) (hg : G rp a) (he : σ = τ) (ht : th = th') (hn : n = n') {v : Int32} (hv : v = r) (hdg : decode cc pc = .ok (.ireturn, 1)) :
    W p l e R s m args below meth c H locs 0 0 (MQ below (xb_Q (fun v T => v = .int r ∧ ∃ rp' t' a', G rp' a' ∧ uw_W g o τ th' rp' n' t' a' T) (xu_W o)) args s 0 0 (xu_W o)) (F0 m pc ls [.int v]) := by
  obtain ⟨hx, hb, -, hr, -, -, hlk⟩ := hC
  subst he
  subst ht
  subst hn
  subst hv
  exact W.iret hx hb hr (fun T hT hw => ⟨⟨.int v, rfl, rfl, rp, t, a, hg, by rw [hT]; exact hX, va_K.moved hw.alike hK⟩, hS.F hT⟩) hS.2.2 hdg hlk
theorem ur_Z (hC : xh_C p s m args meth c own cc nL (some .boolean)) (hK : xw_K g s) (hX : xu_R g o σ th rp n t a H) (hS : va_S (xu_W o) s.heap H locs) (hg : G rp a) (he : σ = τ) (ht : th = th') (hn : n = n') {v : Int32} (hnr : narrow .boolean (.int v) = .int v) (hv : v = r) (hdg : decode cc pc = .ok (.ireturn, 1)) :
    W p l e R s m args below meth c H locs 0 0 (MQ below (xb_Q (fun v T => v = .int r ∧ ∃ rp' t' a', G rp' a' ∧ uw_W g o τ th' rp' n' t' a' T) (xu_W o)) args s 0 0 (xu_W o)) (F0 m pc ls [.int v]) := by
  obtain ⟨hx, hb, -, hr, -, -, hlk⟩ := hC
  subst he
  subst ht
  subst hn
  subst hv
  exact W.zret hx hb hr hnr (fun T hT hw => ⟨⟨.int v, rfl, rfl, rp, t, a, hg, by rw [hT]; exact hX, va_K.moved hw.alike hK⟩, hS.F hT⟩) hS.2.2 hdg hlk
end UK
section UG
variable {p : Program} {l : Launch} {e : Env} {R : Room} {s : State} {m : MethodId} {args : Array Value} {below : List Frame} {meth : Method} {c : Code} {H H1 : Heap} {locs : List Loc} {cells slots : Nat} {Q : State → Prop}
variable {cc : ByteArray} {pc : Nat} {ls : Array Slot} {rest : List Value} {g : xw_G} {o n : Nat} {σ σ' : xs_S} {th rp : Int32} {t : xu_X} {a : xu_M} {sc : xu_N} {H0 : Heap}
theorem xu_A.put (h : xu_A g o a H) (hq : ∀ q : Nat, q ≠ o → H1[q]? = H[q]?) : xu_A g o a H1 := fun k h1 h2 => (h k h1 h2).kept (hq (o + k) (by omega))
theorem xu_A.set (h : xu_A g o a H) {k i : Nat} {v : Int32} (hat : va_at g.1 vwCl (o + k, .inl (g.2 (xu_t k), xu_n k, .inl (upd (a k) i v))) H1) (hq : ∀ q : Nat, q ≠ o + k → H1[q]? = H[q]?) : xu_A g o (xu_set a k i v) H1 := by
  intro k' h1 h2
  by_cases e : k' = k
  · subst e
    unfold xu_set
    rw [va_up_self]
    exact hat
  · rw [xu_set_ne e]
    exact (h k' h1 h2).kept (hq (o + k') (by omega))
/-- an element of an array of ints -/
theorem ug_i (hx : p.tables.exec = Jvm.exec) (hb : c.code = cc) (hK : xw_K g s) (hA : xu_A g o a H) (k : Nat) (h1 : 1 ≤ k) (h24 : k ≤ 24) (hk : xu_t k = 3) {N : Nat} (hN : xu_n k = N) {i v : Int32} (hin : vp_in i N) (hv : a k (xs_ix i) = v) (hdg : decode cc pc = .ok (.iaload, 1))
    (kk : W p l e R s m args below meth c H locs cells slots Q (F0 m (pc + 1) ls (.int v :: rest))) : W p l e R s m args below meth c H locs cells slots Q (F0 m pc ls (.int i :: .ref (o + k) :: rest)) := by
  have h := hA k h1 h24
  rw [hk, hN] at h
  exact xb_iald hx hb hK 3 rfl h hin hdg (by rw [show i.toNatClampNeg = xs_ix i from rfl, hv]; exact kk)
theorem ug_z (hx : p.tables.exec = Jvm.exec) (hb : c.code = cc) (hK : xw_K g s) (hA : xu_A g o a H) (k : Nat) (h1 : 1 ≤ k) (h24 : k ≤ 24) (hk : xu_t k = 4) {N : Nat} (hN : xu_n k = N) {i v : Int32} (hin : vp_in i N) (hv : a k (xs_ix i) = v) (hdg : decode cc pc = .ok (.baload, 1))
    (kk : W p l e R s m args below meth c H locs cells slots Q (F0 m (pc + 1) ls (.int v :: rest))) : W p l e R s m args below meth c H locs cells slots Q (F0 m pc ls (.int i :: .ref (o + k) :: rest)) := by
  have h := hA k h1 h24
  rw [hk, hN] at h
  exact xb_zald hx hb hK 4 rfl h hin hdg (by rw [show i.toNatClampNeg = xs_ix i from rfl, hv]; exact kk)
/-- raw stores: the arrays alone -/
theorem uq_i (hx : p.tables.exec = Jvm.exec) (hb : c.code = cc) (hK : xw_K g s) {fs : List Value} (hO : va_at g.1 vwCl (o, .inr (xi_U, fs)) H) (hA : xu_A g o a H) (hS : va_S (xu_W o) H0 H locs) (k : Nat) (h1 : 1 ≤ k) (h24 : k ≤ 24) (hk : xu_t k = 3) {N : Nat} (hN : xu_n k = N) {i v : Int32} (hin : vp_in i N) (hdg : decode cc pc = .ok (.iastore, 1))
    (kk : ∀ (H1 : Heap) (locs1 : List Loc), va_at g.1 vwCl (o, .inr (xi_U, fs)) H1 → xu_A g o (xu_set a k (xs_ix i) v) H1 → va_S (xu_W o) H0 H1 locs1 → W p l e R s m args below meth c H1 locs1 cells slots Q (F0 m (pc + 1) ls rest)) : W p l e R s m args below meth c H locs cells slots Q (F0 m pc ls (.int v :: .int i :: .ref (o + k) :: rest)) := by
  have h := hA k h1 h24
  rw [hk, hN] at h
  refine xb_iast hx hb hK 3 rfl h hin hdg (fun H1 lc hlc hat hz hq => ?_)
  have h2 : va_at g.1 vwCl (o + k, .inl (g.2 (xu_t k), xu_n k, .inl (upd (a k) (xs_ix i) v))) H1 := by rw [hk, hN]; exact hat
  exact kk H1 _ (hO.kept (hq o (by omega))) (hA.set h2 hq) (xw_Sput hS hz hq hlc (by unfold xu_W; omega))
theorem uq_z (hx : p.tables.exec = Jvm.exec) (hb : c.code = cc) (hK : xw_K g s) {fs : List Value} (hO : va_at g.1 vwCl (o, .inr (xi_U, fs)) H) (hA : xu_A g o a H) (hS : va_S (xu_W o) H0 H locs) (k : Nat) (h1 : 1 ≤ k) (h24 : k ≤ 24) (hk : xu_t k = 4) {N : Nat} (hN : xu_n k = N) {i v : Int32} (hnr : narrow .boolean (.int v) = .int v) (hin : vp_in i N) (hdg : decode cc pc = .ok (.bastore, 1))
    (kk : ∀ (H1 : Heap) (locs1 : List Loc), va_at g.1 vwCl (o, .inr (xi_U, fs)) H1 → xu_A g o (xu_set a k (xs_ix i) v) H1 → va_S (xu_W o) H0 H1 locs1 → W p l e R s m args below meth c H1 locs1 cells slots Q (F0 m (pc + 1) ls rest)) : W p l e R s m args below meth c H locs cells slots Q (F0 m pc ls (.int v :: .int i :: .ref (o + k) :: rest)) := by
  have h := hA k h1 h24
  rw [hk, hN] at h
  refine xb_zast hx hb hK 4 rfl h hnr hin hdg (fun H1 lc hlc hat hz hq => ?_)
  have h2 : va_at g.1 vwCl (o + k, .inl (g.2 (xu_t k), xu_n k, .inl (upd (a k) (xs_ix i) v))) H1 := by rw [hk, hN]; exact hat
  exact kk H1 _ (hO.kept (hq o (by omega))) (hA.set h2 hq) (xw_Sput hS hz hq hlc (by unfold xu_W; omega))
/-- stores that leave a state -/
theorem up_i (hx : p.tables.exec = Jvm.exec) (hb : c.code = cc) (hK : xw_K g s) (hX : xu_R g o σ th rp n t a H) (hS : va_S (xu_W o) H0 H locs) (k : Nat) (h1 : 1 ≤ k) (h18 : k ≤ 18) (hk : xu_t k = 3) {N : Nat} (hN : xu_n k = N) {i v : Int32} (hin : vp_in i N) (hdg : decode cc pc = .ok (.iastore, 1))
    (hrel : xu_rel (xu_set a k (xs_ix i) v) σ') (hnum : xu_num σ' th rp n t = xu_num σ th rp n t) (hlt : xs_lt σ' = xs_lt σ) (hnx : xs_nx σ' = xs_nx σ)
    (kk : ∀ (b : xu_M) (H1 : Heap) (locs1 : List Loc), xu_K a b → xu_R g o σ' th rp n t b H1 → va_S (xu_W o) H0 H1 locs1 → W p l e R s m args below meth c H1 locs1 cells slots Q (F0 m (pc + 1) ls rest)) : W p l e R s m args below meth c H locs cells slots Q (F0 m pc ls (.int v :: .int i :: .ref (o + k) :: rest)) :=
  uq_i hx hb hK hX.1 hX.2.1 hS k h1 (Nat.le_trans h18 (by decide)) hk hN hin hdg (fun H1 locs1 hO hA hS1 => kk _ H1 locs1 (xu_K.rf.set h18) ⟨by rw [hnum]; exact hO, hA, hrel, by rw [hlt]; exact hX.2.2.2.1, by rw [hnx]; exact hX.2.2.2.2⟩ hS1)
theorem up_z (hx : p.tables.exec = Jvm.exec) (hb : c.code = cc) (hK : xw_K g s) (hX : xu_R g o σ th rp n t a H) (hS : va_S (xu_W o) H0 H locs) (k : Nat) (h1 : 1 ≤ k) (h18 : k ≤ 18) (hk : xu_t k = 4) {N : Nat} (hN : xu_n k = N) {i : Int32} {v : Bool} (hin : vp_in i N) (hdg : decode cc pc = .ok (.bastore, 1))
    (hrel : xu_rel (xu_set a k (xs_ix i) (xs_b v)) σ') (hnum : xu_num σ' th rp n t = xu_num σ th rp n t) (hlt : xs_lt σ' = xs_lt σ) (hnx : xs_nx σ' = xs_nx σ)
    (kk : ∀ (b : xu_M) (H1 : Heap) (locs1 : List Loc), xu_K a b → xu_R g o σ' th rp n t b H1 → va_S (xu_W o) H0 H1 locs1 → W p l e R s m args below meth c H1 locs1 cells slots Q (F0 m (pc + 1) ls rest)) : W p l e R s m args below meth c H locs cells slots Q (F0 m pc ls (.int (xs_b v) :: .int i :: .ref (o + k) :: rest)) :=
  uq_z hx hb hK hX.1 hX.2.1 hS k h1 (Nat.le_trans h18 (by decide)) hk hN (xs_bn v) hin hdg (fun H1 locs1 hO hA hS1 => kk _ H1 locs1 (xu_K.rf.set h18) ⟨by rw [hnum]; exact hO, hA, hrel, by rw [hlt]; exact hX.2.2.2.1, by rw [hnx]; exact hX.2.2.2.2⟩ hS1)
/-- a number of the object -/
theorem uo_put (hx : p.tables.exec = Jvm.exec) (hb : c.code = cc) (hts : ∀ w ∈ xw_ws, w.before args s = true) (hown : s.vm.findClass R_U = some m.cls) (hK : xw_K g s) {sc' : xu_N} (hO : va_at g.1 vwCl (o, .inr (xi_U, xu_O o sc)) H) (hA : xu_A g o a H) (hS : va_S (xu_W o) H0 H locs) (k : Nat) (hk : k < 34) {index : Nat} (hlink : Cond.fieldLink R_U index R_U (F_U k).2.1 (F_U k).2.2.1 ∈ xw_ws) (hsame : (F_U k).1 = R_U) (hfin : (F_U k).2.2.2 = false) {v : Value} (hn : narrow (t_U k) v = v) (hfit : fits (t_U k) v = true) (hset : (xu_O o sc).set k v = xu_O o sc') (hdg : decode cc pc = .ok (.putfield index, 3))
    (kk : ∀ (H1 : Heap) (locs1 : List Loc), va_at g.1 vwCl (o, .inr (xi_U, xu_O o sc')) H1 → xu_A g o a H1 → va_S (xu_W o) H0 H1 locs1 → W p l e R s m args below meth c H1 locs1 cells slots Q (F0 m (pc + 3) ls rest)) : W p l e R s m args below meth c H locs cells slots Q (F0 m pc ls (v :: .ref o :: rest)) :=
  xb_put hx hb hts xw_in_U t_U t_U_ok n_U hown hK (ci := xi_U) rfl k hk (hts _ hlink) hsame hfin hO hn hfit (Nat.lt_of_lt_of_eq hk rfl) hdg (fun H1 lc hlc hat hz hq => kk H1 _ (by rw [← hset]; exact hat) (hA.put hq) (xw_Sput hS hz hq hlc (by unfold xu_W; omega)))
end UG
