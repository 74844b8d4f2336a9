/-! Constructors: heaps that grow by known cells. -/
def xw_O (U : State) : Prop := va_AO R_A U ∧ va_AO R_C U ∧ va_AO R_Z U
theorem xw_O.moved {u U : State} (hvm : u.vm.Alike U.vm) (h : xw_O u) : xw_O U := ⟨va_AO.moved hvm h.1, va_AO.moved hvm h.2.1, va_AO.moved hvm h.2.2⟩
def xn_P (g : xw_G) (sz : Nat) (av : List Value) (E : Heap → Prop) : Array Value → State → Prop := va_Pc av (fun U => U.heap.size = sz ∧ E U.heap ∧ xw_K g U ∧ xw_O U)
theorem xn_P.blind {g : xw_G} {sz : Nat} {av : List Value} {E : Heap → Prop} : FrameBlind (xn_P g sz av E) := fun a U f mk h => ⟨h.1, h.2.1, h.2.2.1, va_K.moved (u := U) (U := U.calling f mk a) (Vm.Alike.refl U.vm) h.2.2.2.1, h.2.2.2.2.moved (U := U.calling f mk a) (Vm.Alike.refl U.vm)⟩
def xc_N (l : Launch) (y : MethodName) (cd : Cond) (g : xw_G) (sz : Nat) (av : List Value) (E Post : Heap → Prop) (A : Nat → Prop) (fr lo mc ms : Nat) : Prop :=
  Met l y (cd :: xw_ws) { frames := fr, cells := mc, slots := ms, locals := lo } (xn_P g sz av E) (xb_V (fun t => Post t.heap) A) mc ms A
section XNH
variable {l : Launch} {y : MethodName} {own : String} {cc : ByteArray} {maxL : Nat} {g : xw_G} {sz : Nat} {av : List Value} {E Post : Heap → Prop} {A : Nat → Prop} {fr lo mc ms : Nat}
theorem xh_N (hy : plainName y.cls = true) (ho : y.cls = own) (hyn : y.name = "<init>") (hn : (lg_sl av).length ≤ maxL)
    (body : ∀ (p : Program) (e : Env) (R : Room) (s : State) (m : MethodId) (below : List Frame) (meth : Method) (c : Code) (ls : Array Slot), R.frames = fr → R.locals = lo → R.cells = mc → R.slots = ms → xh_C p s m av.toArray meth c own cc maxL none → meth.name = "<init>" → xw_K g s → xw_O s → s.heap.size = sz → E s.heap → lv_has ls maxL (lv_args 0 av) →
      W p l e R s m av.toArray below meth c s.heap [] 0 0 (MQ below (xb_V (fun t => Post t.heap) A) av.toArray s mc ms A) (F0 m 0 ls [])) : xc_N l y (Cond.code y cc maxL none) g sz av E Post A fr lo mc ms := by
  refine Met.ofW (cc := cc) (maxL := maxL) (ret := none) hy rfl ?_
  intro p e s m args below meth c s₁ B0 hml hv
  obtain ⟨rfl, hsz, hE, hK, hO⟩ := hv
  have hts := atoms_spec (ws := Cond.code y cc maxL none :: xw_ws) B0.pre
  have hown : s.vm.findClass own = some m.cls := ho ▸ findClass_of_methodNamed B0.named
  have hin : meth.name = "<init>" := (name_of_methodNamed B0.named B0.method).1.trans hyn
  have hl := lv_entry av (n := maxL) hn
  rw [lg_entry_eq]
  exact body p e _ s m below meth c _ rfl rfl rfl rfl ⟨B0.exec, B0.bytes, hml, B0.returns, hown, fun w h => hts w (List.mem_cons_of_mem _ h), B0.notSynchronized⟩ hin hK hO hsz hE hl
end XNH
section XNK
variable {p : Program} {l : Launch} {e : Env} {R : Room} {s : State} {m : MethodId} {args : Array Value} {below : List Frame} {meth : Method} {c : Code} {H H0 : Heap} {locs : List Loc} {cells slots : Nat} {Q : State → Prop}
variable {cc bytes : ByteArray} {pc nL maxL index fr lo mc ms sz : Nat} {ls : Array Slot} {rest st0 As : List Value} {own : String} {y : MethodName} {ret0 : Option FieldType} {g : xw_G} {b : Nat} {E Post : Heap → Prop} {A A0 : Nat → Prop}
theorem xk_N (hM : xc_N l y (Cond.code y bytes maxL none) g sz (.ref b :: As) E Post A fr lo mc ms) (hcd : Cond.code y bytes maxL none ∈ xw_ws) (hini : Cond.initialized y.cls ∈ xw_ws) (hlk : Cond.methodLink own index y ∈ xw_ws) (him : Cond.instanceMethod y ∈ xw_ws)
    (hyn : y.name = "<init>") (hd : y.cls ≠ "java/lang/invoke/MethodHandle" ∧ y.cls ≠ "java/lang/invoke/VarHandle" ∧ (parseMethodDescriptor y.desc).map (fun d => d.parameters.length) = some As.length)
    (hC : xh_C p s m args meth c own cc nL ret0) (hK : xw_K g s) (hO : xw_O s) (hS : va_S A0 H0 H locs) (hsz : H.size = sz) (hE : E H) (hA : ∀ q, A q → A0 q)
    (hRf : fr + 1 ≤ R.frames) (hRl : 8 + (maxL + 11) + lo ≤ R.locals) (hRc : cells + mc ≤ R.cells) (hRs : slots + ms ≤ R.slots)
    (hls : ls.size = nL) (hst : st0 = As.reverse ++ .ref b :: rest) (hrm : (rest.map fun v => v.category).sum ≤ 8) (hdg : decode cc pc = .ok (.invokespecial index, 3))
    (kk : ∀ (H1 : Heap) (locs1 : List Loc), Post H1 → (∀ q : Nat, q < sz → ¬ A q → H1[q]? = H[q]?) → va_S A0 H0 H1 locs1 → W p l e R s m args below meth c H1 locs1 (cells + mc) (slots + ms) Q (F0 m (pc + 3) ls rest)) : W p l e R s m args below meth c H locs cells slots Q (F0 m pc ls st0) := by
  obtain ⟨hx, hb, hml, -, hown, hts, -⟩ := hC
  subst hsz
  exact xb_callv (va_runI (As := As) (rest := rest) ⟨hx, hb, hml, hown, hts⟩ hM (cwI As.length hts (xw_good hcd) rfl rfl rfl (hts _ hini) (hts _ hlk) (hts _ him) hyn hd ⟨hRf, hRl⟩) ⟨xn_P.blind, fun U hU hw => ⟨rfl, by rw [hU], by rw [hU]; exact hE, va_K.moved hw.alike hK, hO.moved hw.alike⟩⟩ rfl rfl hls hst (lv_room hrm) hdg ⟨hRc, hRs⟩) hS hA hA
    (fun t locs1 _ hB hz hk hS1 => kk t.heap locs1 hB hk hS1)
theorem xr_N (hC : xh_C p s m args meth c own cc nL none) (hS : va_S A s.heap H locs) (hc : cells ≤ mc) (hs : slots ≤ ms) (hp : Post H) (hdg : decode cc pc = .ok (.return_, 1)) :
    W p l e R s m args below meth c H locs cells slots (MQ below (xb_V (fun t => Post t.heap) A) args s mc ms A) (F0 m pc ls []) := by
  obtain ⟨hx, hb, -, hr, -, -, hlk⟩ := hC
  exact W.widen hc hs (W.vret hx hb hr (fun t ht hw => ⟨⟨rfl, by show Post t.heap; rw [ht]; exact hp⟩, hS.F ht⟩) hS.2.2 hdg hlk)
end XNK
section XNI
variable {g : xw_G} {H H1 : Heap} {a n o : Nat}
theorem xn_1 {q : Nat × va_E} (h : va_at g.1 vwCl q H) (hk : ∀ p : Nat, q.1 ≤ p → p < q.1 + 1 → H1[p]? = H[p]?) : va_at g.1 vwCl q H1 := h.kept (hk q.1 (Nat.le_refl _) (Nat.lt_succ_self _))
/-- a queue just made -/
def xn_Q (g : xw_G) (a n : Nat) (H : Heap) : Prop := va_at g.1 vwCl (a, .inr (xi_Q, [.ref (a + 1), .int 0, .int 0])) H ∧ ∃ f : Nat → Option Nat, va_at g.1 vwCl (a + 1, .inl (g.2 2, n, xw_r f)) H
theorem xn_Q.k (h : xn_Q g a n H) (hk : ∀ p : Nat, a ≤ p → p < a + 2 → H1[p]? = H[p]?) : xn_Q g a n H1 := by
  obtain ⟨h1, f, h2⟩ := h
  exact ⟨xn_1 h1 (fun p q1 q2 => hk p (by (try dsimp only at q1 q2); omega) (by (try dsimp only at q1 q2); omega)), f, xn_1 h2 (fun p q1 q2 => hk p (by (try dsimp only at q1 q2); omega) (by (try dsimp only at q1 q2); omega))⟩
def xn_A (g : xw_G) (a : Nat) (H : Heap) : Prop := va_at g.1 vwCl (a, .inr (xi_A, [.ref (a + 1), .ref (a + 2), .int 0, .int 0])) H ∧ va_at g.1 vwCl (a + 1, .inl (g.2 3, 8, .inl (fun _ => 0))) H ∧ xn_Q g (a + 2) 4 H
theorem xn_A.k (h : xn_A g a H) (hk : ∀ p : Nat, a ≤ p → p < a + 4 → H1[p]? = H[p]?) : xn_A g a H1 := by
  obtain ⟨h1, h2, h3⟩ := h
  exact ⟨xn_1 h1 (fun p q1 q2 => hk p (by (try dsimp only at q1 q2); omega) (by (try dsimp only at q1 q2); omega)), xn_1 h2 (fun p q1 q2 => hk p (by (try dsimp only at q1 q2); omega) (by (try dsimp only at q1 q2); omega)), h3.k (fun p q1 q2 => hk p (by omega) (by omega))⟩
def xn_C (g : xw_G) (a : Nat) (H : Heap) : Prop := va_at g.1 vwCl (a, .inr (xi_C, [.ref (a + 1), .int 0, .int (-1), .int (-1), .int 0, .int 0, .int 0])) H ∧ xn_Q g (a + 1) 10 H
theorem xn_C.k (h : xn_C g a H) (hk : ∀ p : Nat, a ≤ p → p < a + 3 → H1[p]? = H[p]?) : xn_C g a H1 := by
  obtain ⟨h1, h3⟩ := h
  exact ⟨xn_1 h1 (fun p q1 q2 => hk p (by (try dsimp only at q1 q2); omega) (by (try dsimp only at q1 q2); omega)), h3.k (fun p q1 q2 => hk p (by omega) (by omega))⟩
theorem xn_arr0 {cA : ClassId} {f f' : Nat → Option Nat} (hf : ∀ j, j < n → f j = f' j) : vp_cell cA (n, xw_r f) = vp_cell cA (n, xw_r f') := by
  show arrV cA n (fun j => va_rf (f j)) = arrV cA n (fun j => va_rf (f' j))
  unfold arrV
  congr 2
  funext j
  show va_rf (f j.val) = va_rf (f' j.val)
  rw [hf j.val j.isLt]
/-- an array is its cells -/
theorem xn_arr {cA : ClassId} {f f' : Nat → Option Nat} (h : va_at g.1 vwCl (a, .inl (cA, n, xw_r f)) H) (hf : ∀ j, j < n → f j = f' j) : va_at g.1 vwCl (a, .inl (cA, n, xw_r f')) H := by
  have h1 : H[a]? = some (vp_cell cA (n, xw_r f)) := h
  show H[a]? = some (vp_cell cA (n, xw_r f'))
  rw [h1]
  congr 1
  exact xn_arr0 hf
/-- the object just made -/
def xn_X (g : xw_G) (o : Nat) (H : Heap) : Prop :=
  va_at g.1 vwCl (o, .inr (xi_X, [.ref (o + 2), .ref (o + 35), .ref (o + 54), .int 1, .int 4242, .null])) H ∧
  va_at g.1 vwCl (o + 2, .inl (g.2 0, 8, xw_r (fun i => some (o + 3 + 4 * i)))) H ∧ va_at g.1 vwCl (o + 35, .inl (g.2 1, 6, xw_r (fun i => some (o + 36 + 3 * i)))) H ∧
  (∀ i, i < 8 → xn_A g (o + 3 + 4 * i) H) ∧ (∀ i, i < 6 → xn_C g (o + 36 + 3 * i) H) ∧ xn_Q g (o + 54) 8 H
def xs_S0 : xs_S := (fun _ => (false, 0), fun _ _ => 0, fun _ => (0, -1, -1, 0, 0, false), fun _ => [], fun _ => 0, true, 4242, none)
theorem xn_X.R {B : Nat → Prop} (h : xn_X g o H) (hB : ∀ q, xw_B o q → B q) (hs : ∀ q, B q → q < H.size) : xw_R g B o xs_S0 H := by
  obtain ⟨h1, h2, h3, h4, h5, h6⟩ := h
  refine ⟨⟨.null, h1, rfl⟩, h2, h3, fun i hi => ?_, fun i hi => ?_, fun i hi => ?_, fun n hn => ?_, hB, hs⟩
  · have h7 := (h4 i hi).1
    have h8 : xs_qo i = 5 + 4 * i := by simp [xs_qo, hi]
    show va_at g.1 vwCl (o + 3 + 4 * i, .inr (xi_A, [.ref (o + 4 + 4 * i), .ref (o + xs_qo i), .int 0, .int 0])) H
    rw [h8]
    rw [show o + 4 + 4 * i = o + 3 + 4 * i + 1 by omega, show o + (5 + 4 * i) = o + 3 + 4 * i + 2 by omega]
    exact h7
  · have h7 := (h4 i hi).2.1
    rw [show o + 4 + 4 * i = o + 3 + 4 * i + 1 by omega]
    exact h7
  · have h7 := (h5 i hi).1
    have h8 : xs_qo (8 + i) = 37 + 3 * i := by
      have e1 : ¬ 8 + i < 8 := by omega
      have e2 : 8 + i < 14 := by omega
      simp only [xs_qo, e1, e2, if_true, if_false]
      omega
    show va_at g.1 vwCl (o + 36 + 3 * i, .inr (xi_C, [.ref (o + xs_qo (8 + i)), .int 0, .int (-1), .int (-1), .int 0, .int 0, .int 0])) H
    rw [h8, show o + (37 + 3 * i) = o + 36 + 3 * i + 1 by omega]
    exact h7
  · have hq : ∀ a r : Nat, a = o + xs_qo n → r = xs_rm n → xn_Q g a r H → xw_Q g B o n (xs_q xs_S0 n) (xs_lo xs_S0 n) H := by
      intro a r ha hr h9
      subst ha
      subst hr
      obtain ⟨q1, f, q2⟩ := h9
      exact ⟨f, ⟨q1, q2⟩, Nat.zero_le _, fun j z hj => by cases hj⟩
    by_cases e1 : n < 8
    · exact hq (o + 3 + 4 * n + 2) 4 (by simp only [xs_qo, e1, if_true]; omega) (by simp only [xs_rm, e1, if_true]) (h4 n e1).2.2
    · by_cases e2 : n < 14
      · have h7 := (h5 (n - 8) (by omega)).2
        exact hq (o + 36 + 3 * (n - 8) + 1) 10 (by simp only [xs_qo, e1, e2, if_true, if_false]; omega) (by simp only [xs_rm, e1, e2, if_true, if_false]) h7
      · exact hq (o + 54) 8 (by simp only [xs_qo, e1, e2, if_false]) (by simp only [xs_rm, e1, e2, if_false]) h6
end XNI
theorem c_Z_initN (l : Launch) (g : xw_G) (a sz : Nat) (k f r v t u : Int32) : xc_N l y_Z_init (Cond.code y_Z_init b_Z_init 7 none) g sz [.ref a, .int k, .int f, .int r, .int v, .int t, .int u] (fun H => va_at g.1 vwCl (a, .inr (xi_Z, xw_z0)) H) (fun H => H.size = sz ∧ va_at g.1 vwCl (a, .inr (xi_Z, xw_zF (k, f, r, v, t, u))) H) (fun q => q = a) 1 20 0 0 :=
  fun p e h1 h2 h3 s m args below hf happ hP hk => c_Z_init l g a sz k f r v t u p e h1 h2 h3 s m args below hf happ ⟨hP.1, hP.2.1, hP.2.2.1, hP.2.2.2.1⟩ hk
theorem xw_Snew9 {A : Nat → Prop} {H0 H H1 : Heap} {locs : List Loc} {k : Nat} (h : va_S A H0 H locs) (hk : H.size = k) (z : H1.size = k + 1) (oq : ∀ q : Nat, q < k → H1[q]? = H[q]?) : va_S A H0 H1 locs := by
  subst hk
  exact xw_Snew h z oq
theorem ci_Z : y_Z_init.cls ≠ "java/lang/invoke/MethodHandle" ∧ y_Z_init.cls ≠ "java/lang/invoke/VarHandle" ∧ (parseMethodDescriptor y_Z_init.desc).map (fun d => d.parameters.length) = some 6 := by decide +kernel
theorem ci_Q : y_Q_init.cls ≠ "java/lang/invoke/MethodHandle" ∧ y_Q_init.cls ≠ "java/lang/invoke/VarHandle" ∧ (parseMethodDescriptor y_Q_init.desc).map (fun d => d.parameters.length) = some 2 := by decide +kernel
theorem ci_A : y_A_init.cls ≠ "java/lang/invoke/MethodHandle" ∧ y_A_init.cls ≠ "java/lang/invoke/VarHandle" ∧ (parseMethodDescriptor y_A_init.desc).map (fun d => d.parameters.length) = some 1 := by decide +kernel
theorem ci_C : y_C_init.cls ≠ "java/lang/invoke/MethodHandle" ∧ y_C_init.cls ≠ "java/lang/invoke/VarHandle" ∧ (parseMethodDescriptor y_C_init.desc).map (fun d => d.parameters.length) = some 1 := by decide +kernel
theorem ci_X : y_X_init.cls ≠ "java/lang/invoke/MethodHandle" ∧ y_X_init.cls ≠ "java/lang/invoke/VarHandle" ∧ (parseMethodDescriptor y_X_init.desc).map (fun d => d.parameters.length) = some 0 := by decide +kernel
theorem ci_U : y_U_init.cls ≠ "java/lang/invoke/MethodHandle" ∧ y_U_init.cls ≠ "java/lang/invoke/VarHandle" ∧ (parseMethodDescriptor y_U_init.desc).map (fun d => d.parameters.length) = some 0 := by decide +kernel
set_option maxHeartbeats 4000000 in
set_option maxRecDepth 100000 in
theorem c_Q_init (l : Launch) (g : xw_G) (a z : Nat) (vs : List Value) (N : Nat) (hN : N < 1000) (hza : z < a) : xc_N l y_Q_init (Cond.code y_Q_init b_Q_init 4 none) g (a + 1) [.ref a, .int (nI N), .ref z] (fun H => va_at g.1 vwCl (a, .inr (xi_Q, [.null, .int 0, .int 0])) H ∧ va_at g.1 vwCl (z, .inr (xi_Z, vs)) H) (fun H => H.size = a + 2 ∧ xn_Q g a N H) (fun q => a ≤ q) 1 20 1 N := by
  refine xh_N (own := R_Q) (by decide) rfl rfl (Nat.le_of_ble_eq_true rfl) ?_
  intro p e R s m below meth c ls hRf hRl hRc hRs hC hin hK hO hsz hE hl
  obtain ⟨hx, hb, hml, hr, hown, hts, hlk⟩ := id hC
  have hS : va_S (fun q => a ≤ q) s.heap s.heap [] := va_S.rf
  have hl : lv_has ls 4 [(0, .ref a), (1, .int (nI N)), (2, .ref z)] := hl
  obtain ⟨hat, hz0⟩ := hE
  refine lv_aload_n hx hb d_Q_init_0 rfl (lv_at hl 0 rfl) ?_
  refine W.objInit hx hb hown (hts _ ml_Q_1) (hts _ im_obj) (hts _ cd_obj) rfl (by rw [hml]; exact hl.1) rfl d_Q_init_1 (by omega) (by rw [hRl]; exact Nat.le_of_ble_eq_true rfl) ?_
  refine W.eq (g2 := F0 m 4 ls []) rfl ?_
  refine lv_aload_n hx hb d_Q_init_4 rfl (lv_at hl 0 rfl) ?_
  refine lv_iload_n hx hb d_Q_init_5 rfl (lv_at hl 1 rfl) ?_
  refine xb_anew hx hb hown (hts _ cl_Q_7) (va_AO.use hO.2.2) hK 2 rfl (nI_pos (by omega)) (N' := N) (nI_clamp (by omega)) (by omega) (by omega) (by omega) d_Q_init_6 (fun H1 hn_1 hz hq => ?_)
  rw [hsz] at hn_1 hz hq ⊢
  have hS := xw_Snew9 hS hsz hz hq
  have hat := xn_1 hat (fun q h1 h2 => hq q (by (try dsimp only at h1 h2); omega))
  have hz0 := xn_1 hz0 (fun q h1 h2 => hq q (by (try dsimp only at h1 h2); omega))
  have hsz := hz
  have hn_1 : va_at g.1 vwCl (a + 1, .inl (g.2 2, N, xw_r (fun _ => none))) H1 := hn_1
  refine xb_putF hx hb hts xw_in_Q t_Q t_Q_ok n_Q hown hK (ci := xi_Q) rfl 0 (by decide) (hts _ lk_Q_9) rfl rfl hin rfl hat rfl rfl (Nat.le_of_ble_eq_true rfl) d_Q_init_9 (fun H lc hlc hat hz hq => ?_)
  have hat : va_at g.1 vwCl (a, .inr (xi_Q, [.ref (a + 1), .int 0, .int 0])) H := hat
  have hsz := hz.trans hsz
  have hS := xw_Sput hS hz hq hlc (by (try dsimp only); omega)
  have hz0 := xn_1 hz0 (fun q h1 h2 => hq q (by (try dsimp only at h1 h2); omega))
  have hn_1 := xn_1 hn_1 (fun q h1 h2 => hq q (by (try dsimp only at h1 h2); omega))
  refine lv_iconst (v := 0) hx hb d_Q_init_12 (by decide) ?_
  refine lv_istore_n (lv' := [(3, .int 0), (0, .ref a), (1, .int (nI N)), (2, .ref z)]) hx hb d_Q_init_13 rfl hl (by decide) rfl (fun ls hl => ?_)
  have loop : ∀ (n i : Nat) (f : Nat → Option Nat) (H : Heap) (locs : List Loc) (ls : Array Slot), i + n = N → va_at g.1 vwCl (a, .inr (xi_Q, [.ref (a + 1), .int 0, .int 0])) H → va_at g.1 vwCl (a + 1, .inl (g.2 2, N, xw_r f)) H → va_at g.1 vwCl (z, .inr (xi_Z, vs)) H → H.size = a + 2 → va_S (fun q => a ≤ q) s.heap H locs → lv_has ls 4 [(0, .ref a), (1, .int (nI N)), (2, .ref z), (3, .int (nI i))] → W p l e R s m [.ref a, .int (nI N), .ref z].toArray below meth c H locs (0 + 1) (0 + N) (MQ below (xb_V (fun t => t.heap.size = a + 2 ∧ xn_Q g a N t.heap) (fun q => a ≤ q)) [.ref a, .int (nI N), .ref z].toArray s 1 N (fun q => a ≤ q)) (F0 m 14 ls []) := by
    intro n
    induction n with
    | zero =>
      intro i f H locs ls hi hat harr hz0 hsz hS hl
      refine lv_iload_n hx hb d_Q_init_14 rfl (lv_at hl 3 rfl) ?_
      refine lv_iload_n hx hb d_Q_init_15 rfl (lv_at hl 1 rfl) ?_
      refine lv_icmp_ge (tgt := 32) hx hb d_Q_init_16 (by decide) (fun c_2 => ?_) (fun c_2 => absurd (nI_le (show N ≤ i by omega) (show i < 2 ^ 31 by omega)) c_2)
      refine lv_aload_n hx hb d_Q_init_32 rfl (lv_at hl 0 rfl) ?_
      refine lv_iconst (v := 0) hx hb d_Q_init_33 (by decide) ?_
      refine xb_put hx hb hts xw_in_Q t_Q t_Q_ok n_Q hown hK (ci := xi_Q) rfl 1 (by decide) (hts _ lk_Q_15) rfl rfl hat rfl rfl (Nat.le_of_ble_eq_true rfl) d_Q_init_34 (fun H lc hlc hat hz hq => ?_)
      have hat : va_at g.1 vwCl (a, .inr (xi_Q, [.ref (a + 1), .int 0, .int 0])) H := hat
      have hsz := hz.trans hsz
      have hS := xw_Sput hS hz hq hlc (by (try dsimp only); omega)
      have harr := xn_1 harr (fun q h1 h2 => hq q (by (try dsimp only at h1 h2); omega))
      have hz0 := xn_1 hz0 (fun q h1 h2 => hq q (by (try dsimp only at h1 h2); omega))
      refine lv_aload_n hx hb d_Q_init_37 rfl (lv_at hl 0 rfl) ?_
      refine lv_iconst (v := 0) hx hb d_Q_init_38 (by decide) ?_
      refine xb_put hx hb hts xw_in_Q t_Q t_Q_ok n_Q hown hK (ci := xi_Q) rfl 2 (by decide) (hts _ lk_Q_19) rfl rfl hat rfl rfl (Nat.le_of_ble_eq_true rfl) d_Q_init_39 (fun H lc hlc hat hz hq => ?_)
      have hat : va_at g.1 vwCl (a, .inr (xi_Q, [.ref (a + 1), .int 0, .int 0])) H := hat
      have hsz := hz.trans hsz
      have hS := xw_Sput hS hz hq hlc (by (try dsimp only); omega)
      have harr := xn_1 harr (fun q h1 h2 => hq q (by (try dsimp only at h1 h2); omega))
      have hz0 := xn_1 hz0 (fun q h1 h2 => hq q (by (try dsimp only at h1 h2); omega))
      exact xr_N (Post := fun H => H.size = a + 2 ∧ xn_Q g a N H) hC hS (by omega) (by omega) ⟨hsz, hat, _, harr⟩ d_Q_init_42
    | succ n ih =>
      intro i f H locs ls hi hat harr hz0 hsz hS hl
      refine lv_iload_n hx hb d_Q_init_14 rfl (lv_at hl 3 rfl) ?_
      refine lv_iload_n hx hb d_Q_init_15 rfl (lv_at hl 1 rfl) ?_
      refine lv_icmp_ge (tgt := 32) hx hb d_Q_init_16 (by decide) (fun c_3 => absurd c_3 (nI_ge (show i < N by omega) (by omega))) (fun c_3 => ?_)
      refine lv_aload_n hx hb d_Q_init_19 rfl (lv_at hl 0 rfl) ?_
      refine xb_get hx hb hts xw_in_Q hown hK (ci := xi_Q) rfl 0 (by decide) (hts _ lk_Q_9) rfl hat rfl d_Q_init_20 ?_
      refine lv_iload_n hx hb d_Q_init_23 rfl (lv_at hl 3 rfl) ?_
      refine lv_aload_n hx hb d_Q_init_24 rfl (lv_at hl 2 rfl) ?_
      refine xb_aast hx hb hK 2 2 rfl rfl harr hz0 (vp_in_nI (show i < N by omega) (by omega)) d_Q_init_25 (fun H lc hlc harr hz hq => ?_)
      have hsz := hz.trans hsz
      have hS := xw_Sput hS hz hq hlc (by (try dsimp only); omega)
      have hat := xn_1 hat (fun q h1 h2 => hq q (by (try dsimp only at h1 h2); omega))
      have hz0 := xn_1 hz0 (fun q h1 h2 => hq q (by (try dsimp only at h1 h2); omega))
      refine lv_iinc (v := nI (i + 1)) (lv' := [(3, .int (nI (i + 1))), (0, .ref a), (1, .int (nI N)), (2, .ref z)]) hx hb d_Q_init_26 hl (k := 3) rfl (nI_1 _) (by decide) rfl (fun ls hl => ?_)
      refine lv_goto (tgt := 14) hx hb d_Q_init_29 (by decide) ?_
      exact ih (i + 1) _ _ _ ls (by omega) hat harr hz0 hsz hS (lv_sub hl [1, 2, 3, 0] rfl)
  exact loop N 0 _ _ _ ls (by omega) hat hn_1 hz0 hsz hS (lv_sub hl [1, 2, 3, 0] rfl)
set_option maxHeartbeats 4000000 in
set_option maxRecDepth 100000 in
theorem c_A_init (l : Launch) (g : xw_G) (a z : Nat) (vs : List Value) (hza : z < a) : xc_N l y_A_init (Cond.code y_A_init b_A_init 2 none) g (a + 1) [.ref a, .ref z] (fun H => va_at g.1 vwCl (a, .inr (xi_A, [.null, .null, .int 0, .int 0])) H ∧ va_at g.1 vwCl (z, .inr (xi_Z, vs)) H) (fun H => H.size = a + 4 ∧ xn_A g a H) (fun q => a ≤ q) 2 50 3 15 := by
  refine xh_N (own := R_A) (by decide) rfl rfl (Nat.le_of_ble_eq_true rfl) ?_
  intro p e R s m below meth c ls hRf hRl hRc hRs hC hin hK hO hsz hE hl
  obtain ⟨hx, hb, hml, hr, hown, hts, hlk⟩ := id hC
  have hS : va_S (fun q => a ≤ q) s.heap s.heap [] := va_S.rf
  have hl : lv_has ls 2 [(0, .ref a), (1, .ref z)] := hl
  obtain ⟨hat, hz0⟩ := hE
  refine lv_aload_n hx hb d_A_init_0 rfl (lv_at hl 0 rfl) ?_
  refine W.objInit hx hb hown (hts _ ml_A_3) (hts _ im_obj) (hts _ cd_obj) rfl (by rw [hml]; exact hl.1) rfl d_A_init_1 (by omega) (by rw [hRl]; exact Nat.le_of_ble_eq_true rfl) ?_
  refine W.eq (g2 := F0 m 4 ls []) rfl ?_
  refine lv_aload_n hx hb d_A_init_4 rfl (lv_at hl 0 rfl) ?_
  refine lv_bipush (v := 8) hx hb d_A_init_5 (by decide) ?_
  refine xb_newa hx hb (hts _ ar_int) hK 3 rfl (by decide) (N' := 8) rfl (by decide) (by omega) (by omega) d_A_init_7 (fun H1 hn_1 hz hq => ?_)
  rw [hsz] at hn_1 hz hq ⊢
  have hS := xw_Snew9 hS hsz hz hq
  have hat := xn_1 hat (fun q h1 h2 => hq q (by (try dsimp only at h1 h2); omega))
  have hz0 := xn_1 hz0 (fun q h1 h2 => hq q (by (try dsimp only at h1 h2); omega))
  have hsz := hz
  have hn_1 : va_at g.1 vwCl (a + 1, .inl (g.2 3, 8, .inl (fun _ => 0))) H1 := hn_1
  refine xb_putF hx hb hts xw_in_A t_A t_A_ok n_A hown hK (ci := xi_A) rfl 0 (by decide) (hts _ lk_A_9) rfl rfl hin rfl hat rfl rfl (Nat.le_of_ble_eq_true rfl) d_A_init_9 (fun H lc hlc hat hz hq => ?_)
  have hat : va_at g.1 vwCl (a, .inr (xi_A, [.ref (a + 1), .null, .int 0, .int 0])) H := hat
  have hsz := hz.trans hsz
  have hS := xw_Sput hS hz hq hlc (by (try dsimp only); omega)
  have hz0 := xn_1 hz0 (fun q h1 h2 => hq q (by (try dsimp only at h1 h2); omega))
  have hn_1 := xn_1 hn_1 (fun q h1 h2 => hq q (by (try dsimp only at h1 h2); omega))
  refine lv_aload_n hx hb d_A_init_12 rfl (lv_at hl 0 rfl) ?_
  refine xb_new hx hb hts xw_in_Q t_Q t_Q_ok hown (hts _ cl_A_15) (hts _ is_Q) (hts _ ii_Q) hK (ci := xi_Q) rfl (fs := [.null, .int 0, .int 0]) (fun j hj => by rcases (show j = 0 ∨ j = 1 ∨ j = 2 by omega) with rfl | rfl | rfl <;> rfl) (by omega) (by omega) d_A_init_13 (fun H1 hn_2 hz hq => ?_)
  rw [hsz] at hn_2 hz hq ⊢
  have hS := xw_Snew9 hS hsz hz hq
  have hat := xn_1 hat (fun q h1 h2 => hq q (by (try dsimp only at h1 h2); omega))
  have hz0 := xn_1 hz0 (fun q h1 h2 => hq q (by (try dsimp only at h1 h2); omega))
  have hn_1 := xn_1 hn_1 (fun q h1 h2 => hq q (by (try dsimp only at h1 h2); omega))
  have hsz := hz
  have hn_2 : va_at g.1 vwCl (a + 2, .inr (xi_Q, [.null, .int 0, .int 0])) H1 := hn_2
  refine lv_dup hx hb d_A_init_16 rfl ?_
  refine lv_iconst (v := 4) hx hb d_A_init_17 (by decide) ?_
  refine lv_aload_n hx hb d_A_init_18 rfl (lv_at hl 1 rfl) ?_
  refine xk_N (rest := [.ref (a + 2), .ref a]) (c_Q_init l g (a + 2) (z) vs 4 (by decide) (by omega)) cd_Q_init ii_Q ml_A_17 im_Q_init rfl ci_Q hC hK hO hS hsz ⟨hn_2, hz0⟩ (fun q hq => by (try dsimp only at hq); (try dsimp only); omega) (by omega) (by rw [hRl]; exact Nat.le_of_ble_eq_true rfl) (by omega) (by omega) hl.1 rfl (Nat.le_of_ble_eq_true rfl) d_A_init_19 (fun H locs hpost hq hS => ?_)
  have hat := xn_1 hat (fun q h1 h2 => hq q (by (try dsimp only at h1 h2); omega) (by (try dsimp only at h1 h2); (try dsimp only); omega))
  have hz0 := xn_1 hz0 (fun q h1 h2 => hq q (by (try dsimp only at h1 h2); omega) (by (try dsimp only at h1 h2); (try dsimp only); omega))
  have hn_1 := xn_1 hn_1 (fun q h1 h2 => hq q (by (try dsimp only at h1 h2); omega) (by (try dsimp only at h1 h2); (try dsimp only); omega))
  have hsz := hpost.1
  have hn_2 := hpost.2
  have hsz : H.size = a + 4 := by omega
  refine xb_putF hx hb hts xw_in_A t_A t_A_ok n_A hown hK (ci := xi_A) rfl 1 (by decide) (hts _ lk_A_20) rfl rfl hin rfl hat rfl rfl (Nat.le_of_ble_eq_true rfl) d_A_init_22 (fun H lc hlc hat hz hq => ?_)
  have hat : va_at g.1 vwCl (a, .inr (xi_A, [.ref (a + 1), .ref (a + 2), .int 0, .int 0])) H := hat
  have hsz := hz.trans hsz
  have hS := xw_Sput hS hz hq hlc (by (try dsimp only); omega)
  have hz0 := xn_1 hz0 (fun q h1 h2 => hq q (by (try dsimp only at h1 h2); omega))
  have hn_1 := xn_1 hn_1 (fun q h1 h2 => hq q (by (try dsimp only at h1 h2); omega))
  have hn_2 := xn_Q.k hn_2 (fun q h1 h2 => hq q (by (try dsimp only at h1 h2); omega))
  refine lv_aload_n hx hb d_A_init_25 rfl (lv_at hl 0 rfl) ?_
  refine lv_iconst (v := 0) hx hb d_A_init_26 (by decide) ?_
  refine xb_put hx hb hts xw_in_A t_A t_A_ok n_A hown hK (ci := xi_A) rfl 2 (by decide) (hts _ lk_A_24) rfl rfl hat rfl rfl (Nat.le_of_ble_eq_true rfl) d_A_init_27 (fun H lc hlc hat hz hq => ?_)
  have hat : va_at g.1 vwCl (a, .inr (xi_A, [.ref (a + 1), .ref (a + 2), .int 0, .int 0])) H := hat
  have hsz := hz.trans hsz
  have hS := xw_Sput hS hz hq hlc (by (try dsimp only); omega)
  have hz0 := xn_1 hz0 (fun q h1 h2 => hq q (by (try dsimp only at h1 h2); omega))
  have hn_1 := xn_1 hn_1 (fun q h1 h2 => hq q (by (try dsimp only at h1 h2); omega))
  have hn_2 := xn_Q.k hn_2 (fun q h1 h2 => hq q (by (try dsimp only at h1 h2); omega))
  refine lv_aload_n hx hb d_A_init_30 rfl (lv_at hl 0 rfl) ?_
  refine lv_iconst (v := 0) hx hb d_A_init_31 (by decide) ?_
  refine xb_put hx hb hts xw_in_A t_A t_A_ok n_A hown hK (ci := xi_A) rfl 3 (by decide) (hts _ lk_A_28) rfl rfl hat rfl rfl (Nat.le_of_ble_eq_true rfl) d_A_init_32 (fun H lc hlc hat hz hq => ?_)
  have hat : va_at g.1 vwCl (a, .inr (xi_A, [.ref (a + 1), .ref (a + 2), .int 0, .int 0])) H := hat
  have hsz := hz.trans hsz
  have hS := xw_Sput hS hz hq hlc (by (try dsimp only); omega)
  have hz0 := xn_1 hz0 (fun q h1 h2 => hq q (by (try dsimp only at h1 h2); omega))
  have hn_1 := xn_1 hn_1 (fun q h1 h2 => hq q (by (try dsimp only at h1 h2); omega))
  have hn_2 := xn_Q.k hn_2 (fun q h1 h2 => hq q (by (try dsimp only at h1 h2); omega))
  exact xr_N (Post := fun H => H.size = a + 4 ∧ xn_A g a H) hC hS (by omega) (by omega) ⟨hsz, hat, hn_1, hn_2⟩ d_A_init_35
set_option maxHeartbeats 4000000 in
set_option maxRecDepth 100000 in
theorem c_C_init (l : Launch) (g : xw_G) (a z : Nat) (vs : List Value) (hza : z < a) : xc_N l y_C_init (Cond.code y_C_init b_C_init 2 none) g (a + 1) [.ref a, .ref z] (fun H => va_at g.1 vwCl (a, .inr (xi_C, [.null, .int 0, .int 0, .int 0, .int 0, .int 0, .int 0])) H ∧ va_at g.1 vwCl (z, .inr (xi_Z, vs)) H) (fun H => H.size = a + 3 ∧ xn_C g a H) (fun q => a ≤ q) 2 50 2 13 := by
  refine xh_N (own := R_C) (by decide) rfl rfl (Nat.le_of_ble_eq_true rfl) ?_
  intro p e R s m below meth c ls hRf hRl hRc hRs hC hin hK hO hsz hE hl
  obtain ⟨hx, hb, hml, hr, hown, hts, hlk⟩ := id hC
  have hS : va_S (fun q => a ≤ q) s.heap s.heap [] := va_S.rf
  have hl : lv_has ls 2 [(0, .ref a), (1, .ref z)] := hl
  obtain ⟨hat, hz0⟩ := hE
  refine lv_aload_n hx hb d_C_init_0 rfl (lv_at hl 0 rfl) ?_
  refine W.objInit hx hb hown (hts _ ml_C_3) (hts _ im_obj) (hts _ cd_obj) rfl (by rw [hml]; exact hl.1) rfl d_C_init_1 (by omega) (by rw [hRl]; exact Nat.le_of_ble_eq_true rfl) ?_
  refine W.eq (g2 := F0 m 4 ls []) rfl ?_
  refine lv_aload_n hx hb d_C_init_4 rfl (lv_at hl 0 rfl) ?_
  refine xb_new hx hb hts xw_in_Q t_Q t_Q_ok hown (hts _ cl_C_9) (hts _ is_Q) (hts _ ii_Q) hK (ci := xi_Q) rfl (fs := [.null, .int 0, .int 0]) (fun j hj => by rcases (show j = 0 ∨ j = 1 ∨ j = 2 by omega) with rfl | rfl | rfl <;> rfl) (by omega) (by omega) d_C_init_5 (fun H1 hn_1 hz hq => ?_)
  rw [hsz] at hn_1 hz hq ⊢
  have hS := xw_Snew9 hS hsz hz hq
  have hat := xn_1 hat (fun q h1 h2 => hq q (by (try dsimp only at h1 h2); omega))
  have hz0 := xn_1 hz0 (fun q h1 h2 => hq q (by (try dsimp only at h1 h2); omega))
  have hsz := hz
  have hn_1 : va_at g.1 vwCl (a + 1, .inr (xi_Q, [.null, .int 0, .int 0])) H1 := hn_1
  refine lv_dup hx hb d_C_init_8 rfl ?_
  refine lv_bipush (v := 10) hx hb d_C_init_9 (by decide) ?_
  refine lv_aload_n hx hb d_C_init_11 rfl (lv_at hl 1 rfl) ?_
  refine xk_N (rest := [.ref (a + 1), .ref a]) (c_Q_init l g (a + 1) (z) vs 10 (by decide) (by omega)) cd_Q_init ii_Q ml_C_11 im_Q_init rfl ci_Q hC hK hO hS hsz ⟨hn_1, hz0⟩ (fun q hq => by (try dsimp only at hq); (try dsimp only); omega) (by omega) (by rw [hRl]; exact Nat.le_of_ble_eq_true rfl) (by omega) (by omega) hl.1 rfl (Nat.le_of_ble_eq_true rfl) d_C_init_12 (fun H locs hpost hq hS => ?_)
  have hat := xn_1 hat (fun q h1 h2 => hq q (by (try dsimp only at h1 h2); omega) (by (try dsimp only at h1 h2); (try dsimp only); omega))
  have hz0 := xn_1 hz0 (fun q h1 h2 => hq q (by (try dsimp only at h1 h2); omega) (by (try dsimp only at h1 h2); (try dsimp only); omega))
  have hsz := hpost.1
  have hn_1 := hpost.2
  have hsz : H.size = a + 3 := by omega
  refine xb_putF hx hb hts xw_in_C t_C t_C_ok n_C hown hK (ci := xi_C) rfl 0 (by decide) (hts _ lk_C_14) rfl rfl hin rfl hat rfl rfl (Nat.le_of_ble_eq_true rfl) d_C_init_15 (fun H lc hlc hat hz hq => ?_)
  have hat : va_at g.1 vwCl (a, .inr (xi_C, [.ref (a + 1), .int 0, .int 0, .int 0, .int 0, .int 0, .int 0])) H := hat
  have hsz := hz.trans hsz
  have hS := xw_Sput hS hz hq hlc (by (try dsimp only); omega)
  have hz0 := xn_1 hz0 (fun q h1 h2 => hq q (by (try dsimp only at h1 h2); omega))
  have hn_1 := xn_Q.k hn_1 (fun q h1 h2 => hq q (by (try dsimp only at h1 h2); omega))
  refine lv_aload_n hx hb d_C_init_18 rfl (lv_at hl 0 rfl) ?_
  refine lv_iconst (v := 0) hx hb d_C_init_19 (by decide) ?_
  refine xb_put hx hb hts xw_in_C t_C t_C_ok n_C hown hK (ci := xi_C) rfl 1 (by decide) (hts _ lk_C_20) rfl rfl hat rfl rfl (Nat.le_of_ble_eq_true rfl) d_C_init_20 (fun H lc hlc hat hz hq => ?_)
  have hat : va_at g.1 vwCl (a, .inr (xi_C, [.ref (a + 1), .int 0, .int 0, .int 0, .int 0, .int 0, .int 0])) H := hat
  have hsz := hz.trans hsz
  have hS := xw_Sput hS hz hq hlc (by (try dsimp only); omega)
  have hz0 := xn_1 hz0 (fun q h1 h2 => hq q (by (try dsimp only at h1 h2); omega))
  have hn_1 := xn_Q.k hn_1 (fun q h1 h2 => hq q (by (try dsimp only at h1 h2); omega))
  refine lv_aload_n hx hb d_C_init_23 rfl (lv_at hl 0 rfl) ?_
  refine lv_iconst (v := (-1)) hx hb d_C_init_24 (by decide) ?_
  refine xb_put hx hb hts xw_in_C t_C t_C_ok n_C hown hK (ci := xi_C) rfl 2 (by decide) (hts _ lk_C_24) rfl rfl hat rfl rfl (Nat.le_of_ble_eq_true rfl) d_C_init_25 (fun H lc hlc hat hz hq => ?_)
  have hat : va_at g.1 vwCl (a, .inr (xi_C, [.ref (a + 1), .int 0, .int (-1), .int 0, .int 0, .int 0, .int 0])) H := hat
  have hsz := hz.trans hsz
  have hS := xw_Sput hS hz hq hlc (by (try dsimp only); omega)
  have hz0 := xn_1 hz0 (fun q h1 h2 => hq q (by (try dsimp only at h1 h2); omega))
  have hn_1 := xn_Q.k hn_1 (fun q h1 h2 => hq q (by (try dsimp only at h1 h2); omega))
  refine lv_aload_n hx hb d_C_init_28 rfl (lv_at hl 0 rfl) ?_
  refine lv_iconst (v := (-1)) hx hb d_C_init_29 (by decide) ?_
  refine xb_put hx hb hts xw_in_C t_C t_C_ok n_C hown hK (ci := xi_C) rfl 3 (by decide) (hts _ lk_C_27) rfl rfl hat rfl rfl (Nat.le_of_ble_eq_true rfl) d_C_init_30 (fun H lc hlc hat hz hq => ?_)
  have hat : va_at g.1 vwCl (a, .inr (xi_C, [.ref (a + 1), .int 0, .int (-1), .int (-1), .int 0, .int 0, .int 0])) H := hat
  have hsz := hz.trans hsz
  have hS := xw_Sput hS hz hq hlc (by (try dsimp only); omega)
  have hz0 := xn_1 hz0 (fun q h1 h2 => hq q (by (try dsimp only at h1 h2); omega))
  have hn_1 := xn_Q.k hn_1 (fun q h1 h2 => hq q (by (try dsimp only at h1 h2); omega))
  refine lv_aload_n hx hb d_C_init_33 rfl (lv_at hl 0 rfl) ?_
  refine lv_iconst (v := 0) hx hb d_C_init_34 (by decide) ?_
  refine xb_put hx hb hts xw_in_C t_C t_C_ok n_C hown hK (ci := xi_C) rfl 4 (by decide) (hts _ lk_C_30) rfl rfl hat rfl rfl (Nat.le_of_ble_eq_true rfl) d_C_init_35 (fun H lc hlc hat hz hq => ?_)
  have hat : va_at g.1 vwCl (a, .inr (xi_C, [.ref (a + 1), .int 0, .int (-1), .int (-1), .int 0, .int 0, .int 0])) H := hat
  have hsz := hz.trans hsz
  have hS := xw_Sput hS hz hq hlc (by (try dsimp only); omega)
  have hz0 := xn_1 hz0 (fun q h1 h2 => hq q (by (try dsimp only at h1 h2); omega))
  have hn_1 := xn_Q.k hn_1 (fun q h1 h2 => hq q (by (try dsimp only at h1 h2); omega))
  refine lv_aload_n hx hb d_C_init_38 rfl (lv_at hl 0 rfl) ?_
  refine lv_iconst (v := 0) hx hb d_C_init_39 (by decide) ?_
  refine xb_put hx hb hts xw_in_C t_C t_C_ok n_C hown hK (ci := xi_C) rfl 5 (by decide) (hts _ lk_C_33) rfl rfl hat rfl rfl (Nat.le_of_ble_eq_true rfl) d_C_init_40 (fun H lc hlc hat hz hq => ?_)
  have hat : va_at g.1 vwCl (a, .inr (xi_C, [.ref (a + 1), .int 0, .int (-1), .int (-1), .int 0, .int 0, .int 0])) H := hat
  have hsz := hz.trans hsz
  have hS := xw_Sput hS hz hq hlc (by (try dsimp only); omega)
  have hz0 := xn_1 hz0 (fun q h1 h2 => hq q (by (try dsimp only at h1 h2); omega))
  have hn_1 := xn_Q.k hn_1 (fun q h1 h2 => hq q (by (try dsimp only at h1 h2); omega))
  refine lv_aload_n hx hb d_C_init_43 rfl (lv_at hl 0 rfl) ?_
  refine lv_iconst (v := 0) hx hb d_C_init_44 (by decide) ?_
  refine xb_put hx hb hts xw_in_C t_C t_C_ok n_C hown hK (ci := xi_C) rfl 6 (by decide) (hts _ lk_C_36) rfl rfl hat rfl rfl (Nat.le_of_ble_eq_true rfl) d_C_init_45 (fun H lc hlc hat hz hq => ?_)
  have hat : va_at g.1 vwCl (a, .inr (xi_C, [.ref (a + 1), .int 0, .int (-1), .int (-1), .int 0, .int 0, .int 0])) H := hat
  have hsz := hz.trans hsz
  have hS := xw_Sput hS hz hq hlc (by (try dsimp only); omega)
  have hz0 := xn_1 hz0 (fun q h1 h2 => hq q (by (try dsimp only at h1 h2); omega))
  have hn_1 := xn_Q.k hn_1 (fun q h1 h2 => hq q (by (try dsimp only at h1 h2); omega))
  exact xr_N (Post := fun H => H.size = a + 3 ∧ xn_C g a H) hC hS (by omega) (by omega) ⟨hsz, hat, hn_1⟩ d_C_init_48
theorem xn_up {f : Nat → Option Nat} {i j k v : Nat} {ad : Nat → Nat} (hf : ∀ j, j < i → f j = some (ad j)) (hj : j < i + 1) (hk : k = i) (hv : v = ad i) : va_up f k (some v) j = some (ad j) := by
  subst hk
  subst hv
  by_cases e : j = k
  · subst e
    exact va_up_self _ _ _
  · rw [va_up_ne _ _ e]
    exact hf j (by omega)
set_option maxHeartbeats 4000000 in
set_option maxRecDepth 100000 in
theorem c_X_init (l : Launch) (g : xw_G) (o : Nat) : xc_N l y_X_init (Cond.code y_X_init b_X_init 3 none) g (o + 1) [.ref o] (fun H => va_at g.1 vwCl (o, .inr (xi_X, [.null, .null, .null, .int 0, .int 0, .null])) H) (fun H => H.size = o + 56 ∧ xn_X g o H) (fun q => o ≤ q) 3 90 55 303 := by
  refine xh_N (own := R_X) (by decide) rfl rfl (Nat.le_of_ble_eq_true rfl) ?_
  intro p e R s m below meth c ls hRf hRl hRc hRs hC hin hK hO hsz hE hl
  obtain ⟨hx, hb, hml, hr, hown, hts, hlk⟩ := id hC
  have hS : va_S (fun q => o ≤ q) s.heap s.heap [] := va_S.rf
  have hl : lv_has ls 3 [(0, .ref o)] := hl
  have hat := hE
  refine lv_aload_n hx hb d_X_init_0 rfl (lv_at hl 0 rfl) ?_
  refine W.objInit hx hb hown (hts _ ml_X_1) (hts _ im_obj) (hts _ cd_obj) rfl (by rw [hml]; exact hl.1) rfl d_X_init_1 (by omega) (by rw [hRl]; exact Nat.le_of_ble_eq_true rfl) ?_
  refine W.eq (g2 := F0 m 4 ls []) rfl ?_
  refine xb_new hx hb hts xw_in_Z t_Z t_Z_ok hown (hts _ cl_X_7) (hts _ is_Z) (hts _ ii_Z) hK (ci := xi_Z) rfl (fs := [.int 0, .int 0, .int 0, .int 0, .int 0, .int 0]) (fun j hj => by rcases (show j = 0 ∨ j = 1 ∨ j = 2 ∨ j = 3 ∨ j = 4 ∨ j = 5 by omega) with rfl | rfl | rfl | rfl | rfl | rfl <;> rfl) (by omega) (by omega) d_X_init_4 (fun H1 hn_1 hz hq => ?_)
  rw [hsz] at hn_1 hz hq ⊢
  have hS := xw_Snew9 hS hsz hz hq
  have hat := xn_1 hat (fun q h1 h2 => hq q (by (try dsimp only at h1 h2); omega))
  have hsz := hz
  have hn_1 : va_at g.1 vwCl (o + 1, .inr (xi_Z, [.int 0, .int 0, .int 0, .int 0, .int 0, .int 0])) H1 := hn_1
  refine lv_dup hx hb d_X_init_7 rfl ?_
  refine lv_iconst (v := 0) hx hb d_X_init_8 (by decide) ?_
  refine lv_iconst (v := (-1)) hx hb d_X_init_9 (by decide) ?_
  refine lv_iconst (v := (-1)) hx hb d_X_init_10 (by decide) ?_
  refine lv_iconst (v := 0) hx hb d_X_init_11 (by decide) ?_
  refine lv_iconst (v := (-1)) hx hb d_X_init_12 (by decide) ?_
  refine lv_iconst (v := (-1)) hx hb d_X_init_13 (by decide) ?_
  refine xk_N (rest := [.ref (o + 1)]) (c_Z_initN l g (o + 1) (o + 2) 0 (-1) (-1) 0 (-1) (-1)) cd_Z_init ii_Z ml_X_11 im_Z_init rfl ci_Z hC hK hO hS hsz hn_1 (fun q hq => by (try dsimp only at hq); (try dsimp only); omega) (by omega) (by rw [hRl]; exact Nat.le_of_ble_eq_true rfl) (by omega) (by omega) hl.1 rfl (Nat.le_of_ble_eq_true rfl) d_X_init_14 (fun H locs hpost hq hS => ?_)
  have hat := xn_1 hat (fun q h1 h2 => hq q (by (try dsimp only at h1 h2); omega) (by (try dsimp only at h1 h2); (try dsimp only); omega))
  have hsz := hpost.1
  have hn_1 := hpost.2
  have hz0 := hn_1
  have hsz : H.size = o + 2 := by omega
  refine lv_astore_n (lv' := [(1, .ref (o + 1)), (0, .ref o)]) hx hb d_X_init_17 rfl hl (by decide) rfl (fun ls hl => ?_)
  refine lv_aload_n hx hb d_X_init_18 rfl (lv_at hl 1 rfl) ?_
  refine lv_bipush (v := 8) hx hb d_X_init_19 (by decide) ?_
  refine xb_anew hx hb hown (hts _ cl_X_14) (va_AO.use hO.1) hK 0 rfl (by decide) (N' := 8) rfl (by omega) (by omega) (by omega) d_X_init_21 (fun H1 hn_2 hz hq => ?_)
  rw [hsz] at hn_2 hz hq ⊢
  have hS := xw_Snew9 hS hsz hz hq
  have hat := xn_1 hat (fun q h1 h2 => hq q (by (try dsimp only at h1 h2); omega))
  have hz0 := xn_1 hz0 (fun q h1 h2 => hq q (by (try dsimp only at h1 h2); omega))
  have hsz := hz
  have hn_2 : va_at g.1 vwCl (o + 2, .inl (g.2 0, 8, xw_r (fun _ => none))) H1 := hn_2
  refine xb_putF hx hb hts xw_in_X t_X t_X_ok n_X hown hK (ci := xi_X) rfl 0 (by decide) (hts _ lk_X_16) rfl rfl hin rfl hat rfl rfl (Nat.le_of_ble_eq_true rfl) d_X_init_24 (fun H lc hlc hat hz hq => ?_)
  have hat : va_at g.1 vwCl (o, .inr (xi_X, [.ref (o + 2), .null, .null, .int 0, .int 0, .null])) H := hat
  have hsz := hz.trans hsz
  have hS := xw_Sput hS hz hq hlc (by (try dsimp only); omega)
  have hz0 := xn_1 hz0 (fun q h1 h2 => hq q (by (try dsimp only at h1 h2); omega))
  have hn_2 := xn_1 hn_2 (fun q h1 h2 => hq q (by (try dsimp only at h1 h2); omega))
  refine lv_iconst (v := 0) hx hb d_X_init_27 (by decide) ?_
  refine lv_istore_n (lv' := [(2, .int 0), (1, .ref (o + 1)), (0, .ref o)]) hx hb d_X_init_28 rfl hl (by decide) rfl (fun ls hl => ?_)
  have loop0 : ∀ (n i : Nat) (f : Nat → Option Nat) (H : Heap) (locs : List Loc) (cells slots : Nat) (ls : Array Slot), i + n = 8 → va_at g.1 vwCl (o, .inr (xi_X, [.ref (o + 2), .null, .null, .int 0, .int 0, .null])) H → va_at g.1 vwCl (o + 1, .inr (xi_Z, xw_zF (0, -1, -1, 0, -1, -1))) H → va_at g.1 vwCl (o + 2, .inl (g.2 0, 8, xw_r f)) H → (∀ j, j < i → f j = some (o + 3 + 4 * j)) → (∀ j, j < i → xn_A g (o + 3 + 4 * j) H) → H.size = o + 3 + 4 * i → va_S (fun q => o ≤ q) s.heap H locs → cells = 2 + 4 * i → slots = 14 + 19 * i → lv_has ls 3 [(0, .ref o), (1, .ref (o + 1)), (2, .int (nI i))] → W p l e R s m [.ref o].toArray below meth c H locs cells slots (MQ below (xb_V (fun t => t.heap.size = o + 56 ∧ xn_X g o t.heap) (fun q => o ≤ q)) [.ref o].toArray s 55 303 (fun q => o ≤ q)) (F0 m 29 ls []) := by
    intro n
    induction n with
    | zero =>
      intro i f H locs cells slots ls hi hat hz0 harr0 hf0 hA0 hsz hS hc hs hl
      obtain rfl : i = 8 := by omega
      have hsz : H.size = o + 35 := by omega
      have hFx := hA0
      have hA0 := xn_arr (f' := (fun i => some (o + 3 + 4 * i))) harr0 hf0
      have hFA := hFx
      refine lv_iload_n hx hb d_X_init_29 rfl (lv_at hl 2 rfl) ?_
      refine lv_bipush (v := 8) hx hb d_X_init_30 (by decide) ?_
      refine lv_icmp_ge (tgt := 55) hx hb d_X_init_32 (by decide) (fun c_3 => ?_) (fun c_3 => absurd (nI_le (Nat.le_refl 8) (by decide)) c_3)
      refine lv_aload_n hx hb d_X_init_55 rfl (lv_at hl 0 rfl) ?_
      refine lv_bipush (v := 6) hx hb d_X_init_56 (by decide) ?_
      refine xb_anew hx hb hown (hts _ cl_X_23) (va_AO.use hO.2.1) hK 1 rfl (by decide) (N' := 6) rfl (by omega) (by omega) (by omega) d_X_init_58 (fun H1 hn_4 hz hq => ?_)
      rw [hsz] at hn_4 hz hq ⊢
      have hS := xw_Snew9 hS hsz hz hq
      have hat := xn_1 hat (fun q h1 h2 => hq q (by (try dsimp only at h1 h2); omega))
      have hz0 := xn_1 hz0 (fun q h1 h2 => hq q (by (try dsimp only at h1 h2); omega))
      have hA0 := xn_1 hA0 (fun q h1 h2 => hq q (by (try dsimp only at h1 h2); omega))
      have hFA := fun j (hj : j < 8) => xn_A.k (hFA j hj) (fun q h1 h2 => hq q (by (try dsimp only at h1 h2); omega))
      have hsz := hz
      have hn_4 : va_at g.1 vwCl (o + 35, .inl (g.2 1, 6, xw_r (fun _ => none))) H1 := hn_4
      refine xb_putF hx hb hts xw_in_X t_X t_X_ok n_X hown hK (ci := xi_X) rfl 1 (by decide) (hts _ lk_X_25) rfl rfl hin rfl hat rfl rfl (Nat.le_of_ble_eq_true rfl) d_X_init_61 (fun H lc hlc hat hz hq => ?_)
      have hat : va_at g.1 vwCl (o, .inr (xi_X, [.ref (o + 2), .ref (o + 35), .null, .int 0, .int 0, .null])) H := hat
      have hsz := hz.trans hsz
      have hS := xw_Sput hS hz hq hlc (by (try dsimp only); omega)
      have hz0 := xn_1 hz0 (fun q h1 h2 => hq q (by (try dsimp only at h1 h2); omega))
      have hA0 := xn_1 hA0 (fun q h1 h2 => hq q (by (try dsimp only at h1 h2); omega))
      have hFA := fun j (hj : j < 8) => xn_A.k (hFA j hj) (fun q h1 h2 => hq q (by (try dsimp only at h1 h2); omega))
      have hn_4 := xn_1 hn_4 (fun q h1 h2 => hq q (by (try dsimp only at h1 h2); omega))
      refine lv_iconst (v := 0) hx hb d_X_init_64 (by decide) ?_
      refine lv_istore_n (lv' := [(2, .int 0), (0, .ref o), (1, .ref (o + 1))]) hx hb d_X_init_65 rfl hl (by decide) rfl (fun ls hl => ?_)
      have loop1 : ∀ (n i : Nat) (f : Nat → Option Nat) (H : Heap) (locs : List Loc) (cells slots : Nat) (ls : Array Slot), i + n = 6 → va_at g.1 vwCl (o, .inr (xi_X, [.ref (o + 2), .ref (o + 35), .null, .int 0, .int 0, .null])) H → va_at g.1 vwCl (o + 2, .inl (g.2 0, 8, xw_r (fun i => some (o + 3 + 4 * i)))) H → (∀ j, j < 8 → xn_A g (o + 3 + 4 * j) H) → va_at g.1 vwCl (o + 1, .inr (xi_Z, xw_zF (0, -1, -1, 0, -1, -1))) H → va_at g.1 vwCl (o + 35, .inl (g.2 1, 6, xw_r f)) H → (∀ j, j < i → f j = some (o + 36 + 3 * j)) → (∀ j, j < i → xn_C g (o + 36 + 3 * j) H) → H.size = o + 36 + 3 * i → va_S (fun q => o ≤ q) s.heap H locs → cells = 35 + 3 * i → slots = 172 + 20 * i → lv_has ls 3 [(0, .ref o), (1, .ref (o + 1)), (2, .int (nI i))] → W p l e R s m [.ref o].toArray below meth c H locs cells slots (MQ below (xb_V (fun t => t.heap.size = o + 56 ∧ xn_X g o t.heap) (fun q => o ≤ q)) [.ref o].toArray s 55 303 (fun q => o ≤ q)) (F0 m 66 ls []) := by
        intro n
        induction n with
        | zero =>
          intro i f H locs cells slots ls hi hat hA0 hFA hz0 harr1 hf1 hA1 hsz hS hc hs hl
          obtain rfl : i = 6 := by omega
          have hsz : H.size = o + 54 := by omega
          have hFx := hA1
          have hC0 := xn_arr (f' := (fun i => some (o + 36 + 3 * i))) harr1 hf1
          have hFC := hFx
          refine lv_iload_n hx hb d_X_init_66 rfl (lv_at hl 2 rfl) ?_
          refine lv_bipush (v := 6) hx hb d_X_init_67 (by decide) ?_
          refine lv_icmp_ge (tgt := 92) hx hb d_X_init_69 (by decide) (fun c_5 => ?_) (fun c_5 => absurd (nI_le (Nat.le_refl 6) (by decide)) c_5)
          refine lv_aload_n hx hb d_X_init_92 rfl (lv_at hl 0 rfl) ?_
          refine xb_new hx hb hts xw_in_Q t_Q t_Q_ok hown (hts _ cl_X_30) (hts _ is_Q) (hts _ ii_Q) hK (ci := xi_Q) rfl (fs := [.null, .int 0, .int 0]) (fun j hj => by rcases (show j = 0 ∨ j = 1 ∨ j = 2 by omega) with rfl | rfl | rfl <;> rfl) (by omega) (by omega) d_X_init_93 (fun H1 hn_6 hz hq => ?_)
          rw [hsz] at hn_6 hz hq ⊢
          have hS := xw_Snew9 hS hsz hz hq
          have hat := xn_1 hat (fun q h1 h2 => hq q (by (try dsimp only at h1 h2); omega))
          have hz0 := xn_1 hz0 (fun q h1 h2 => hq q (by (try dsimp only at h1 h2); omega))
          have hA0 := xn_1 hA0 (fun q h1 h2 => hq q (by (try dsimp only at h1 h2); omega))
          have hFA := fun j (hj : j < 8) => xn_A.k (hFA j hj) (fun q h1 h2 => hq q (by (try dsimp only at h1 h2); omega))
          have hC0 := xn_1 hC0 (fun q h1 h2 => hq q (by (try dsimp only at h1 h2); omega))
          have hFC := fun j (hj : j < 6) => xn_C.k (hFC j hj) (fun q h1 h2 => hq q (by (try dsimp only at h1 h2); omega))
          have hsz := hz
          have hn_6 : va_at g.1 vwCl (o + 54, .inr (xi_Q, [.null, .int 0, .int 0])) H1 := hn_6
          refine lv_dup hx hb d_X_init_96 rfl ?_
          refine lv_bipush (v := 8) hx hb d_X_init_97 (by decide) ?_
          refine lv_aload_n hx hb d_X_init_99 rfl (lv_at hl 1 rfl) ?_
          refine xk_N (rest := [.ref (o + 54), .ref o]) (c_Q_init l g (o + 54) (o + 1) (xw_zF (0, -1, -1, 0, -1, -1)) 8 (by decide) (by omega)) cd_Q_init ii_Q ml_X_32 im_Q_init rfl ci_Q hC hK hO hS hsz ⟨hn_6, hz0⟩ (fun q hq => by (try dsimp only at hq); (try dsimp only); omega) (by omega) (by rw [hRl]; exact Nat.le_of_ble_eq_true rfl) (by omega) (by omega) hl.1 rfl (Nat.le_of_ble_eq_true rfl) d_X_init_100 (fun H locs hpost hq hS => ?_)
          have hat := xn_1 hat (fun q h1 h2 => hq q (by (try dsimp only at h1 h2); omega) (by (try dsimp only at h1 h2); (try dsimp only); omega))
          have hz0 := xn_1 hz0 (fun q h1 h2 => hq q (by (try dsimp only at h1 h2); omega) (by (try dsimp only at h1 h2); (try dsimp only); omega))
          have hA0 := xn_1 hA0 (fun q h1 h2 => hq q (by (try dsimp only at h1 h2); omega) (by (try dsimp only at h1 h2); (try dsimp only); omega))
          have hFA := fun j (hj : j < 8) => xn_A.k (hFA j hj) (fun q h1 h2 => hq q (by (try dsimp only at h1 h2); omega) (by (try dsimp only at h1 h2); (try dsimp only); omega))
          have hC0 := xn_1 hC0 (fun q h1 h2 => hq q (by (try dsimp only at h1 h2); omega) (by (try dsimp only at h1 h2); (try dsimp only); omega))
          have hFC := fun j (hj : j < 6) => xn_C.k (hFC j hj) (fun q h1 h2 => hq q (by (try dsimp only at h1 h2); omega) (by (try dsimp only at h1 h2); (try dsimp only); omega))
          have hsz := hpost.1
          have hn_6 := hpost.2
          have hsz : H.size = o + 56 := by omega
          refine xb_putF hx hb hts xw_in_X t_X t_X_ok n_X hown hK (ci := xi_X) rfl 2 (by decide) (hts _ lk_X_35) rfl rfl hin rfl hat rfl rfl (Nat.le_of_ble_eq_true rfl) d_X_init_103 (fun H lc hlc hat hz hq => ?_)
          have hat : va_at g.1 vwCl (o, .inr (xi_X, [.ref (o + 2), .ref (o + 35), .ref (o + 54), .int 0, .int 0, .null])) H := hat
          have hsz := hz.trans hsz
          have hS := xw_Sput hS hz hq hlc (by (try dsimp only); omega)
          have hz0 := xn_1 hz0 (fun q h1 h2 => hq q (by (try dsimp only at h1 h2); omega))
          have hA0 := xn_1 hA0 (fun q h1 h2 => hq q (by (try dsimp only at h1 h2); omega))
          have hFA := fun j (hj : j < 8) => xn_A.k (hFA j hj) (fun q h1 h2 => hq q (by (try dsimp only at h1 h2); omega))
          have hC0 := xn_1 hC0 (fun q h1 h2 => hq q (by (try dsimp only at h1 h2); omega))
          have hFC := fun j (hj : j < 6) => xn_C.k (hFC j hj) (fun q h1 h2 => hq q (by (try dsimp only at h1 h2); omega))
          have hn_6 := xn_Q.k hn_6 (fun q h1 h2 => hq q (by (try dsimp only at h1 h2); omega))
          refine lv_aload_n hx hb d_X_init_106 rfl (lv_at hl 0 rfl) ?_
          refine lv_iconst (v := 1) hx hb d_X_init_107 (by decide) ?_
          refine xb_put hx hb hts xw_in_X t_X t_X_ok n_X hown hK (ci := xi_X) rfl 3 (by decide) (hts _ lk_X_39) rfl rfl hat rfl rfl (Nat.le_of_ble_eq_true rfl) d_X_init_108 (fun H lc hlc hat hz hq => ?_)
          have hat : va_at g.1 vwCl (o, .inr (xi_X, [.ref (o + 2), .ref (o + 35), .ref (o + 54), .int 1, .int 0, .null])) H := hat
          have hsz := hz.trans hsz
          have hS := xw_Sput hS hz hq hlc (by (try dsimp only); omega)
          have hz0 := xn_1 hz0 (fun q h1 h2 => hq q (by (try dsimp only at h1 h2); omega))
          have hA0 := xn_1 hA0 (fun q h1 h2 => hq q (by (try dsimp only at h1 h2); omega))
          have hFA := fun j (hj : j < 8) => xn_A.k (hFA j hj) (fun q h1 h2 => hq q (by (try dsimp only at h1 h2); omega))
          have hC0 := xn_1 hC0 (fun q h1 h2 => hq q (by (try dsimp only at h1 h2); omega))
          have hFC := fun j (hj : j < 6) => xn_C.k (hFC j hj) (fun q h1 h2 => hq q (by (try dsimp only at h1 h2); omega))
          have hn_6 := xn_Q.k hn_6 (fun q h1 h2 => hq q (by (try dsimp only at h1 h2); omega))
          refine lv_aload_n hx hb d_X_init_111 rfl (lv_at hl 0 rfl) ?_
          refine lv_sipush (v := 4242) hx hb d_X_init_112 (by decide) ?_
          refine xb_put hx hb hts xw_in_X t_X t_X_ok n_X hown hK (ci := xi_X) rfl 4 (by decide) (hts _ lk_X_43) rfl rfl hat rfl rfl (Nat.le_of_ble_eq_true rfl) d_X_init_115 (fun H lc hlc hat hz hq => ?_)
          have hat : va_at g.1 vwCl (o, .inr (xi_X, [.ref (o + 2), .ref (o + 35), .ref (o + 54), .int 1, .int 4242, .null])) H := hat
          have hsz := hz.trans hsz
          have hS := xw_Sput hS hz hq hlc (by (try dsimp only); omega)
          have hz0 := xn_1 hz0 (fun q h1 h2 => hq q (by (try dsimp only at h1 h2); omega))
          have hA0 := xn_1 hA0 (fun q h1 h2 => hq q (by (try dsimp only at h1 h2); omega))
          have hFA := fun j (hj : j < 8) => xn_A.k (hFA j hj) (fun q h1 h2 => hq q (by (try dsimp only at h1 h2); omega))
          have hC0 := xn_1 hC0 (fun q h1 h2 => hq q (by (try dsimp only at h1 h2); omega))
          have hFC := fun j (hj : j < 6) => xn_C.k (hFC j hj) (fun q h1 h2 => hq q (by (try dsimp only at h1 h2); omega))
          have hn_6 := xn_Q.k hn_6 (fun q h1 h2 => hq q (by (try dsimp only at h1 h2); omega))
          refine lv_aload_n hx hb d_X_init_118 rfl (lv_at hl 0 rfl) ?_
          refine lv_null hx hb d_X_init_119 ?_
          refine xb_put hx hb hts xw_in_X t_X t_X_ok n_X hown hK (ci := xi_X) rfl 5 (by decide) (hts _ lk_X_47) rfl rfl hat rfl rfl (Nat.le_of_ble_eq_true rfl) d_X_init_120 (fun H lc hlc hat hz hq => ?_)
          have hat : va_at g.1 vwCl (o, .inr (xi_X, [.ref (o + 2), .ref (o + 35), .ref (o + 54), .int 1, .int 4242, .null])) H := hat
          have hsz := hz.trans hsz
          have hS := xw_Sput hS hz hq hlc (by (try dsimp only); omega)
          have hz0 := xn_1 hz0 (fun q h1 h2 => hq q (by (try dsimp only at h1 h2); omega))
          have hA0 := xn_1 hA0 (fun q h1 h2 => hq q (by (try dsimp only at h1 h2); omega))
          have hFA := fun j (hj : j < 8) => xn_A.k (hFA j hj) (fun q h1 h2 => hq q (by (try dsimp only at h1 h2); omega))
          have hC0 := xn_1 hC0 (fun q h1 h2 => hq q (by (try dsimp only at h1 h2); omega))
          have hFC := fun j (hj : j < 6) => xn_C.k (hFC j hj) (fun q h1 h2 => hq q (by (try dsimp only at h1 h2); omega))
          have hn_6 := xn_Q.k hn_6 (fun q h1 h2 => hq q (by (try dsimp only at h1 h2); omega))
          exact xr_N (Post := fun H => H.size = o + 56 ∧ xn_X g o H) hC hS (by omega) (by omega) ⟨hsz, hat, hA0, hC0, hFA, hFC, hn_6⟩ d_X_init_123
        | succ n ih =>
          intro i f H locs cells slots ls hi hat hA0 hFA hz0 harr1 hf1 hA1 hsz hS hc hs hl
          refine lv_iload_n hx hb d_X_init_66 rfl (lv_at hl 2 rfl) ?_
          refine lv_bipush (v := 6) hx hb d_X_init_67 (by decide) ?_
          refine lv_icmp_ge (tgt := 92) hx hb d_X_init_69 (by decide) (fun c_7 => absurd c_7 (nI_ge (show i < 6 by omega) (by decide))) (fun c_7 => ?_)
          refine lv_aload_n hx hb d_X_init_72 rfl (lv_at hl 0 rfl) ?_
          refine xb_get hx hb hts xw_in_X hown hK (ci := xi_X) rfl 1 (by decide) (hts _ lk_X_25) rfl hat rfl d_X_init_73 ?_
          refine lv_iload_n hx hb d_X_init_76 rfl (lv_at hl 2 rfl) ?_
          refine xb_new hx hb hts xw_in_C t_C t_C_ok hown (hts _ cl_X_23) (hts _ is_C) (hts _ ii_C) hK (ci := xi_C) rfl (fs := [.null, .int 0, .int 0, .int 0, .int 0, .int 0, .int 0]) (fun j hj => by rcases (show j = 0 ∨ j = 1 ∨ j = 2 ∨ j = 3 ∨ j = 4 ∨ j = 5 ∨ j = 6 by omega) with rfl | rfl | rfl | rfl | rfl | rfl | rfl <;> rfl) (by omega) (by omega) d_X_init_77 (fun H1 hn_8 hz hq => ?_)
          rw [hsz] at hn_8 hz hq ⊢
          have hS := xw_Snew9 hS hsz hz hq
          have hat := xn_1 hat (fun q h1 h2 => hq q (by (try dsimp only at h1 h2); omega))
          have hz0 := xn_1 hz0 (fun q h1 h2 => hq q (by (try dsimp only at h1 h2); omega))
          have hA0 := xn_1 hA0 (fun q h1 h2 => hq q (by (try dsimp only at h1 h2); omega))
          have hFA := fun j (hj : j < 8) => xn_A.k (hFA j hj) (fun q h1 h2 => hq q (by (try dsimp only at h1 h2); omega))
          have harr1 := xn_1 harr1 (fun q h1 h2 => hq q (by (try dsimp only at h1 h2); omega))
          have hA1 := fun j (hj : j < i) => xn_C.k (hA1 j hj) (fun q h1 h2 => hq q (by (try dsimp only at h1 h2); omega))
          have hsz := hz
          have hn_8 : va_at g.1 vwCl (o + 36 + 3 * i, .inr (xi_C, [.null, .int 0, .int 0, .int 0, .int 0, .int 0, .int 0])) H1 := hn_8
          refine lv_dup hx hb d_X_init_80 rfl ?_
          refine lv_aload_n hx hb d_X_init_81 rfl (lv_at hl 1 rfl) ?_
          refine xk_N (rest := [.ref (o + 36 + 3 * i), .int (nI i), .ref (o + 35)]) (c_C_init l g (o + 36 + 3 * i) (o + 1) (xw_zF (0, -1, -1, 0, -1, -1)) (by omega)) cd_C_init ii_C ml_X_29 im_C_init rfl ci_C hC hK hO hS hsz ⟨hn_8, hz0⟩ (fun q hq => by (try dsimp only at hq); (try dsimp only); omega) (by omega) (by rw [hRl]; exact Nat.le_of_ble_eq_true rfl) (by omega) (by omega) hl.1 rfl (Nat.le_of_ble_eq_true rfl) d_X_init_82 (fun H locs hpost hq hS => ?_)
          have hat := xn_1 hat (fun q h1 h2 => hq q (by (try dsimp only at h1 h2); omega) (by (try dsimp only at h1 h2); (try dsimp only); omega))
          have hz0 := xn_1 hz0 (fun q h1 h2 => hq q (by (try dsimp only at h1 h2); omega) (by (try dsimp only at h1 h2); (try dsimp only); omega))
          have hA0 := xn_1 hA0 (fun q h1 h2 => hq q (by (try dsimp only at h1 h2); omega) (by (try dsimp only at h1 h2); (try dsimp only); omega))
          have hFA := fun j (hj : j < 8) => xn_A.k (hFA j hj) (fun q h1 h2 => hq q (by (try dsimp only at h1 h2); omega) (by (try dsimp only at h1 h2); (try dsimp only); omega))
          have harr1 := xn_1 harr1 (fun q h1 h2 => hq q (by (try dsimp only at h1 h2); omega) (by (try dsimp only at h1 h2); (try dsimp only); omega))
          have hA1 := fun j (hj : j < i) => xn_C.k (hA1 j hj) (fun q h1 h2 => hq q (by (try dsimp only at h1 h2); omega) (by (try dsimp only at h1 h2); (try dsimp only); omega))
          have hsz := hpost.1
          have hn_8 := hpost.2
          have hsz : H.size = o + 36 + 3 * i + 1 + 2 := by omega
          refine xb_aast hx hb hK 1 1 rfl rfl harr1 hn_8.1 (vp_in_nI (show i < 6 by omega) (by decide)) d_X_init_85 (fun H lc hlc harr1 hz hq => ?_)
          have hsz := hz.trans hsz
          have hS := xw_Sput hS hz hq hlc (by (try dsimp only); omega)
          have hat := xn_1 hat (fun q h1 h2 => hq q (by (try dsimp only at h1 h2); omega))
          have hz0 := xn_1 hz0 (fun q h1 h2 => hq q (by (try dsimp only at h1 h2); omega))
          have hA0 := xn_1 hA0 (fun q h1 h2 => hq q (by (try dsimp only at h1 h2); omega))
          have hFA := fun j (hj : j < 8) => xn_A.k (hFA j hj) (fun q h1 h2 => hq q (by (try dsimp only at h1 h2); omega))
          have hA1 := fun j (hj : j < i) => xn_C.k (hA1 j hj) (fun q h1 h2 => hq q (by (try dsimp only at h1 h2); omega))
          have hn_8 := xn_C.k hn_8 (fun q h1 h2 => hq q (by (try dsimp only at h1 h2); omega))
          have hf1 := fun j (hj : j < i + 1) => xn_up (f := f) (j := j) hf1 hj (nI_clamp (show i < 2 ^ 31 by omega)) rfl
          have hA1 := fun j (hj : j < i + 1) => (Nat.lt_or_eq_of_le (Nat.le_of_lt_succ hj)).elim (hA1 j) (fun e => by rw [e]; exact hn_8)
          refine lv_iinc (v := nI (i + 1)) (lv' := [(2, .int (nI (i + 1))), (0, .ref o), (1, .ref (o + 1))]) hx hb d_X_init_86 hl (k := 2) rfl (nI_1 _) (by decide) rfl (fun ls hl => ?_)
          refine lv_goto (tgt := 66) hx hb d_X_init_89 (by decide) ?_
          exact ih (i + 1) _ _ _ _ _ ls (by omega) hat hA0 hFA hz0 harr1 hf1 hA1 (by omega) hS (by omega) (by omega) (lv_sub hl [1, 2, 0] rfl)
      exact loop1 6 0 _ _ _ _ _ ls (by omega) hat hA0 hFA hz0 hn_4 (fun j hj => absurd hj (Nat.not_lt_zero j)) (fun j hj => absurd hj (Nat.not_lt_zero j)) (by omega) hS (by omega) (by omega) (lv_sub hl [1, 2, 0] rfl)
    | succ n ih =>
      intro i f H locs cells slots ls hi hat hz0 harr0 hf0 hA0 hsz hS hc hs hl
      refine lv_iload_n hx hb d_X_init_29 rfl (lv_at hl 2 rfl) ?_
      refine lv_bipush (v := 8) hx hb d_X_init_30 (by decide) ?_
      refine lv_icmp_ge (tgt := 55) hx hb d_X_init_32 (by decide) (fun c_9 => absurd c_9 (nI_ge (show i < 8 by omega) (by decide))) (fun c_9 => ?_)
      refine lv_aload_n hx hb d_X_init_35 rfl (lv_at hl 0 rfl) ?_
      refine xb_get hx hb hts xw_in_X hown hK (ci := xi_X) rfl 0 (by decide) (hts _ lk_X_16) rfl hat rfl d_X_init_36 ?_
      refine lv_iload_n hx hb d_X_init_39 rfl (lv_at hl 2 rfl) ?_
      refine xb_new hx hb hts xw_in_A t_A t_A_ok hown (hts _ cl_X_14) (hts _ is_A) (hts _ ii_A) hK (ci := xi_A) rfl (fs := [.null, .null, .int 0, .int 0]) (fun j hj => by rcases (show j = 0 ∨ j = 1 ∨ j = 2 ∨ j = 3 by omega) with rfl | rfl | rfl | rfl <;> rfl) (by omega) (by omega) d_X_init_40 (fun H1 hn_10 hz hq => ?_)
      rw [hsz] at hn_10 hz hq ⊢
      have hS := xw_Snew9 hS hsz hz hq
      have hat := xn_1 hat (fun q h1 h2 => hq q (by (try dsimp only at h1 h2); omega))
      have hz0 := xn_1 hz0 (fun q h1 h2 => hq q (by (try dsimp only at h1 h2); omega))
      have harr0 := xn_1 harr0 (fun q h1 h2 => hq q (by (try dsimp only at h1 h2); omega))
      have hA0 := fun j (hj : j < i) => xn_A.k (hA0 j hj) (fun q h1 h2 => hq q (by (try dsimp only at h1 h2); omega))
      have hsz := hz
      have hn_10 : va_at g.1 vwCl (o + 3 + 4 * i, .inr (xi_A, [.null, .null, .int 0, .int 0])) H1 := hn_10
      refine lv_dup hx hb d_X_init_43 rfl ?_
      refine lv_aload_n hx hb d_X_init_44 rfl (lv_at hl 1 rfl) ?_
      refine xk_N (rest := [.ref (o + 3 + 4 * i), .int (nI i), .ref (o + 2)]) (c_A_init l g (o + 3 + 4 * i) (o + 1) (xw_zF (0, -1, -1, 0, -1, -1)) (by omega)) cd_A_init ii_A ml_X_20 im_A_init rfl ci_A hC hK hO hS hsz ⟨hn_10, hz0⟩ (fun q hq => by (try dsimp only at hq); (try dsimp only); omega) (by omega) (by rw [hRl]; exact Nat.le_of_ble_eq_true rfl) (by omega) (by omega) hl.1 rfl (Nat.le_of_ble_eq_true rfl) d_X_init_45 (fun H locs hpost hq hS => ?_)
      have hat := xn_1 hat (fun q h1 h2 => hq q (by (try dsimp only at h1 h2); omega) (by (try dsimp only at h1 h2); (try dsimp only); omega))
      have hz0 := xn_1 hz0 (fun q h1 h2 => hq q (by (try dsimp only at h1 h2); omega) (by (try dsimp only at h1 h2); (try dsimp only); omega))
      have harr0 := xn_1 harr0 (fun q h1 h2 => hq q (by (try dsimp only at h1 h2); omega) (by (try dsimp only at h1 h2); (try dsimp only); omega))
      have hA0 := fun j (hj : j < i) => xn_A.k (hA0 j hj) (fun q h1 h2 => hq q (by (try dsimp only at h1 h2); omega) (by (try dsimp only at h1 h2); (try dsimp only); omega))
      have hsz := hpost.1
      have hn_10 := hpost.2
      have hsz : H.size = o + 3 + 4 * i + 1 + 3 := by omega
      refine xb_aast hx hb hK 0 0 rfl rfl harr0 hn_10.1 (vp_in_nI (show i < 8 by omega) (by decide)) d_X_init_48 (fun H lc hlc harr0 hz hq => ?_)
      have hsz := hz.trans hsz
      have hS := xw_Sput hS hz hq hlc (by (try dsimp only); omega)
      have hat := xn_1 hat (fun q h1 h2 => hq q (by (try dsimp only at h1 h2); omega))
      have hz0 := xn_1 hz0 (fun q h1 h2 => hq q (by (try dsimp only at h1 h2); omega))
      have hA0 := fun j (hj : j < i) => xn_A.k (hA0 j hj) (fun q h1 h2 => hq q (by (try dsimp only at h1 h2); omega))
      have hn_10 := xn_A.k hn_10 (fun q h1 h2 => hq q (by (try dsimp only at h1 h2); omega))
      have hf0 := fun j (hj : j < i + 1) => xn_up (f := f) (j := j) hf0 hj (nI_clamp (show i < 2 ^ 31 by omega)) rfl
      have hA0 := fun j (hj : j < i + 1) => (Nat.lt_or_eq_of_le (Nat.le_of_lt_succ hj)).elim (hA0 j) (fun e => by rw [e]; exact hn_10)
      refine lv_iinc (v := nI (i + 1)) (lv' := [(2, .int (nI (i + 1))), (0, .ref o), (1, .ref (o + 1))]) hx hb d_X_init_49 hl (k := 2) rfl (nI_1 _) (by decide) rfl (fun ls hl => ?_)
      refine lv_goto (tgt := 29) hx hb d_X_init_52 (by decide) ?_
      exact ih (i + 1) _ _ _ _ _ ls (by omega) hat hz0 harr0 hf0 hA0 (by omega) hS (by omega) (by omega) (lv_sub hl [1, 2, 0] rfl)
  exact loop0 8 0 _ _ _ _ _ ls (by omega) hat hz0 hn_2 (fun j hj => absurd hj (Nat.not_lt_zero j)) (fun j hj => absurd hj (Nat.not_lt_zero j)) (by omega) hS (by omega) (by omega) (lv_sub hl [2, 1, 0] rfl)
