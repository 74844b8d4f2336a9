/-! New stanzas. -/
abbrev xw_z0 : List Value := [.int 0, .int 0, .int 0, .int 0, .int 0, .int 0]
set_option maxHeartbeats 4000000 in
set_option maxRecDepth 100000 in
theorem c_Z_init (l : Launch) (g : xw_G) (a sz : Nat) (k f r v t u : Int32) : Met l y_Z_init (Cond.code y_Z_init b_Z_init 7 none :: xw_ws) { frames := 1, cells := 0, slots := 0, locals := 20 } (va_Pc [.ref a, .int k, .int f, .int r, .int v, .int t, .int u] (fun U => U.heap.size = sz ∧ va_at g.1 vwCl (a, .inr (xi_Z, xw_z0)) U.heap ∧ xw_K g U)) (xb_V (fun T => T.heap.size = sz ∧ va_at g.1 vwCl (a, .inr (xi_Z, xw_zF (k, f, r, v, t, u))) T.heap) (fun q => q = a)) 0 0 (fun q => q = a) := by
  refine Met.ofW (cc := b_Z_init) (maxL := 7) (ret := none) (by decide) rfl ?_
  intro p e s m args below meth c s₁ B0 hml hv
  obtain ⟨rfl, hsz, hat, hK⟩ := hv
  have hx := B0.exec
  have hb := B0.bytes
  have hr := B0.returns
  have hlk := B0.notSynchronized
  have hts0 := atoms_spec (ws := Cond.code y_Z_init b_Z_init 7 none :: xw_ws) B0.pre
  have hts : ∀ w ∈ xw_ws, w.before _ s = true := fun w h => hts0 w (List.mem_cons_of_mem _ h)
  have hown : s.vm.findClass R_Z = some m.cls := findClass_of_methodNamed B0.named
  have hin : meth.name = "<init>" := (name_of_methodNamed B0.named B0.method).1
  have hS : va_S (fun q => q = a) s.heap s.heap [] := va_S.rf
  have hl := lv_entry ([.ref a, .int k, .int f, .int r, .int v, .int t, .int u]) (n := 7) (Nat.le_of_ble_eq_true rfl)
  rw [lg_entry_eq]
  generalize (lg_sl ([.ref a, .int k, .int f, .int r, .int v, .int t, .int u]) ++ List.replicate (7 - (lg_sl ([.ref a, .int k, .int f, .int r, .int v, .int t, .int u])).length) Slot.unset).toArray = ls at hl ⊢
  have hl : lv_has ls 7 [(0, .ref a), (1, .int k), (2, .int f), (3, .int r), (4, .int v), (5, .int t), (6, .int u)] := hl
  refine lv_aload_n hx hb d_Z_init_0 rfl (lv_at hl 0 rfl) ?_
  refine W.objInit hx hb hown (hts _ ml_Z_1) (hts _ im_obj) (hts _ cd_obj) rfl (by rw [hml]; exact hl.1) rfl d_Z_init_1 (Nat.le_of_ble_eq_true rfl) (Nat.le_of_ble_eq_true rfl) ?_
  refine W.eq (g2 := F0 m 4 ls []) rfl ?_
  refine lv_aload_n hx hb d_Z_init_4 rfl (lv_at hl 0 rfl) ?_
  refine lv_iload_n hx hb d_Z_init_5 rfl (lv_at hl 1 rfl) ?_
  refine xb_putF hx hb hts xw_in_Z t_Z t_Z_ok n_Z hown hK (ci := xi_Z) rfl 0 (by decide) (hts _ lk_Z_7) rfl rfl hin rfl hat rfl rfl (Nat.le_of_ble_eq_true rfl) d_Z_init_6 (fun H lc hlc hat hz hq => ?_)
  have hat : va_at g.1 vwCl (a, .inr (xi_Z, [.int k, .int 0, .int 0, .int 0, .int 0, .int 0])) H := hat
  have hS := xw_Sput hS hz hq hlc rfl
  have hsz := hz.trans hsz
  refine lv_aload_n hx hb d_Z_init_9 rfl (lv_at hl 0 rfl) ?_
  refine lv_iload_n hx hb d_Z_init_10 rfl (lv_at hl 2 rfl) ?_
  refine xb_putF hx hb hts xw_in_Z t_Z t_Z_ok n_Z hown hK (ci := xi_Z) rfl 1 (by decide) (hts _ lk_Z_13) rfl rfl hin rfl hat rfl rfl (Nat.le_of_ble_eq_true rfl) d_Z_init_11 (fun H lc hlc hat hz hq => ?_)
  have hat : va_at g.1 vwCl (a, .inr (xi_Z, [.int k, .int f, .int 0, .int 0, .int 0, .int 0])) H := hat
  have hS := xw_Sput hS hz hq hlc rfl
  have hsz := hz.trans hsz
  refine lv_aload_n hx hb d_Z_init_14 rfl (lv_at hl 0 rfl) ?_
  refine lv_iload_n hx hb d_Z_init_15 rfl (lv_at hl 3 rfl) ?_
  refine xb_putF hx hb hts xw_in_Z t_Z t_Z_ok n_Z hown hK (ci := xi_Z) rfl 2 (by decide) (hts _ lk_Z_16) rfl rfl hin rfl hat rfl rfl (Nat.le_of_ble_eq_true rfl) d_Z_init_16 (fun H lc hlc hat hz hq => ?_)
  have hat : va_at g.1 vwCl (a, .inr (xi_Z, [.int k, .int f, .int r, .int 0, .int 0, .int 0])) H := hat
  have hS := xw_Sput hS hz hq hlc rfl
  have hsz := hz.trans hsz
  refine lv_aload_n hx hb d_Z_init_19 rfl (lv_at hl 0 rfl) ?_
  refine lv_iload hx hb d_Z_init_20 (lv_at hl 4 rfl) ?_
  refine xb_putF hx hb hts xw_in_Z t_Z t_Z_ok n_Z hown hK (ci := xi_Z) rfl 3 (by decide) (hts _ lk_Z_19) rfl rfl hin rfl hat rfl rfl (Nat.le_of_ble_eq_true rfl) d_Z_init_22 (fun H lc hlc hat hz hq => ?_)
  have hat : va_at g.1 vwCl (a, .inr (xi_Z, [.int k, .int f, .int r, .int v, .int 0, .int 0])) H := hat
  have hS := xw_Sput hS hz hq hlc rfl
  have hsz := hz.trans hsz
  refine lv_aload_n hx hb d_Z_init_25 rfl (lv_at hl 0 rfl) ?_
  refine lv_iload hx hb d_Z_init_26 (lv_at hl 5 rfl) ?_
  refine xb_putF hx hb hts xw_in_Z t_Z t_Z_ok n_Z hown hK (ci := xi_Z) rfl 4 (by decide) (hts _ lk_Z_22) rfl rfl hin rfl hat rfl rfl (Nat.le_of_ble_eq_true rfl) d_Z_init_28 (fun H lc hlc hat hz hq => ?_)
  have hat : va_at g.1 vwCl (a, .inr (xi_Z, [.int k, .int f, .int r, .int v, .int t, .int 0])) H := hat
  have hS := xw_Sput hS hz hq hlc rfl
  have hsz := hz.trans hsz
  refine lv_aload_n hx hb d_Z_init_31 rfl (lv_at hl 0 rfl) ?_
  refine lv_iload hx hb d_Z_init_32 (lv_at hl 6 rfl) ?_
  refine xb_putF hx hb hts xw_in_Z t_Z t_Z_ok n_Z hown hK (ci := xi_Z) rfl 5 (by decide) (hts _ lk_Z_25) rfl rfl hin rfl hat rfl rfl (Nat.le_of_ble_eq_true rfl) d_Z_init_34 (fun H lc hlc hat hz hq => ?_)
  have hat : va_at g.1 vwCl (a, .inr (xi_Z, [.int k, .int f, .int r, .int v, .int t, .int u])) H := hat
  have hS := xw_Sput hS hz hq hlc rfl
  have hsz := hz.trans hsz
  exact W.vret hx hb hr (fun T ht hw => ⟨⟨rfl, by rw [ht]; exact hsz, by show va_at _ _ _ T.heap; rw [ht]; exact hat⟩, hS.F ht⟩) hS.2.2 d_Z_init_37 hlk
section XN
variable {p : Program} {l : Launch} {e : Env} {R : Room} {s : State} {m : MethodId} {args : Array Value} {below : List Frame} {meth : Method} {c : Code} {H H0 : Heap} {locs : List Loc} {cells slots : Nat} {Q : State → Prop}
variable {cc : ByteArray} {pc nL : Nat} {ls : Array Slot} {rest st0 : List Value} {g : xw_G} {B : Nat → Prop} {o lim a : Nat} {σ σ0 : xs_S} {ret0 : Option FieldType} {k f r v t u : Int32}
theorem nw_X_Z (hx : p.tables.exec = Jvm.exec) (hb : c.code = cc) (hts : ∀ w ∈ xw_ws, w.before args s = true) (hown : s.vm.findClass R_X = some m.cls) (hK : xw_K g s) (hX : xw_R g B o σ H) (hS : va_S (xw_A o s.heap.size) s.heap H locs) (hc : cells + 1 ≤ R.cells) (hs : slots + 6 ≤ R.slots) (hdg : decode cc pc = .ok (.new 7, 3))
    (kk : ∀ (a : Nat) (H1 : Heap), va_at g.1 vwCl (a, .inr (xi_Z, xw_z0)) H1 → ¬ B a → s.heap.size ≤ a ∧ a = H.size → xw_R g B o σ H1 → va_S (xw_A o s.heap.size) s.heap H1 locs → xw_F (fun _ => False) H H1 → W p l e R s m args below meth c H1 locs (cells + 1) (slots + 6) Q (F0 m (pc + 3) ls (.ref a :: rest))) : W p l e R s m args below meth c H locs cells slots Q (F0 m pc ls rest) :=
  xb_new hx hb hts xw_in_Z t_Z t_Z_ok hown (hts _ cl_X_7) (hts _ is_Z) (hts _ ii_Z) hK (ci := xi_Z) rfl (fs := xw_z0) (fun j hj => by rcases (show j = 0 ∨ j = 1 ∨ j = 2 ∨ j = 3 ∨ j = 4 ∨ j = 5 by omega) with rfl | rfl | rfl | rfl | rfl | rfl <;> rfl) hc hs hdg (fun H1 hat z oq => kk H.size H1 hat (fun q => Nat.lt_irrefl _ (hX.2.2.2.2.2.2.2.2 _ q)) ⟨hS.1, rfl⟩ (hX.grow (xw_F.new z oq)) (xw_Snew hS z oq) (xw_F.new z oq))
theorem in_X_Z (hC : xh_C p s m args meth c R_X cc nL ret0) (hW : xw_W g B o lim σ0 s) (hX0 : xw_R g B o σ H0) (hX : xw_R g B o σ H) (hS : va_S (xw_A o s.heap.size) s.heap H locs) (hF0 : xw_F (fun _ => False) H0 H) (hn : va_at g.1 vwCl (a, .inr (xi_Z, xw_z0)) H) (hb9 : ¬ B a) (hsz : s.heap.size ≤ a ∧ a = H0.size)
    (hRf : 1 + 1 ≤ R.frames) (hRl : 8 + (7 + 11) + 20 ≤ R.locals) (hRc : cells + 0 ≤ R.cells) (hRs : slots + 0 ≤ R.slots) (hls : ls.size = nL) (hst : st0 = ([.int k, .int f, .int r, .int v, .int t, .int u] : List Value).reverse ++ .ref a :: rest) (hrm : (rest.map fun v => v.category).sum ≤ 8) (hdg : decode cc pc = .ok (.invokespecial 11, 3))
    (kk : ∀ (H1 : Heap) (locs1 : List Loc), xw_Z g B a (k, f, r, v, t, u) H1 → xw_R g B o σ H1 → va_S (xw_A o s.heap.size) s.heap H1 locs1 → xw_F (fun _ => False) H0 H1 → W p l e R s m args below meth c H1 locs1 (cells + 0) (slots + 0) Q (F0 m (pc + 3) ls rest)) : W p l e R s m args below meth c H locs cells slots Q (F0 m pc ls st0) := by
  obtain ⟨hx, hb, hml, -, hown, hts, -⟩ := hC
  have hA : ∀ q : Nat, q = a → xw_A o s.heap.size q := fun q e => Or.inr (by rw [e]; exact hsz.1)
  exact xb_callv (va_runI (As := [.int k, .int f, .int r, .int v, .int t, .int u]) (rest := rest) ⟨hx, hb, hml, hown, hts⟩ (c_Z_init l g a H.size k f r v t u) (cwI 6 hts (xw_good cd_Z_init) rfl rfl rfl (hts _ ii_Z) (hts _ ml_X_11) (hts _ im_Z_init) rfl (by decide +kernel) ⟨hRf, hRl⟩) ⟨fun a9 U g9 mk h => ⟨h.1, h.2.1, h.2.2.1, va_K.moved (u := U) (U := U.calling g9 mk a9) (Vm.Alike.refl U.vm) h.2.2.2⟩, fun U hU hw => ⟨rfl, by rw [hU], by rw [hU]; exact hn, va_K.moved hw.alike hW.2.1⟩⟩ rfl rfl hls hst (lv_room hrm) hdg ⟨hRc, hRs⟩) hS hA hA
    (fun T locs1 _ hB hz hk hS1 => by
      have hF : xw_F (fun _ => False) H0 T.heap := ⟨Nat.le_trans hF0.1 hz, fun q hq _ => (hk q (Nat.lt_of_lt_of_le hq hF0.1) (fun e => by rw [e, hsz.2] at hq; exact Nat.lt_irrefl _ hq)).trans (hF0.2 q hq (fun z => z))⟩
      exact kk T.heap locs1 ⟨hB.2, hb9⟩ (hX0.grow hF) hS1 hF)
end XN
