/-! THE CLAIM OUT OF ONE WALK OF THE LAW'S BODY. Your part is whole_start (and what it stands on); all else here is the same for every law, but numbers. -/
def R_law : String := "XmppPairLaw"
def lw_P (b : Addr) (xs : List Int32) (args : Array Value) (s : State) : Prop := args = #[.ref b] ∧ s.IntsAt b xs ∧ xs.length ≤ 2560 ∧ (Jvm.Cond.and given_1 narrow_1).before args s = true
def lw_Q (_ : Array Value) (s : State) (o : Outcome) (t : State) : Prop := o = .returned (some (.int 1)) ∧ Framed s o t [] 646917 7155354
def lw_Z (below : List Frame) (a : Array Value) (s : State) : State → Prop := fun t => ∃ o, t.status = .running ∧ Ended t below o ∧ lw_Q a s o t
/-- the law's own end, with 1 on the stack, nothing written that was there before, its room as the claim has it -/
theorem lw_ret {p : Program} {l : Launch} {e : Env} {s : State} {m : MethodId} {below : List Frame} {meth : Method} {c : Code} {b : Nat} (hx : p.tables.exec = Jvm.exec) (hb : c.code = code) (hr : meth.sig.returnType = ret) (hlocks : meth.locks = false) {pc : Nat} {H : Heap} {ls : Array Slot} (hdg : decode code pc = .ok (.ireturn, 1)) : W p l e room_1 s m #[Value.ref b] below meth c H [] 646917 7155354 (lw_Z below #[Value.ref b] s) (F0 m pc ls [.int 1]) := by
  intro T hT X
  obtain ⟨fs, hret, hrun, hended, hW, hframe⟩ := X.leave (v := some (.int 1)) (hlocks := hlocks) (fun h => by rw [hr] at h; cases h)
  have hmeth' : T.vm.method? m = some meth := X.method'
  refine ⟨T.setFrames fs, ?_, .returned (some (.int 1)), hrun, hended, rfl, ⟨_, rfl⟩, hW, hframe⟩
  jvm_step X.here [X.here.top, hx, hb, hdg, hmeth', hr, ret, narrow_b1]
  (try refine ⟨rfl, ?_⟩); (try refine ⟨rfl, ?_⟩)
  first | (intro acts; rw [hret _ acts rfl rfl rfl]) | rw [hret _ _ rfl rfl rfl]
  exact Steps.refl _
/-- what holds at the law's entry: the machine, the code, the tables' words (any of lw_tbl by 'hts w (by decide +kernel)'), the script of L ints xs at the cell b, what the Statement gives of the start (any of its parts by flat_of_before) -/
def lw_At (p : Program) (s : State) (m : MethodId) (meth : Method) (c : Code) (b L : Nat) (xs : Nat → Int32) : Prop :=
  p.tables.exec = Jvm.exec ∧ c.code = code ∧ meth.sig.returnType = ret ∧ c.maxLocals = 7 ∧ s.vm.findClass R_law = some m.cls ∧ (∀ w ∈ lw_tbl, w.before #[Value.ref b] s = true) ∧ va_X b L xs s s.heap ∧ b < s.heap.size ∧ meth.locks = false ∧ (Jvm.Cond.and given_1 narrow_1).before #[Value.ref b] s = true
set_option maxHeartbeats 4000000 in
set_option maxRecDepth 100000 in
/-- the law's loop: at its head the class and the reference carry the same state -/
theorem xl_loop {p : Program} {l : Launch} {e : Env} {s : State} {m : MethodId} {below : List Frame} {meth : Method} {c : Code} {g : xw_G} {b L : Nat} {xs : Nat → Int32} (hsl : l.stackTraces = false) (E : xl_E g p s m meth c b L xs) (hL : L ≤ 2560) :
    ∀ (N j : Nat), 5 * j ≤ L → 513 ≤ j + N → ∀ (σ : xs_S) (th rp : Int32) (n : Nat) (t : xu_X) (a : xu_M) (f : Nat → Int64) (H : Heap) (locs : List Loc) (ls : Array Slot), xl_V g s j σ th rp n t a f H locs → lv_has ls 7 (xl_lv b s.heap.size (nI (5 * j))) →
      W p l e room_1 s m #[Value.ref b] below meth c H locs (82 + 66 * j) (1000 + 396 * j) (lw_Z below #[Value.ref b] s) (F0 m 23 ls []) := by
  obtain ⟨hC, hK, hT, hN, hX0, hbl⟩ := id E
  obtain ⟨hx, hb, hml, hr, hown, hts, hlk⟩ := id hC
  have hR : room_1.frames = 12 ∧ room_1.locals = 454 ∧ room_1.cells = 646917 ∧ room_1.slots = 7155354 := ⟨rfl, rfl, rfl, rfl⟩
  intro N
  induction N with
  | zero =>
    intro j h1 h2
    exact absurd h2 (by omega)
  | succ N ih =>
    intro j h1 h2 σ th rp n t a f H locs ls hV hl
    have hS := hV.2.2.2.1
    have kk : 5 * j + 5 ≤ L → xl_kk p l e room_1 s m b below meth c (lw_Z below #[Value.ref b] s) g j := by
      intro hj σ th rp n t a f H locs ls hV hl
      refine lv_iinc (v := nI (5 * (j + 1))) (lv' := [(4, .int (nI (5 * (j + 1)))), (0, .ref b), (1, .ref s.heap.size), (2, .ref (s.heap.size + 56)), (3, .ref (s.heap.size + 81))]) hx hb d_L_law_1141 hl (k := 4) rfl (by rw [Nat.mul_add]; exact xl_nI (k := 5) rfl) (by decide) rfl (fun ls hl => ?_)
      refine lv_goto (tgt := 23) hx hb d_L_law_1144 (by decide) ?_
      exact ih (j + 1) (by omega) (by omega) _ _ _ _ _ _ _ _ _ _ hV (lv_sub hl [1, 2, 3, 4, 0] rfl)
    refine lv_iload hx hb d_L_law_23 (lv_at hl 4 rfl) ?_
    refine lv_aload_n hx hb d_L_law_25 rfl (lv_at hl 0 rfl) ?_
    refine va_slen hx hb hX0 hbl (Nat.not_le.mpr hbl) hS d_L_law_26 ?_
    refine lv_iconst (v := 5) hx hb d_L_law_27 (by decide) ?_
    refine lv_isub hx hb d_L_law_28 ?_
    refine lv_icmp_gt (tgt := 1147) hx hb d_L_law_29 (by decide) (fun _ => ?_) (fun c1 => ?_)
    · refine lv_iconst (v := 1) hx hb d_L_law_1147 (by decide) ?_
      refine va_forget (fun q hq => hS.2.2 q hq) ?_
      refine W.widen (k := 646917) (n := 7155354) (by omega) (by omega) ?_
      exact lw_ret hx hb hr hlk d_L_law_1148
    · have hj : 5 * j + 5 ≤ L := xl_fit hL (by omega) c1
      have kk := kk hj
      refine lv_aload_n hx hb d_L_law_32 rfl (lv_at hl 0 rfl) ?_
      refine lv_iload hx hb d_L_law_33 (lv_at hl 4 rfl) ?_
      refine xl_sld E hS (vp_in_nI (by omega) (by omega)) rfl d_L_law_35 ?_
      refine lv_bipush (v := 15) hx hb d_L_law_36 (by decide) ?_
      refine lv_iand hx hb d_L_law_38 ?_
      refine lv_topi (fun k ek => ?_)
      by_cases c0 : k = 0
      · refine lv_tableIn (tgt := 116) (off := 77) hx hb d_L_law_39 (by rw [c0]; decide) (by rw [c0]; decide) (by rw [c0]; rfl) (by decide) ?_
        exact k_L_register hsl hR E hj hL hV hl kk
      by_cases c1 : k = 1
      · refine lv_tableIn (tgt := 184) (off := 145) hx hb d_L_law_39 (by rw [c1]; decide) (by rw [c1]; decide) (by rw [c1]; rfl) (by decide) ?_
        exact k_L_connect hsl hR E hj hL hV hl kk
      by_cases c2 : k = 2
      · refine lv_tableIn (tgt := 240) (off := 201) hx hb d_L_law_39 (by rw [c2]; decide) (by rw [c2]; decide) (by rw [c2]; rfl) (by decide) ?_
        exact k_L_login hsl hR E hj hL hV hl kk
      by_cases c3 : k = 3
      · refine lv_tableIn (tgt := 308) (off := 269) hx hb d_L_law_39 (by rw [c3]; decide) (by rw [c3]; decide) (by rw [c3]; rfl) (by decide) ?_
        exact k_L_prove hsl hR E hj hL hV hl kk
      by_cases c4 : k = 4
      · refine lv_tableIn (tgt := 376) (off := 337) hx hb d_L_law_39 (by rw [c4]; decide) (by rw [c4]; decide) (by rw [c4]; rfl) (by decide) ?_
        exact k_L_bind hsl hR E hj hL hV hl kk
      by_cases c5 : k = 5
      · refine lv_tableIn (tgt := 444) (off := 405) hx hb d_L_law_39 (by rw [c5]; decide) (by rw [c5]; decide) (by rw [c5]; rfl) (by decide) ?_
        exact k_L_here hsl hR E hj hL hV hl kk
      by_cases c6 : k = 6
      · refine lv_tableIn (tgt := 512) (off := 473) hx hb d_L_law_39 (by rw [c6]; decide) (by rw [c6]; decide) (by rw [c6]; rfl) (by decide) ?_
        exact k_L_gone hsl hR E hj hL hV hl kk
      by_cases c7 : k = 7
      · refine lv_tableIn (tgt := 568) (off := 529) hx hb d_L_law_39 (by rw [c7]; decide) (by rw [c7]; decide) (by rw [c7]; rfl) (by decide) ?_
        exact k_L_close hsl hR E hj hL hV hl kk
      by_cases c8 : k = 8
      · refine lv_tableIn (tgt := 624) (off := 585) hx hb d_L_law_39 (by rw [c8]; decide) (by rw [c8]; decide) (by rw [c8]; rfl) (by decide) ?_
        exact k_L_message hsl hR E hj hL hV hl kk
      by_cases c9 : k = 9
      · refine lv_tableIn (tgt := 716) (off := 677) hx hb d_L_law_39 (by rw [c9]; decide) (by rw [c9]; decide) (by rw [c9]; rfl) (by decide) ?_
        exact k_L_subscribe hsl hR E hj hL hV hl kk
      by_cases c10 : k = 10
      · refine lv_tableIn (tgt := 796) (off := 757) hx hb d_L_law_39 (by rw [c10]; decide) (by rw [c10]; decide) (by rw [c10]; rfl) (by decide) ?_
        exact k_L_link hsl hR E hj hL hV hl kk
      by_cases c11 : k = 11
      · refine lv_tableIn (tgt := 837) (off := 798) hx hb d_L_law_39 (by rw [c11]; decide) (by rw [c11]; decide) (by rw [c11]; rfl) (by decide) ?_
        exact k_L_take hsl hR E hj hL hV hl kk
      by_cases c12 : k = 12
      · refine lv_tableIn (tgt := 893) (off := 854) hx hb d_L_law_39 (by rw [c12]; decide) (by rw [c12]; decide) (by rw [c12]; rfl) (by decide) ?_
        exact k_L_taken hsl hR E hj hL hV hl kk
      by_cases c13 : k = 13
      · refine lv_tableIn (tgt := 949) (off := 910) hx hb d_L_law_39 (by rw [c13]; decide) (by rw [c13]; decide) (by rw [c13]; rfl) (by decide) ?_
        exact k_L_roster hsl hR E hj hL hV hl kk
      by_cases c14 : k = 14
      · refine lv_tableIn (tgt := 1017) (off := 978) hx hb d_L_law_39 (by rw [c14]; decide) (by rw [c14]; decide) (by rw [c14]; rfl) (by decide) ?_
        exact k_L_connection hsl hR E hj hL hV hl kk
      by_cases c15 : k = 15
      · refine lv_tableIn (tgt := 1085) (off := 1046) hx hb d_L_law_39 (by rw [c15]; decide) (by rw [c15]; decide) (by rw [c15]; rfl) (by decide) ?_
        exact k_L_count hsl hR E hj hL hV hl kk
      refine lv_tableOut (tgt := 1141) hx hb d_L_law_39 (by have q0 := lv_neT c0 (a := 0) rfl; have q1 := lv_neT c1 (a := 1) rfl; have q2 := lv_neT c2 (a := 2) rfl; have q3 := lv_neT c3 (a := 3) rfl; have q4 := lv_neT c4 (a := 4) rfl; have q5 := lv_neT c5 (a := 5) rfl; have q6 := lv_neT c6 (a := 6) rfl; have q7 := lv_neT c7 (a := 7) rfl; have q8 := lv_neT c8 (a := 8) rfl; have q9 := lv_neT c9 (a := 9) rfl; have q10 := lv_neT c10 (a := 10) rfl; have q11 := lv_neT c11 (a := 11) rfl; have q12 := lv_neT c12 (a := 12) rfl; have q13 := lv_neT c13 (a := 13) rfl; have q14 := lv_neT c14 (a := 14) rfl; have q15 := lv_neT c15 (a := 15) rfl; omega) (by decide) ?_
      refine W.widen (k := 82 + 66 * (j + 1)) (n := 1000 + 396 * (j + 1)) (by omega) (by omega) ?_
      exact kk _ _ _ _ _ _ _ _ _ _ ⟨hV.1, hV.2.1, hV.2.2.1, hV.2.2.2.1, hV.2.2.2.2.1, Nat.le_trans hV.2.2.2.2.2 (Nat.le_succ _)⟩ hl
set_option maxHeartbeats 4000000 in
set_option maxRecDepth 100000 in
/-- the law, from its entry -/
theorem whole_start {p : Program} {e : Env} {s : State} {m : MethodId} {below : List Frame} {meth : Method} {c : Code} (l : Launch) (hsl : l.stackTraces = false) {b L : Nat} {xs : Nat → Int32} (hL : L ≤ 2560) (C0 : lw_At p s m meth c b L xs) : W p l e room_1 s m #[Value.ref b] below meth c s.heap [] 0 0 (lw_Z below #[Value.ref b] s) (entryFrame m ([Value.ref b] : List Value).toArray 7) := by
  obtain ⟨hx, hb, hr, hml, hown, hts0, hX, hbl, hlocks, hgv⟩ := C0
  have hs := flat_of_before _ hgv
  have hts : ∀ w ∈ xw_ws, w.before #[Value.ref b] s = true := fun w hw => hts0 w (List.mem_filter.mp hw).1
  have hC : xh_C p s m #[Value.ref b] meth c R_L code 7 ret := ⟨hx, hb, hml, hr, hown, hts, hlocks⟩
  have hO9 : xw_O s := ⟨va_AO.of (hts0 _ ao_A), va_AO.of (hts0 _ ao_C), va_AO.of (hts0 _ ao_Z)⟩
  obtain ⟨g, hK⟩ := xl_K hts hO9
  have q1 := hts0 _ (xl_cw (.castable "java/lang/IllegalArgumentException" "java/lang/IllegalArgumentException") (by decide +kernel))
  have q2 := hts0 _ (xl_cw (.castable "java/lang/IllegalStateException" "java/lang/IllegalStateException") (by decide +kernel))
  have q3 := hts0 _ (xl_cw (.castable "java/lang/UnsupportedOperationException" "java/lang/UnsupportedOperationException") (by decide +kernel))
  have q4 := hts0 _ (xl_cw (.castable "java/util/NoSuchElementException" "java/util/NoSuchElementException") (by decide +kernel))
  have hN : xl_N s := List.forall_mem_cons.mpr ⟨xl_ne q2 q1 (hs _ (by decide +kernel)), List.forall_mem_cons.mpr ⟨xl_ne q3 q1 (hs _ (by decide +kernel)), List.forall_mem_cons.mpr ⟨xl_ne q3 q2 (hs _ (by decide +kernel)), List.forall_mem_cons.mpr ⟨xl_ne q4 q1 (hs _ (by decide +kernel)), List.forall_mem_cons.mpr ⟨xl_ne q1 q4 (hs _ (by decide +kernel)), fun _ h => absurd h List.not_mem_nil⟩⟩⟩⟩⟩
  have hT : xw_T s.heap.size s := ⟨xl_st (hts0 _ (xl_t 271 rfl)) (hs _ (by decide +kernel)), xl_st (hts0 _ (xl_t 273 rfl)) (hs _ (by decide +kernel)), fun w hw => xt_fw_to (xt_fw_face w hw) (Vm.Alike.refl s.vm) (hts0 w (xl_cw w hw))⟩
  have hRf : room_1.frames = 12 := rfl
  have hRl : room_1.locals = 454 := rfl
  have hRc : room_1.cells = 646917 := rfl
  have hRs : room_1.slots = 7155354 := rfl
  have hS : va_S (fun q : Nat => s.heap.size ≤ q) s.heap s.heap [] := va_S.rf
  have hl := lv_entry ([.ref b]) (n := 7) (Nat.le_of_ble_eq_true rfl)
  rw [lg_entry_eq]
  generalize (lg_sl ([.ref b]) ++ List.replicate (7 - (lg_sl ([.ref b])).length) Slot.unset).toArray = ls at hl ⊢
  have hl : lv_has ls 7 [(0, .ref b)] := hl
  refine xb_new hx hb hts xw_in_X t_X t_X_ok hown (hts _ cl_L_8) (hts _ is_X) (hts _ ii_X) hK (ci := xi_X) rfl (fs := [.null, .null, .null, .int 0, .int 0, .null]) (fun j hj => by rcases (show j = 0 ∨ j = 1 ∨ j = 2 ∨ j = 3 ∨ j = 4 ∨ j = 5 by omega) with rfl | rfl | rfl | rfl | rfl | rfl <;> rfl) (by omega) (by omega) d_L_law_0 (fun H hat hz hq => ?_)
  have hS := xw_Snew hS hz hq
  refine lv_dup hx hb d_L_law_3 rfl ?_
  refine xk_N (rest := [.ref s.heap.size]) (As := []) (c_X_init l g s.heap.size) cd_X_init ii_X ml_L_66 im_X_init rfl ci_X hC hK hO9 hS hz hat (fun q h => h) (by omega) (by omega) (by omega) (by omega) hl.1 rfl (Nat.le_of_ble_eq_true rfl) d_L_law_4 (fun H locs hP hq hS => ?_)
  obtain ⟨hz, hX9⟩ := hP
  refine lv_astore_n (lv' := [(1, .ref s.heap.size), (0, .ref b)]) hx hb d_L_law_7 rfl hl (by decide) rfl (fun ls hl => ?_)
  refine xb_new hx hb hts xw_in_U t_U t_U_ok hown (hts _ cl_L_67) (hts _ is_U) (hts _ ii_U) hK (ci := xi_U) rfl (fs := [.int 0, .null, .null, .null, .null, .null, .null, .null, .null, .null, .int 0, .null, .null, .null, .null, .null, .null, .null, .null, .null, .null, .null, .null, .null, .null, .null, .int 0, .int 0, .int 0, .int 0, .int 0, .int 0, .int 0, .int 0]) xl_dU (by omega) (by omega) d_L_law_8 (fun H1 hat hz1 hq => ?_)
  have hX9 := hX9.k (fun p q1 q2 => hq p (by omega))
  have hS := xw_Snew hS hz1 hq
  rw [hz] at hat hz1
  rw [hz]
  refine lv_dup hx hb d_L_law_11 rfl ?_
  refine xk_N (rest := [.ref (s.heap.size + 56)]) (As := []) (c_U_init l g (s.heap.size + 56)) cd_U_init ii_U ml_L_69 im_U_init rfl ci_U hC hK hO9 hS hz1 hat (fun q h => ?_) (by omega) (by omega) (by omega) (by omega) hl.1 rfl (Nat.le_of_ble_eq_true rfl) d_L_law_12 (fun H locs hP hq hS => ?_)
  · exact Nat.le_trans (Nat.le_add_right _ _) (show s.heap.size + 56 ≤ q from h)
  obtain ⟨hz2, hat, hU9⟩ := hP
  have hX9 := hX9.k (H1 := H) (fun p q1 q2 => hq p (by omega) (fun z => by have z : s.heap.size + 56 ≤ p := z; omega))
  refine lv_astore_n (lv' := [(2, .ref (s.heap.size + 56)), (1, .ref s.heap.size), (0, .ref b)]) hx hb d_L_law_15 rfl hl (by decide) rfl (fun ls hl => ?_)
  refine lv_iconst (v := 1) hx hb d_L_law_16 (by decide) ?_
  refine xb_newl hx hb (hts _ ar_long) hK 5 rfl (n := 1) (N' := 1) (by decide) rfl (by decide) (by omega) (by omega) d_L_law_17 (fun H1 hat2 hz3 hq => ?_)
  have hX9 := hX9.k (H1 := H1) (fun p q1 q2 => hq p (by omega))
  have hU9 := hU9.k (H1 := H1) (fun p q1 q2 => hq p (by omega))
  have hat := hat.kept (H1 := H1) (hq _ (by (try dsimp only); omega))
  have hS := xw_Snew hS hz3 hq
  have e81 : Array.size H = s.heap.size + 81 := by omega
  rw [e81] at hat2
  rw [e81]
  refine lv_astore_n (lv' := [(3, .ref (s.heap.size + 81)), (2, .ref (s.heap.size + 56)), (1, .ref s.heap.size), (0, .ref b)]) hx hb d_L_law_19 rfl hl (by decide) rfl (fun ls hl => ?_)
  refine lv_iconst (v := 0) hx hb d_L_law_20 (by decide) ?_
  refine lv_istore (lv' := [(4, .int 0), (3, .ref (s.heap.size + 81)), (2, .ref (s.heap.size + 56)), (1, .ref s.heap.size), (0, .ref b)]) hx hb d_L_law_21 hl (by decide) rfl (fun ls hl => ?_)
  refine W.widen (k := 82 + 66 * 0) (n := 1000 + 396 * 0) (by omega) (by omega) ?_
  exact xl_loop hsl ⟨hC, hK, hT, hN, hX, hbl⟩ hL 513 0 (by omega) (by omega) _ _ _ _ _ _ _ _ _ _ ⟨hX9.R (fun q h => Or.inl h) (fun q h => by rcases h with ⟨z1, z2, z3⟩ | ⟨z1, z2⟩ | z <;> omega), xn_U.R hat hU9, hat2, hS, xm_I0, Nat.le_refl 0⟩ (lv_sub hl [4, 3, 2, 1, 0] rfl)
-- ===== YOUR PART ENDS =====
set_option maxHeartbeats 4000000 in
theorem lw_walk (l : Launch) (hsl : l.stackTraces = false) (b : Addr) (xs : List Int32) : MetFree l x (headSpec (Jvm.Cond.code x code maxLocals ret :: tables_1) room_1) (lw_P b xs) (fun _ _ _ _ _ => True) lw_Q := by
  refine MetFree.of_bodyS (code := code) (maxLocals := maxLocals) (ret := ret) (by decide) ?_ ?_
  · intro args s m h hn
    obtain ⟨meth, c, h1, h2, h3, h4, h5, h6, -, -⟩ := Cond.code_spec hn (atoms_spec (ws := Jvm.Cond.code x code maxLocals ret :: tables_1) h _ List.mem_cons_self)
    exact ⟨meth, c, h1, h2, h3, h4, h5, h6⟩
  · intro p e s m args below meth c s₁ B hml0 hP _
    obtain ⟨rfl, hx, hbd, hgv⟩ := hP
    obtain ⟨scr, harrAt, hlist, hof, hsmall⟩ := hx
    obtain ⟨hcb, hkn, -, -⟩ := State.arrayAt?_spec harrAt
    have hown : s.vm.findClass R_law = some m.cls := findClass_of_methodNamed B.named
    have hts0 : ∀ c ∈ (Jvm.Cond.code x code maxLocals ret :: tables_1), c.before #[Value.ref b] s = true := atoms_spec (ws := Jvm.Cond.code x code maxLocals ret :: tables_1) B.pre
    have hts : ∀ w ∈ lw_tbl, w.before #[Value.ref b] s = true := k2_hts_sels lw_privs (fun w hw => hts0 w (List.mem_cons_of_mem _ hw)) lw_privs_ok
    have hml : c.maxLocals = 7 := B.maxLocals_eq (hts0 _ List.mem_cons_self)
    have X₀ : Stand p l e room_1 s m #[Value.ref b] below meth c s₁ [] 0 0 := Stand.of_body B
    have hh0 : s₁.heap = s.heap := by rw [B.state]; rfl
    have hsz : scr.slots.size = xs.length := by rw [← Array.length_toList, hlist, List.length_map]
    have hval : ∀ j : Nat, j < xs.length → scr.slots[j]? = some (.int (xs.getD j 0)) := fun j hj => by
      rw [← Array.getElem?_toList, hlist]
      simp [hj]
    have hbl : b < s.heap.size := (Array.getElem?_eq_some_iff.mp hcb).1
    have hX : va_X b xs.length (fun j => xs.getD j 0) s s.heap := ⟨scr, hcb, hof, hkn, hsz, hval⟩
    have K : W p l e room_1 s m #[Value.ref b] below meth c s₁.heap [] 0 0 (lw_Z below #[Value.ref b] s) (entryFrame m ([Value.ref b] : List Value).toArray 7) := by
      rw [hh0]
      exact whole_start l hsl hbd ⟨B.exec, B.bytes, B.returns, hml, hown, hts, hX, hbl, B.notSynchronized, hgv⟩
    obtain ⟨t, a1, o, b1, b2, b3⟩ := K s₁ rfl X₀
    exact ⟨t, o, a1, b1, b2, b3⟩
theorem lw_pre_spec {args : Array Value} {s : State} (h : (Jvm.Cond.and given_1 narrow_1).before args s = true) (hr : rest_1_c.before args s = true) : ∃ (b : Addr) (xs : List Int32), lw_P b xs args s := by
  have hs := flat_of_before _ h
  have hq := flat_of_before _ hr
  have hc : (Cond.count 1).before args s = true := hs _ (by decide +kernel)
  have harr : (Cond.arrayOf (.arg 0) .int).before args s = true := hs _ (by decide +kernel)
  have hle : (Cond.le (.length (.arg 0)) (.int 2560)).before args s = true := hs _ (by decide +kernel)
  have hlen : (Cond.isInt (.length (.arg 0))).before args s = true := hq _ (by decide +kernel)
  have hall : (Cond.all (.arg 0) (.isInt (.elem (.arg 0) (.index 0)))).before args s = true := hq _ (by decide +kernel)
  obtain ⟨b, xs, hb, hx⟩ := State.ints_of_pre rfl harr hlen hall
  have hsm : xs.length < 2 ^ 31 := hx.choose_spec.2.2.2
  have hev : (Term.length (.arg 0)).eval args s none [] s = some (.int xs.length.toInt32) := hx.length_eval hb
  have hv := Cond.le_ints hev (show (Term.int 2560).eval args s none [] s = some (.int 2560) from rfl)
  have hd : xs.length.toInt32 ≤ 2560 := by
    simpa [Cond.before, Cond.holds, hv] using hle
  have hN : xs.length ≤ 2560 := (Int32.ofNat_le_ofNat hsm (by decide)).mp (show Int32.ofNat xs.length ≤ Int32.ofNat 2560 from hd)
  exact ⟨b, xs, Cond.one_arg hc (show args[0]? = some (.ref b) from hb), hx, hN, h⟩
theorem lw_comes (l : Launch) (hsl : l.stackTraces = false) : Comes l x (Jvm.Cond.code x code maxLocals ret :: tables_1) room_1 (fun tb e args s => Calls_1 tb e args s ∧ rest_1 tb e args s ∧ Pre_1 tb e args s)
    (fun _ _ args s o t => lw_Q args s o t) := by
  intro p e ha hc hk s m args below hf hfit hheap happ hpre
  obtain ⟨b, xs, hP⟩ := lw_pre_spec hpre.2.2 hpre.2.1
  obtain ⟨k, o, h1, h2, h3, hQ⟩ := lw_walk l hsl b xs p e ha hc hk s m args below hf ((Spec.applies_iff_loose hf).mp happ).1 hP trivial
  exact ⟨k, o, h1, h2, h3, hQ⟩
theorem lw_frame {s t : State} {o : Outcome} {args : Array Value} (h : Framed s o t [] 646917 7155354) :
    Framed s o t (fieldLocs frame_1_writes args s ++ arrayLocs frame_1_arrays args s ++ staticLocs frame_1_statics s) 646917 7155354 := h
theorem lw_limb (L : Cond) (hL : ∀ (args : Array Value) (s t : State), L.after args s (.returned (some (.int 1))) t = true) :
    ArmFor flags0 classFile x code maxLocals ret World_1 tables_1 room_1 Calls_1 rest_1 Pre_1
      (fun tb e a s o t => postC L tb e a s o t ∧ Framed s o t (fieldLocs frame_1_writes a s ++ arrayLocs frame_1_arrays a s ++ staticLocs frame_1_statics s) 646917 7155354) := by
  intro l hfl _ _ p e ha hc hk s m args below hf hfit hheap happ hpre
  obtain ⟨k, o, h1, h2, h3, rfl, hF⟩ := lw_comes l (by unfold Launch.stackTraces; rw [hfl]; decide) p e ha hc hk s m args below hf hfit hheap happ hpre
  exact ⟨k, _, h1, h2, h3, hL args s _, lw_frame hF⟩
theorem i_vc : Claimed_1_1 ∧ Claimed_1_2 := ⟨lw_limb limb_1_1 (fun args s t => by simp [limb_1_1, Cond.after, Cond.holds, Cond.value]), lw_limb limb_1_2 (fun args s t => Cond.after_iff.mpr (by
  first | (rw [show limb_1_2 = Cond.eq .result (.int 1) from rfl, Cond.eq_ints (x := 1) (y := 1) rfl rfl]; simp; done) | (simp [limb_1_2, Cond.value, Term.eval]; done)))⟩
