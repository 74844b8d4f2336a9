/-! The reference just made. -/
section UNB
variable {p : Program} {l : Launch} {e : Env} {R : Room} {s : State} {m : MethodId} {args : Array Value} {below : List Frame} {meth : Method} {c : Code} {H : Heap} {locs : List Loc} {cells slots : Nat} {Q : State → Prop}
variable {cc : ByteArray} {pc : Nat} {ls : Array Slot} {rest : List Value} {D : va_G} {cl : List vw_C} {a : Nat} {tys : List (ClassId × FieldType)}
theorem xb_newz (hexec : p.tables.exec = Jvm.exec) (hb : c.code = cc) (harr : (Cond.arrayClass .boolean).before args s = true) (hK : va_K D cl tys s) (t0 : Nat) {cA : ClassId} (ht : tys[t0]? = some (cA, .boolean))
    {n : Int32} {N' : Nat} (hn : ¬ n < 0) (hN : n.toNatClampNeg = N') (hbytes : N' * componentBytes .boolean ≤ 536870912) (hcells : cells + 1 ≤ R.cells) (hslots : slots + N' ≤ R.slots) (hdg : decode cc pc = .ok (.newarray .boolean, 2))
    (kk : ∀ (H1 : Heap), va_at D cl (H.size, .inl (cA, N', .inl (fun _ => 0))) H1 → H1.size = H.size + 1 → (∀ q : Nat, q < H.size → H1[q]? = H[q]?) →
      W p l e R s m args below meth c H1 locs (cells + 1) (slots + N') Q (F0 m (pc + 2) ls (.ref H.size :: rest))) : W p l e R s m args below meth c H locs cells slots Q (F0 m pc ls (.int n :: rest)) := by
  refine va_newaK (atype := .boolean) (g := F0 m pc ls (.int n :: rest)) (n := n) (N := N') (rest := rest) (h := H.size) hexec hb harr rfl hdg rfl hn hN hbytes hcells hslots rfl (fun H1 cA' e1 z1 o1 hAr hNm => ?_)
  have k4 := (hK.2 t0 _ ht).2
  cases Option.some.inj ((show s.vm.findClass ("[" ++ FieldType.boolean.toString) = some cA from k4).symm.trans hNm)
  exact kk H1 e1 z1 o1
theorem xb_newl (hexec : p.tables.exec = Jvm.exec) (hb : c.code = cc) (harr : (Cond.arrayClass .long).before args s = true) (hK : va_K D cl tys s) (t0 : Nat) {cA : ClassId} (ht : tys[t0]? = some (cA, .long))
    {n : Int32} {N' : Nat} (hn : ¬ n < 0) (hN : n.toNatClampNeg = N') (hbytes : N' * componentBytes .long ≤ 536870912) (hcells : cells + 1 ≤ R.cells) (hslots : slots + N' ≤ R.slots) (hdg : decode cc pc = .ok (.newarray .long, 2))
    (kk : ∀ (H1 : Heap), va_at D cl (H.size, .inl (cA, N', .inr (.inl (fun _ => 0)))) H1 → H1.size = H.size + 1 → (∀ q : Nat, q < H.size → H1[q]? = H[q]?) →
      W p l e R s m args below meth c H1 locs (cells + 1) (slots + N') Q (F0 m (pc + 2) ls (.ref H.size :: rest))) : W p l e R s m args below meth c H locs cells slots Q (F0 m pc ls (.int n :: rest)) := by
  refine va_newaK (atype := .long) (g := F0 m pc ls (.int n :: rest)) (n := n) (N := N') (rest := rest) (h := H.size) hexec hb harr rfl hdg rfl hn hN hbytes hcells hslots rfl (fun H1 cA' e1 z1 o1 hAr hNm => ?_)
  have k4 := (hK.2 t0 _ ht).2
  cases Option.some.inj ((show s.vm.findClass ("[" ++ FieldType.long.toString) = some cA from k4).symm.trans hNm)
  exact kk H1 e1 z1 o1
end UNB
def xu_a0 : xu_M
  | 5 => fun _ => -1
  | 6 => fun _ => -1
  | _ => fun _ => 0
section UNI
variable {g : xw_G} {H H1 : Heap} {o K : Nat}
def xn_U (g : xw_G) (o K : Nat) (H : Heap) : Prop := ∀ j, 1 ≤ j → j < K → va_at g.1 vwCl (o + j, .inl (g.2 (xu_t j), xu_n j, .inl (xu_a0 j))) H
theorem xn_U.z : xn_U g o 1 H := fun j h1 h2 => by omega
theorem xn_U.k (h : xn_U g o K H) (hk : ∀ p : Nat, o + 1 ≤ p → p < o + K → H1[p]? = H[p]?) : xn_U g o K H1 := fun j h1 h2 => (h j h1 h2).kept (hk (o + j) (by omega) (by omega))
theorem xn_U.add (h : xn_U g o K H) (hat : va_at g.1 vwCl (o + K, .inl (g.2 (xu_t K), xu_n K, .inl (xu_a0 K))) H) : xn_U g o (K + 1) H := fun j h1 h2 => by
  by_cases e : j = K
  · subst e
    exact hat
  · exact h j h1 (by omega)
theorem xn_arrI {a n : Nat} {cA : ClassId} {f f' : Nat → Int32} (h : va_at g.1 vwCl (a, .inl (cA, n, .inl f)) H) (hf : ∀ j, j < n → f j = f' j) : va_at g.1 vwCl (a, .inl (cA, n, .inl f')) H := by
  have h1 : H[a]? = some (vp_cell cA (n, .inl f)) := h
  show H[a]? = some (vp_cell cA (n, .inl f'))
  rw [h1]
  congr 1
  show arrV cA n (fun j => .int (f j)) = arrV cA n (fun j => .int (f' j))
  unfold arrV
  congr 2
  funext j
  show Value.int (f j.val) = Value.int (f' j.val)
  rw [hf j.val j.isLt]
theorem xn_six {f : Nat → Int32} (h : f = upd (upd (upd (upd (upd (upd (fun _ => 0) 0 (-1)) 1 (-1)) 2 (-1)) 3 (-1)) 4 (-1)) 5 (-1)) : ∀ j, j < 6 → f j = -1 := by
  intro j hj
  have : j = 0 ∨ j = 1 ∨ j = 2 ∨ j = 3 ∨ j = 4 ∨ j = 5 := by omega
  rcases this with rfl | rfl | rfl | rfl | rfl | rfl <;> rw [h] <;> rfl
theorem xu_rel0 : xu_rel xu_a0 xs_S0 := by
  refine ⟨fun i hi => ⟨rfl, rfl⟩, fun i j hi hj => rfl, fun i hi => ⟨rfl, rfl, rfl, rfl, rfl, rfl⟩, fun i hi => ⟨rfl, Nat.zero_le _, fun j z hz => by cases hz⟩, fun i hi => ⟨rfl, Nat.zero_le _, fun j z hz => by cases hz⟩, Nat.zero_le _, fun j z hz => by cases hz⟩
theorem xn_U.R (hO : va_at g.1 vwCl (o, .inr (xi_U, xu_O o (0, 0, 0, 1, 0, 0, 0, 0, 0, 0))) H) (h : xn_U g o 25 H) : xu_R g o xs_S0 0 0 0 (0, 0, 0) xu_a0 H :=
  ⟨hO, fun k h1 h2 => h k h1 (by omega), xu_rel0, (fun z hz => by cases hz), rfl⟩
end UNI
set_option maxHeartbeats 4000000 in
set_option maxRecDepth 100000 in
theorem c_U_init (l : Launch) (g : xw_G) (o : Nat) : xc_N l y_U_init (Cond.code y_U_init b_U_init 1 none) g (o + 1) [.ref o] (fun H => va_at g.1 vwCl (o, .inr (xi_U, [.int 0, .null, .null, .null, .null, .null, .null, .null, .null, .null, .int 0, .null, .null, .null, .null, .null, .null, .null, .null, .null, .null, .null, .null, .null, .null, .null, .int 0, .int 0, .int 0, .int 0, .int 0, .int 0, .int 0, .int 0])) H) (fun H => H.size = o + 25 ∧ va_at g.1 vwCl (o, .inr (xi_U, xu_O o (0, 0, 0, 1, 0, 0, 0, 0, 0, 0))) H ∧ xn_U g o 25 H) (fun q => o ≤ q) 1 20 24 514 := by
  refine xh_N (own := R_U) (by decide) rfl rfl (Nat.le_of_ble_eq_true rfl) ?_
  intro p e R s m below meth c ls hRf hRl hRc hRs hC hin hK hO hsz hE hl
  obtain ⟨hx, hb, hml, hr, hown, hts, hlk⟩ := id hC
  have hS : va_S (fun q => o ≤ q) s.heap s.heap [] := va_S.rf
  have hl : lv_has ls 1 [(0, .ref o)] := hl
  have hat := hE
  have hU : xn_U g o 1 s.heap := xn_U.z
  refine lv_aload_n hx hb d_U_init_0 rfl (lv_at hl 0 rfl) ?_
  refine W.objInit hx hb hown (hts _ ml_U_1) (hts _ im_obj) (hts _ cd_obj) rfl (by rw [hml]; exact hl.1) rfl d_U_init_1 (by omega) (by rw [hRl]; exact Nat.le_of_ble_eq_true rfl) ?_
  refine W.eq (g2 := F0 m 4 ls []) rfl ?_
  refine lv_aload_n hx hb d_U_init_4 rfl (lv_at hl 0 rfl) ?_
  refine lv_bipush (v := 8) hx hb d_U_init_5 (by decide) ?_
  refine xb_newz hx hb (hts _ ar_boolean) hK 4 rfl (by decide) (N' := 8) rfl (by decide) (by omega) (by omega) d_U_init_7 (fun H1 harr hz hq => ?_)
  rw [hsz] at harr hz hq ⊢
  replace hS := xw_Snew9 hS hsz hz hq
  replace hat := xn_1 hat (fun q h1 h2 => hq q (by (try dsimp only at h1 h2); omega))
  replace hU := hU.k (fun q h1 h2 => hq q (by omega))
  replace hsz := hz
  clear hz hq
  replace harr : va_at g.1 vwCl (o + 1, .inl (g.2 4, 8, .inl (fun _ => 0))) H1 := harr
  replace hU := hU.add harr
  clear harr
  refine xb_putF hx hb hts xw_in_U t_U t_U_ok n_U hown hK (ci := xi_U) rfl 1 (by decide) (hts _ lk_U_7) rfl rfl hin rfl hat rfl rfl (Nat.le_of_ble_eq_true rfl) d_U_init_9 (fun H lc hlc hat9 hz hq => ?_)
  replace hat : va_at g.1 vwCl (o, .inr (xi_U, [.int 0, .ref (o + 1), .null, .null, .null, .null, .null, .null, .null, .null, .int 0, .null, .null, .null, .null, .null, .null, .null, .null, .null, .null, .null, .null, .null, .null, .null, .int 0, .int 0, .int 0, .int 0, .int 0, .int 0, .int 0, .int 0])) H := hat9
  replace hsz := hz.trans hsz
  replace hS := xw_Sput hS hz hq hlc (by (try dsimp only); omega)
  replace hU := hU.k (fun q h1 h2 => hq q (by omega))
  clear hat9 hz hq hlc
  refine lv_aload_n hx hb d_U_init_12 rfl (lv_at hl 0 rfl) ?_
  refine lv_bipush (v := 8) hx hb d_U_init_13 (by decide) ?_
  refine xb_newa hx hb (hts _ ar_int) hK 3 rfl (by decide) (N' := 8) rfl (by decide) (by omega) (by omega) d_U_init_15 (fun H1 harr hz hq => ?_)
  rw [hsz] at harr hz hq ⊢
  replace hS := xw_Snew9 hS hsz hz hq
  replace hat := xn_1 hat (fun q h1 h2 => hq q (by (try dsimp only at h1 h2); omega))
  replace hU := hU.k (fun q h1 h2 => hq q (by omega))
  replace hsz := hz
  clear hz hq
  replace harr : va_at g.1 vwCl (o + 2, .inl (g.2 3, 8, .inl (fun _ => 0))) H1 := harr
  replace hU := hU.add harr
  clear harr
  refine xb_putF hx hb hts xw_in_U t_U t_U_ok n_U hown hK (ci := xi_U) rfl 2 (by decide) (hts _ lk_U_13) rfl rfl hin rfl hat rfl rfl (Nat.le_of_ble_eq_true rfl) d_U_init_17 (fun H lc hlc hat9 hz hq => ?_)
  replace hat : va_at g.1 vwCl (o, .inr (xi_U, [.int 0, .ref (o + 1), .ref (o + 2), .null, .null, .null, .null, .null, .null, .null, .int 0, .null, .null, .null, .null, .null, .null, .null, .null, .null, .null, .null, .null, .null, .null, .null, .int 0, .int 0, .int 0, .int 0, .int 0, .int 0, .int 0, .int 0])) H := hat9
  replace hsz := hz.trans hsz
  replace hS := xw_Sput hS hz hq hlc (by (try dsimp only); omega)
  replace hU := hU.k (fun q h1 h2 => hq q (by omega))
  clear hat9 hz hq hlc
  refine lv_aload_n hx hb d_U_init_20 rfl (lv_at hl 0 rfl) ?_
  refine lv_bipush (v := 64) hx hb d_U_init_21 (by decide) ?_
  refine xb_newa hx hb (hts _ ar_int) hK 3 rfl (by decide) (N' := 64) rfl (by decide) (by omega) (by omega) d_U_init_23 (fun H1 harr hz hq => ?_)
  rw [hsz] at harr hz hq ⊢
  replace hS := xw_Snew9 hS hsz hz hq
  replace hat := xn_1 hat (fun q h1 h2 => hq q (by (try dsimp only at h1 h2); omega))
  replace hU := hU.k (fun q h1 h2 => hq q (by omega))
  replace hsz := hz
  clear hz hq
  replace harr : va_at g.1 vwCl (o + 3, .inl (g.2 3, 64, .inl (fun _ => 0))) H1 := harr
  replace hU := hU.add harr
  clear harr
  refine xb_putF hx hb hts xw_in_U t_U t_U_ok n_U hown hK (ci := xi_U) rfl 3 (by decide) (hts _ lk_U_17) rfl rfl hin rfl hat rfl rfl (Nat.le_of_ble_eq_true rfl) d_U_init_25 (fun H lc hlc hat9 hz hq => ?_)
  replace hat : va_at g.1 vwCl (o, .inr (xi_U, [.int 0, .ref (o + 1), .ref (o + 2), .ref (o + 3), .null, .null, .null, .null, .null, .null, .int 0, .null, .null, .null, .null, .null, .null, .null, .null, .null, .null, .null, .null, .null, .null, .null, .int 0, .int 0, .int 0, .int 0, .int 0, .int 0, .int 0, .int 0])) H := hat9
  replace hsz := hz.trans hsz
  replace hS := xw_Sput hS hz hq hlc (by (try dsimp only); omega)
  replace hU := hU.k (fun q h1 h2 => hq q (by omega))
  clear hat9 hz hq hlc
  refine lv_aload_n hx hb d_U_init_28 rfl (lv_at hl 0 rfl) ?_
  refine lv_bipush (v := 6) hx hb d_U_init_29 (by decide) ?_
  refine xb_newa hx hb (hts _ ar_int) hK 3 rfl (by decide) (N' := 6) rfl (by decide) (by omega) (by omega) d_U_init_31 (fun H1 harr hz hq => ?_)
  rw [hsz] at harr hz hq ⊢
  replace hS := xw_Snew9 hS hsz hz hq
  replace hat := xn_1 hat (fun q h1 h2 => hq q (by (try dsimp only at h1 h2); omega))
  replace hU := hU.k (fun q h1 h2 => hq q (by omega))
  replace hsz := hz
  clear hz hq
  replace harr : va_at g.1 vwCl (o + 4, .inl (g.2 3, 6, .inl (fun _ => 0))) H1 := harr
  replace hU := hU.add harr
  clear harr
  refine xb_putF hx hb hts xw_in_U t_U t_U_ok n_U hown hK (ci := xi_U) rfl 4 (by decide) (hts _ lk_U_20) rfl rfl hin rfl hat rfl rfl (Nat.le_of_ble_eq_true rfl) d_U_init_33 (fun H lc hlc hat9 hz hq => ?_)
  replace hat : va_at g.1 vwCl (o, .inr (xi_U, [.int 0, .ref (o + 1), .ref (o + 2), .ref (o + 3), .ref (o + 4), .null, .null, .null, .null, .null, .int 0, .null, .null, .null, .null, .null, .null, .null, .null, .null, .null, .null, .null, .null, .null, .null, .int 0, .int 0, .int 0, .int 0, .int 0, .int 0, .int 0, .int 0])) H := hat9
  replace hsz := hz.trans hsz
  replace hS := xw_Sput hS hz hq hlc (by (try dsimp only); omega)
  replace hU := hU.k (fun q h1 h2 => hq q (by omega))
  clear hat9 hz hq hlc
  refine lv_aload_n hx hb d_U_init_36 rfl (lv_at hl 0 rfl) ?_
  refine lv_bipush (v := 6) hx hb d_U_init_37 (by decide) ?_
  refine xb_newa hx hb (hts _ ar_int) hK 3 rfl (by decide) (N' := 6) rfl (by decide) (by omega) (by omega) d_U_init_39 (fun H1 harr hz hq => ?_)
  rw [hsz] at harr hz hq ⊢
  replace hS := xw_Snew9 hS hsz hz hq
  replace hat := xn_1 hat (fun q h1 h2 => hq q (by (try dsimp only at h1 h2); omega))
  replace hU := hU.k (fun q h1 h2 => hq q (by omega))
  replace hsz := hz
  clear hz hq
  replace harr : va_at g.1 vwCl (o + 5, .inl (g.2 3, 6, .inl (fun _ => 0))) H1 := harr
  refine lv_dup hx hb d_U_init_41 rfl ?_
  refine lv_iconst (v := 0) hx hb d_U_init_42 (by decide) ?_
  refine lv_iconst (v := (-1)) hx hb d_U_init_43 (by decide) ?_
  refine xb_iast hx hb hK 3 rfl harr (i := 0) (vp_in_nI (show 0 < 6 by decide) (by decide)) d_U_init_44 (fun H lc hlc harr9 hz hq => ?_)
  replace harr : va_at g.1 vwCl (o + 5, .inl (g.2 3, 6, .inl (upd (fun _ => 0) 0 (-1)))) H := harr9
  replace hsz := hz.trans hsz
  replace hS := xw_Sput hS hz hq hlc (by (try dsimp only); omega)
  replace hat := xn_1 hat (fun q h1 h2 => hq q (by (try dsimp only at h1 h2); omega))
  replace hU := hU.k (fun q h1 h2 => hq q (by omega))
  clear harr9 hz hq hlc
  refine lv_dup hx hb d_U_init_45 rfl ?_
  refine lv_iconst (v := 1) hx hb d_U_init_46 (by decide) ?_
  refine lv_iconst (v := (-1)) hx hb d_U_init_47 (by decide) ?_
  refine xb_iast hx hb hK 3 rfl harr (i := 1) (vp_in_nI (show 1 < 6 by decide) (by decide)) d_U_init_48 (fun H lc hlc harr9 hz hq => ?_)
  replace harr : va_at g.1 vwCl (o + 5, .inl (g.2 3, 6, .inl (upd (upd (fun _ => 0) 0 (-1)) 1 (-1)))) H := harr9
  replace hsz := hz.trans hsz
  replace hS := xw_Sput hS hz hq hlc (by (try dsimp only); omega)
  replace hat := xn_1 hat (fun q h1 h2 => hq q (by (try dsimp only at h1 h2); omega))
  replace hU := hU.k (fun q h1 h2 => hq q (by omega))
  clear harr9 hz hq hlc
  refine lv_dup hx hb d_U_init_49 rfl ?_
  refine lv_iconst (v := 2) hx hb d_U_init_50 (by decide) ?_
  refine lv_iconst (v := (-1)) hx hb d_U_init_51 (by decide) ?_
  refine xb_iast hx hb hK 3 rfl harr (i := 2) (vp_in_nI (show 2 < 6 by decide) (by decide)) d_U_init_52 (fun H lc hlc harr9 hz hq => ?_)
  replace harr : va_at g.1 vwCl (o + 5, .inl (g.2 3, 6, .inl (upd (upd (upd (fun _ => 0) 0 (-1)) 1 (-1)) 2 (-1)))) H := harr9
  replace hsz := hz.trans hsz
  replace hS := xw_Sput hS hz hq hlc (by (try dsimp only); omega)
  replace hat := xn_1 hat (fun q h1 h2 => hq q (by (try dsimp only at h1 h2); omega))
  replace hU := hU.k (fun q h1 h2 => hq q (by omega))
  clear harr9 hz hq hlc
  refine lv_dup hx hb d_U_init_53 rfl ?_
  refine lv_iconst (v := 3) hx hb d_U_init_54 (by decide) ?_
  refine lv_iconst (v := (-1)) hx hb d_U_init_55 (by decide) ?_
  refine xb_iast hx hb hK 3 rfl harr (i := 3) (vp_in_nI (show 3 < 6 by decide) (by decide)) d_U_init_56 (fun H lc hlc harr9 hz hq => ?_)
  replace harr : va_at g.1 vwCl (o + 5, .inl (g.2 3, 6, .inl (upd (upd (upd (upd (fun _ => 0) 0 (-1)) 1 (-1)) 2 (-1)) 3 (-1)))) H := harr9
  replace hsz := hz.trans hsz
  replace hS := xw_Sput hS hz hq hlc (by (try dsimp only); omega)
  replace hat := xn_1 hat (fun q h1 h2 => hq q (by (try dsimp only at h1 h2); omega))
  replace hU := hU.k (fun q h1 h2 => hq q (by omega))
  clear harr9 hz hq hlc
  refine lv_dup hx hb d_U_init_57 rfl ?_
  refine lv_iconst (v := 4) hx hb d_U_init_58 (by decide) ?_
  refine lv_iconst (v := (-1)) hx hb d_U_init_59 (by decide) ?_
  refine xb_iast hx hb hK 3 rfl harr (i := 4) (vp_in_nI (show 4 < 6 by decide) (by decide)) d_U_init_60 (fun H lc hlc harr9 hz hq => ?_)
  replace harr : va_at g.1 vwCl (o + 5, .inl (g.2 3, 6, .inl (upd (upd (upd (upd (upd (fun _ => 0) 0 (-1)) 1 (-1)) 2 (-1)) 3 (-1)) 4 (-1)))) H := harr9
  replace hsz := hz.trans hsz
  replace hS := xw_Sput hS hz hq hlc (by (try dsimp only); omega)
  replace hat := xn_1 hat (fun q h1 h2 => hq q (by (try dsimp only at h1 h2); omega))
  replace hU := hU.k (fun q h1 h2 => hq q (by omega))
  clear harr9 hz hq hlc
  refine lv_dup hx hb d_U_init_61 rfl ?_
  refine lv_iconst (v := 5) hx hb d_U_init_62 (by decide) ?_
  refine lv_iconst (v := (-1)) hx hb d_U_init_63 (by decide) ?_
  refine xb_iast hx hb hK 3 rfl harr (i := 5) (vp_in_nI (show 5 < 6 by decide) (by decide)) d_U_init_64 (fun H lc hlc harr9 hz hq => ?_)
  replace harr : va_at g.1 vwCl (o + 5, .inl (g.2 3, 6, .inl (upd (upd (upd (upd (upd (upd (fun _ => 0) 0 (-1)) 1 (-1)) 2 (-1)) 3 (-1)) 4 (-1)) 5 (-1)))) H := harr9
  replace hsz := hz.trans hsz
  replace hS := xw_Sput hS hz hq hlc (by (try dsimp only); omega)
  replace hat := xn_1 hat (fun q h1 h2 => hq q (by (try dsimp only at h1 h2); omega))
  replace hU := hU.k (fun q h1 h2 => hq q (by omega))
  clear harr9 hz hq hlc
  replace harr : va_at g.1 vwCl (o + 5, .inl (g.2 3, 6, .inl (xu_a0 5))) H := xn_arrI harr (xn_six rfl)
  replace hU := hU.add harr
  clear harr
  refine xb_putF hx hb hts xw_in_U t_U t_U_ok n_U hown hK (ci := xi_U) rfl 5 (by decide) (hts _ lk_U_23) rfl rfl hin rfl hat rfl rfl (Nat.le_of_ble_eq_true rfl) d_U_init_65 (fun H lc hlc hat9 hz hq => ?_)
  replace hat : va_at g.1 vwCl (o, .inr (xi_U, [.int 0, .ref (o + 1), .ref (o + 2), .ref (o + 3), .ref (o + 4), .ref (o + 5), .null, .null, .null, .null, .int 0, .null, .null, .null, .null, .null, .null, .null, .null, .null, .null, .null, .null, .null, .null, .null, .int 0, .int 0, .int 0, .int 0, .int 0, .int 0, .int 0, .int 0])) H := hat9
  replace hsz := hz.trans hsz
  replace hS := xw_Sput hS hz hq hlc (by (try dsimp only); omega)
  replace hU := hU.k (fun q h1 h2 => hq q (by omega))
  clear hat9 hz hq hlc
  refine lv_aload_n hx hb d_U_init_68 rfl (lv_at hl 0 rfl) ?_
  refine lv_bipush (v := 6) hx hb d_U_init_69 (by decide) ?_
  refine xb_newa hx hb (hts _ ar_int) hK 3 rfl (by decide) (N' := 6) rfl (by decide) (by omega) (by omega) d_U_init_71 (fun H1 harr hz hq => ?_)
  rw [hsz] at harr hz hq ⊢
  replace hS := xw_Snew9 hS hsz hz hq
  replace hat := xn_1 hat (fun q h1 h2 => hq q (by (try dsimp only at h1 h2); omega))
  replace hU := hU.k (fun q h1 h2 => hq q (by omega))
  replace hsz := hz
  clear hz hq
  replace harr : va_at g.1 vwCl (o + 6, .inl (g.2 3, 6, .inl (fun _ => 0))) H1 := harr
  refine lv_dup hx hb d_U_init_73 rfl ?_
  refine lv_iconst (v := 0) hx hb d_U_init_74 (by decide) ?_
  refine lv_iconst (v := (-1)) hx hb d_U_init_75 (by decide) ?_
  refine xb_iast hx hb hK 3 rfl harr (i := 0) (vp_in_nI (show 0 < 6 by decide) (by decide)) d_U_init_76 (fun H lc hlc harr9 hz hq => ?_)
  replace harr : va_at g.1 vwCl (o + 6, .inl (g.2 3, 6, .inl (upd (fun _ => 0) 0 (-1)))) H := harr9
  replace hsz := hz.trans hsz
  replace hS := xw_Sput hS hz hq hlc (by (try dsimp only); omega)
  replace hat := xn_1 hat (fun q h1 h2 => hq q (by (try dsimp only at h1 h2); omega))
  replace hU := hU.k (fun q h1 h2 => hq q (by omega))
  clear harr9 hz hq hlc
  refine lv_dup hx hb d_U_init_77 rfl ?_
  refine lv_iconst (v := 1) hx hb d_U_init_78 (by decide) ?_
  refine lv_iconst (v := (-1)) hx hb d_U_init_79 (by decide) ?_
  refine xb_iast hx hb hK 3 rfl harr (i := 1) (vp_in_nI (show 1 < 6 by decide) (by decide)) d_U_init_80 (fun H lc hlc harr9 hz hq => ?_)
  replace harr : va_at g.1 vwCl (o + 6, .inl (g.2 3, 6, .inl (upd (upd (fun _ => 0) 0 (-1)) 1 (-1)))) H := harr9
  replace hsz := hz.trans hsz
  replace hS := xw_Sput hS hz hq hlc (by (try dsimp only); omega)
  replace hat := xn_1 hat (fun q h1 h2 => hq q (by (try dsimp only at h1 h2); omega))
  replace hU := hU.k (fun q h1 h2 => hq q (by omega))
  clear harr9 hz hq hlc
  refine lv_dup hx hb d_U_init_81 rfl ?_
  refine lv_iconst (v := 2) hx hb d_U_init_82 (by decide) ?_
  refine lv_iconst (v := (-1)) hx hb d_U_init_83 (by decide) ?_
  refine xb_iast hx hb hK 3 rfl harr (i := 2) (vp_in_nI (show 2 < 6 by decide) (by decide)) d_U_init_84 (fun H lc hlc harr9 hz hq => ?_)
  replace harr : va_at g.1 vwCl (o + 6, .inl (g.2 3, 6, .inl (upd (upd (upd (fun _ => 0) 0 (-1)) 1 (-1)) 2 (-1)))) H := harr9
  replace hsz := hz.trans hsz
  replace hS := xw_Sput hS hz hq hlc (by (try dsimp only); omega)
  replace hat := xn_1 hat (fun q h1 h2 => hq q (by (try dsimp only at h1 h2); omega))
  replace hU := hU.k (fun q h1 h2 => hq q (by omega))
  clear harr9 hz hq hlc
  refine lv_dup hx hb d_U_init_85 rfl ?_
  refine lv_iconst (v := 3) hx hb d_U_init_86 (by decide) ?_
  refine lv_iconst (v := (-1)) hx hb d_U_init_87 (by decide) ?_
  refine xb_iast hx hb hK 3 rfl harr (i := 3) (vp_in_nI (show 3 < 6 by decide) (by decide)) d_U_init_88 (fun H lc hlc harr9 hz hq => ?_)
  replace harr : va_at g.1 vwCl (o + 6, .inl (g.2 3, 6, .inl (upd (upd (upd (upd (fun _ => 0) 0 (-1)) 1 (-1)) 2 (-1)) 3 (-1)))) H := harr9
  replace hsz := hz.trans hsz
  replace hS := xw_Sput hS hz hq hlc (by (try dsimp only); omega)
  replace hat := xn_1 hat (fun q h1 h2 => hq q (by (try dsimp only at h1 h2); omega))
  replace hU := hU.k (fun q h1 h2 => hq q (by omega))
  clear harr9 hz hq hlc
  refine lv_dup hx hb d_U_init_89 rfl ?_
  refine lv_iconst (v := 4) hx hb d_U_init_90 (by decide) ?_
  refine lv_iconst (v := (-1)) hx hb d_U_init_91 (by decide) ?_
  refine xb_iast hx hb hK 3 rfl harr (i := 4) (vp_in_nI (show 4 < 6 by decide) (by decide)) d_U_init_92 (fun H lc hlc harr9 hz hq => ?_)
  replace harr : va_at g.1 vwCl (o + 6, .inl (g.2 3, 6, .inl (upd (upd (upd (upd (upd (fun _ => 0) 0 (-1)) 1 (-1)) 2 (-1)) 3 (-1)) 4 (-1)))) H := harr9
  replace hsz := hz.trans hsz
  replace hS := xw_Sput hS hz hq hlc (by (try dsimp only); omega)
  replace hat := xn_1 hat (fun q h1 h2 => hq q (by (try dsimp only at h1 h2); omega))
  replace hU := hU.k (fun q h1 h2 => hq q (by omega))
  clear harr9 hz hq hlc
  refine lv_dup hx hb d_U_init_93 rfl ?_
  refine lv_iconst (v := 5) hx hb d_U_init_94 (by decide) ?_
  refine lv_iconst (v := (-1)) hx hb d_U_init_95 (by decide) ?_
  refine xb_iast hx hb hK 3 rfl harr (i := 5) (vp_in_nI (show 5 < 6 by decide) (by decide)) d_U_init_96 (fun H lc hlc harr9 hz hq => ?_)
  replace harr : va_at g.1 vwCl (o + 6, .inl (g.2 3, 6, .inl (upd (upd (upd (upd (upd (upd (fun _ => 0) 0 (-1)) 1 (-1)) 2 (-1)) 3 (-1)) 4 (-1)) 5 (-1)))) H := harr9
  replace hsz := hz.trans hsz
  replace hS := xw_Sput hS hz hq hlc (by (try dsimp only); omega)
  replace hat := xn_1 hat (fun q h1 h2 => hq q (by (try dsimp only at h1 h2); omega))
  replace hU := hU.k (fun q h1 h2 => hq q (by omega))
  clear harr9 hz hq hlc
  replace harr : va_at g.1 vwCl (o + 6, .inl (g.2 3, 6, .inl (xu_a0 6))) H := xn_arrI harr (xn_six rfl)
  replace hU := hU.add harr
  clear harr
  refine xb_putF hx hb hts xw_in_U t_U t_U_ok n_U hown hK (ci := xi_U) rfl 6 (by decide) (hts _ lk_U_26) rfl rfl hin rfl hat rfl rfl (Nat.le_of_ble_eq_true rfl) d_U_init_97 (fun H lc hlc hat9 hz hq => ?_)
  replace hat : va_at g.1 vwCl (o, .inr (xi_U, [.int 0, .ref (o + 1), .ref (o + 2), .ref (o + 3), .ref (o + 4), .ref (o + 5), .ref (o + 6), .null, .null, .null, .int 0, .null, .null, .null, .null, .null, .null, .null, .null, .null, .null, .null, .null, .null, .null, .null, .int 0, .int 0, .int 0, .int 0, .int 0, .int 0, .int 0, .int 0])) H := hat9
  replace hsz := hz.trans hsz
  replace hS := xw_Sput hS hz hq hlc (by (try dsimp only); omega)
  replace hU := hU.k (fun q h1 h2 => hq q (by omega))
  clear hat9 hz hq hlc
  refine lv_aload_n hx hb d_U_init_100 rfl (lv_at hl 0 rfl) ?_
  refine lv_bipush (v := 6) hx hb d_U_init_101 (by decide) ?_
  refine xb_newz hx hb (hts _ ar_boolean) hK 4 rfl (by decide) (N' := 6) rfl (by decide) (by omega) (by omega) d_U_init_103 (fun H1 harr hz hq => ?_)
  rw [hsz] at harr hz hq ⊢
  replace hS := xw_Snew9 hS hsz hz hq
  replace hat := xn_1 hat (fun q h1 h2 => hq q (by (try dsimp only at h1 h2); omega))
  replace hU := hU.k (fun q h1 h2 => hq q (by omega))
  replace hsz := hz
  clear hz hq
  replace harr : va_at g.1 vwCl (o + 7, .inl (g.2 4, 6, .inl (fun _ => 0))) H1 := harr
  replace hU := hU.add harr
  clear harr
  refine xb_putF hx hb hts xw_in_U t_U t_U_ok n_U hown hK (ci := xi_U) rfl 7 (by decide) (hts _ lk_U_29) rfl rfl hin rfl hat rfl rfl (Nat.le_of_ble_eq_true rfl) d_U_init_105 (fun H lc hlc hat9 hz hq => ?_)
  replace hat : va_at g.1 vwCl (o, .inr (xi_U, [.int 0, .ref (o + 1), .ref (o + 2), .ref (o + 3), .ref (o + 4), .ref (o + 5), .ref (o + 6), .ref (o + 7), .null, .null, .int 0, .null, .null, .null, .null, .null, .null, .null, .null, .null, .null, .null, .null, .null, .null, .null, .int 0, .int 0, .int 0, .int 0, .int 0, .int 0, .int 0, .int 0])) H := hat9
  replace hsz := hz.trans hsz
  replace hS := xw_Sput hS hz hq hlc (by (try dsimp only); omega)
  replace hU := hU.k (fun q h1 h2 => hq q (by omega))
  clear hat9 hz hq hlc
  refine lv_aload_n hx hb d_U_init_108 rfl (lv_at hl 0 rfl) ?_
  refine lv_bipush (v := 6) hx hb d_U_init_109 (by decide) ?_
  refine xb_newa hx hb (hts _ ar_int) hK 3 rfl (by decide) (N' := 6) rfl (by decide) (by omega) (by omega) d_U_init_111 (fun H1 harr hz hq => ?_)
  rw [hsz] at harr hz hq ⊢
  replace hS := xw_Snew9 hS hsz hz hq
  replace hat := xn_1 hat (fun q h1 h2 => hq q (by (try dsimp only at h1 h2); omega))
  replace hU := hU.k (fun q h1 h2 => hq q (by omega))
  replace hsz := hz
  clear hz hq
  replace harr : va_at g.1 vwCl (o + 8, .inl (g.2 3, 6, .inl (fun _ => 0))) H1 := harr
  replace hU := hU.add harr
  clear harr
  refine xb_putF hx hb hts xw_in_U t_U t_U_ok n_U hown hK (ci := xi_U) rfl 8 (by decide) (hts _ lk_U_32) rfl rfl hin rfl hat rfl rfl (Nat.le_of_ble_eq_true rfl) d_U_init_113 (fun H lc hlc hat9 hz hq => ?_)
  replace hat : va_at g.1 vwCl (o, .inr (xi_U, [.int 0, .ref (o + 1), .ref (o + 2), .ref (o + 3), .ref (o + 4), .ref (o + 5), .ref (o + 6), .ref (o + 7), .ref (o + 8), .null, .int 0, .null, .null, .null, .null, .null, .null, .null, .null, .null, .null, .null, .null, .null, .null, .null, .int 0, .int 0, .int 0, .int 0, .int 0, .int 0, .int 0, .int 0])) H := hat9
  replace hsz := hz.trans hsz
  replace hS := xw_Sput hS hz hq hlc (by (try dsimp only); omega)
  replace hU := hU.k (fun q h1 h2 => hq q (by omega))
  clear hat9 hz hq hlc
  refine lv_aload_n hx hb d_U_init_116 rfl (lv_at hl 0 rfl) ?_
  refine lv_bipush (v := 6) hx hb d_U_init_117 (by decide) ?_
  refine xb_newa hx hb (hts _ ar_int) hK 3 rfl (by decide) (N' := 6) rfl (by decide) (by omega) (by omega) d_U_init_119 (fun H1 harr hz hq => ?_)
  rw [hsz] at harr hz hq ⊢
  replace hS := xw_Snew9 hS hsz hz hq
  replace hat := xn_1 hat (fun q h1 h2 => hq q (by (try dsimp only at h1 h2); omega))
  replace hU := hU.k (fun q h1 h2 => hq q (by omega))
  replace hsz := hz
  clear hz hq
  replace harr : va_at g.1 vwCl (o + 9, .inl (g.2 3, 6, .inl (fun _ => 0))) H1 := harr
  replace hU := hU.add harr
  clear harr
  refine xb_putF hx hb hts xw_in_U t_U t_U_ok n_U hown hK (ci := xi_U) rfl 9 (by decide) (hts _ lk_U_35) rfl rfl hin rfl hat rfl rfl (Nat.le_of_ble_eq_true rfl) d_U_init_121 (fun H lc hlc hat9 hz hq => ?_)
  replace hat : va_at g.1 vwCl (o, .inr (xi_U, [.int 0, .ref (o + 1), .ref (o + 2), .ref (o + 3), .ref (o + 4), .ref (o + 5), .ref (o + 6), .ref (o + 7), .ref (o + 8), .ref (o + 9), .int 0, .null, .null, .null, .null, .null, .null, .null, .null, .null, .null, .null, .null, .null, .null, .null, .int 0, .int 0, .int 0, .int 0, .int 0, .int 0, .int 0, .int 0])) H := hat9
  replace hsz := hz.trans hsz
  replace hS := xw_Sput hS hz hq hlc (by (try dsimp only); omega)
  replace hU := hU.k (fun q h1 h2 => hq q (by omega))
  clear hat9 hz hq hlc
  refine lv_aload_n hx hb d_U_init_124 rfl (lv_at hl 0 rfl) ?_
  refine lv_bipush (v := 60) hx hb d_U_init_125 (by decide) ?_
  refine xb_newa hx hb (hts _ ar_int) hK 3 rfl (by decide) (N' := 60) rfl (by decide) (by omega) (by omega) d_U_init_127 (fun H1 harr hz hq => ?_)
  rw [hsz] at harr hz hq ⊢
  replace hS := xw_Snew9 hS hsz hz hq
  replace hat := xn_1 hat (fun q h1 h2 => hq q (by (try dsimp only at h1 h2); omega))
  replace hU := hU.k (fun q h1 h2 => hq q (by omega))
  replace hsz := hz
  clear hz hq
  replace harr : va_at g.1 vwCl (o + 10, .inl (g.2 3, 60, .inl (fun _ => 0))) H1 := harr
  replace hU := hU.add harr
  clear harr
  refine xb_putF hx hb hts xw_in_U t_U t_U_ok n_U hown hK (ci := xi_U) rfl 11 (by decide) (hts _ lk_U_38) rfl rfl hin rfl hat rfl rfl (Nat.le_of_ble_eq_true rfl) d_U_init_129 (fun H lc hlc hat9 hz hq => ?_)
  replace hat : va_at g.1 vwCl (o, .inr (xi_U, [.int 0, .ref (o + 1), .ref (o + 2), .ref (o + 3), .ref (o + 4), .ref (o + 5), .ref (o + 6), .ref (o + 7), .ref (o + 8), .ref (o + 9), .int 0, .ref (o + 10), .null, .null, .null, .null, .null, .null, .null, .null, .null, .null, .null, .null, .null, .null, .int 0, .int 0, .int 0, .int 0, .int 0, .int 0, .int 0, .int 0])) H := hat9
  replace hsz := hz.trans hsz
  replace hS := xw_Sput hS hz hq hlc (by (try dsimp only); omega)
  replace hU := hU.k (fun q h1 h2 => hq q (by omega))
  clear hat9 hz hq hlc
  refine lv_aload_n hx hb d_U_init_132 rfl (lv_at hl 0 rfl) ?_
  refine lv_bipush (v := 60) hx hb d_U_init_133 (by decide) ?_
  refine xb_newa hx hb (hts _ ar_int) hK 3 rfl (by decide) (N' := 60) rfl (by decide) (by omega) (by omega) d_U_init_135 (fun H1 harr hz hq => ?_)
  rw [hsz] at harr hz hq ⊢
  replace hS := xw_Snew9 hS hsz hz hq
  replace hat := xn_1 hat (fun q h1 h2 => hq q (by (try dsimp only at h1 h2); omega))
  replace hU := hU.k (fun q h1 h2 => hq q (by omega))
  replace hsz := hz
  clear hz hq
  replace harr : va_at g.1 vwCl (o + 11, .inl (g.2 3, 60, .inl (fun _ => 0))) H1 := harr
  replace hU := hU.add harr
  clear harr
  refine xb_putF hx hb hts xw_in_U t_U t_U_ok n_U hown hK (ci := xi_U) rfl 12 (by decide) (hts _ lk_U_41) rfl rfl hin rfl hat rfl rfl (Nat.le_of_ble_eq_true rfl) d_U_init_137 (fun H lc hlc hat9 hz hq => ?_)
  replace hat : va_at g.1 vwCl (o, .inr (xi_U, [.int 0, .ref (o + 1), .ref (o + 2), .ref (o + 3), .ref (o + 4), .ref (o + 5), .ref (o + 6), .ref (o + 7), .ref (o + 8), .ref (o + 9), .int 0, .ref (o + 10), .ref (o + 11), .null, .null, .null, .null, .null, .null, .null, .null, .null, .null, .null, .null, .null, .int 0, .int 0, .int 0, .int 0, .int 0, .int 0, .int 0, .int 0])) H := hat9
  replace hsz := hz.trans hsz
  replace hS := xw_Sput hS hz hq hlc (by (try dsimp only); omega)
  replace hU := hU.k (fun q h1 h2 => hq q (by omega))
  clear hat9 hz hq hlc
  refine lv_aload_n hx hb d_U_init_140 rfl (lv_at hl 0 rfl) ?_
  refine lv_bipush (v := 60) hx hb d_U_init_141 (by decide) ?_
  refine xb_newa hx hb (hts _ ar_int) hK 3 rfl (by decide) (N' := 60) rfl (by decide) (by omega) (by omega) d_U_init_143 (fun H1 harr hz hq => ?_)
  rw [hsz] at harr hz hq ⊢
  replace hS := xw_Snew9 hS hsz hz hq
  replace hat := xn_1 hat (fun q h1 h2 => hq q (by (try dsimp only at h1 h2); omega))
  replace hU := hU.k (fun q h1 h2 => hq q (by omega))
  replace hsz := hz
  clear hz hq
  replace harr : va_at g.1 vwCl (o + 12, .inl (g.2 3, 60, .inl (fun _ => 0))) H1 := harr
  replace hU := hU.add harr
  clear harr
  refine xb_putF hx hb hts xw_in_U t_U t_U_ok n_U hown hK (ci := xi_U) rfl 13 (by decide) (hts _ lk_U_44) rfl rfl hin rfl hat rfl rfl (Nat.le_of_ble_eq_true rfl) d_U_init_145 (fun H lc hlc hat9 hz hq => ?_)
  replace hat : va_at g.1 vwCl (o, .inr (xi_U, [.int 0, .ref (o + 1), .ref (o + 2), .ref (o + 3), .ref (o + 4), .ref (o + 5), .ref (o + 6), .ref (o + 7), .ref (o + 8), .ref (o + 9), .int 0, .ref (o + 10), .ref (o + 11), .ref (o + 12), .null, .null, .null, .null, .null, .null, .null, .null, .null, .null, .null, .null, .int 0, .int 0, .int 0, .int 0, .int 0, .int 0, .int 0, .int 0])) H := hat9
  replace hsz := hz.trans hsz
  replace hS := xw_Sput hS hz hq hlc (by (try dsimp only); omega)
  replace hU := hU.k (fun q h1 h2 => hq q (by omega))
  clear hat9 hz hq hlc
  refine lv_aload_n hx hb d_U_init_148 rfl (lv_at hl 0 rfl) ?_
  refine lv_bipush (v := 60) hx hb d_U_init_149 (by decide) ?_
  refine xb_newa hx hb (hts _ ar_int) hK 3 rfl (by decide) (N' := 60) rfl (by decide) (by omega) (by omega) d_U_init_151 (fun H1 harr hz hq => ?_)
  rw [hsz] at harr hz hq ⊢
  replace hS := xw_Snew9 hS hsz hz hq
  replace hat := xn_1 hat (fun q h1 h2 => hq q (by (try dsimp only at h1 h2); omega))
  replace hU := hU.k (fun q h1 h2 => hq q (by omega))
  replace hsz := hz
  clear hz hq
  replace harr : va_at g.1 vwCl (o + 13, .inl (g.2 3, 60, .inl (fun _ => 0))) H1 := harr
  replace hU := hU.add harr
  clear harr
  refine xb_putF hx hb hts xw_in_U t_U t_U_ok n_U hown hK (ci := xi_U) rfl 14 (by decide) (hts _ lk_U_47) rfl rfl hin rfl hat rfl rfl (Nat.le_of_ble_eq_true rfl) d_U_init_153 (fun H lc hlc hat9 hz hq => ?_)
  replace hat : va_at g.1 vwCl (o, .inr (xi_U, [.int 0, .ref (o + 1), .ref (o + 2), .ref (o + 3), .ref (o + 4), .ref (o + 5), .ref (o + 6), .ref (o + 7), .ref (o + 8), .ref (o + 9), .int 0, .ref (o + 10), .ref (o + 11), .ref (o + 12), .ref (o + 13), .null, .null, .null, .null, .null, .null, .null, .null, .null, .null, .null, .int 0, .int 0, .int 0, .int 0, .int 0, .int 0, .int 0, .int 0])) H := hat9
  replace hsz := hz.trans hsz
  replace hS := xw_Sput hS hz hq hlc (by (try dsimp only); omega)
  replace hU := hU.k (fun q h1 h2 => hq q (by omega))
  clear hat9 hz hq hlc
  refine lv_aload_n hx hb d_U_init_156 rfl (lv_at hl 0 rfl) ?_
  refine lv_bipush (v := 6) hx hb d_U_init_157 (by decide) ?_
  refine xb_newa hx hb (hts _ ar_int) hK 3 rfl (by decide) (N' := 6) rfl (by decide) (by omega) (by omega) d_U_init_159 (fun H1 harr hz hq => ?_)
  rw [hsz] at harr hz hq ⊢
  replace hS := xw_Snew9 hS hsz hz hq
  replace hat := xn_1 hat (fun q h1 h2 => hq q (by (try dsimp only at h1 h2); omega))
  replace hU := hU.k (fun q h1 h2 => hq q (by omega))
  replace hsz := hz
  clear hz hq
  replace harr : va_at g.1 vwCl (o + 14, .inl (g.2 3, 6, .inl (fun _ => 0))) H1 := harr
  replace hU := hU.add harr
  clear harr
  refine xb_putF hx hb hts xw_in_U t_U t_U_ok n_U hown hK (ci := xi_U) rfl 15 (by decide) (hts _ lk_U_50) rfl rfl hin rfl hat rfl rfl (Nat.le_of_ble_eq_true rfl) d_U_init_161 (fun H lc hlc hat9 hz hq => ?_)
  replace hat : va_at g.1 vwCl (o, .inr (xi_U, [.int 0, .ref (o + 1), .ref (o + 2), .ref (o + 3), .ref (o + 4), .ref (o + 5), .ref (o + 6), .ref (o + 7), .ref (o + 8), .ref (o + 9), .int 0, .ref (o + 10), .ref (o + 11), .ref (o + 12), .ref (o + 13), .ref (o + 14), .null, .null, .null, .null, .null, .null, .null, .null, .null, .null, .int 0, .int 0, .int 0, .int 0, .int 0, .int 0, .int 0, .int 0])) H := hat9
  replace hsz := hz.trans hsz
  replace hS := xw_Sput hS hz hq hlc (by (try dsimp only); omega)
  replace hU := hU.k (fun q h1 h2 => hq q (by omega))
  clear hat9 hz hq hlc
  refine lv_aload_n hx hb d_U_init_164 rfl (lv_at hl 0 rfl) ?_
  refine lv_bipush (v := 32) hx hb d_U_init_165 (by decide) ?_
  refine xb_newa hx hb (hts _ ar_int) hK 3 rfl (by decide) (N' := 32) rfl (by decide) (by omega) (by omega) d_U_init_167 (fun H1 harr hz hq => ?_)
  rw [hsz] at harr hz hq ⊢
  replace hS := xw_Snew9 hS hsz hz hq
  replace hat := xn_1 hat (fun q h1 h2 => hq q (by (try dsimp only at h1 h2); omega))
  replace hU := hU.k (fun q h1 h2 => hq q (by omega))
  replace hsz := hz
  clear hz hq
  replace harr : va_at g.1 vwCl (o + 15, .inl (g.2 3, 32, .inl (fun _ => 0))) H1 := harr
  replace hU := hU.add harr
  clear harr
  refine xb_putF hx hb hts xw_in_U t_U t_U_ok n_U hown hK (ci := xi_U) rfl 16 (by decide) (hts _ lk_U_53) rfl rfl hin rfl hat rfl rfl (Nat.le_of_ble_eq_true rfl) d_U_init_169 (fun H lc hlc hat9 hz hq => ?_)
  replace hat : va_at g.1 vwCl (o, .inr (xi_U, [.int 0, .ref (o + 1), .ref (o + 2), .ref (o + 3), .ref (o + 4), .ref (o + 5), .ref (o + 6), .ref (o + 7), .ref (o + 8), .ref (o + 9), .int 0, .ref (o + 10), .ref (o + 11), .ref (o + 12), .ref (o + 13), .ref (o + 14), .ref (o + 15), .null, .null, .null, .null, .null, .null, .null, .null, .null, .int 0, .int 0, .int 0, .int 0, .int 0, .int 0, .int 0, .int 0])) H := hat9
  replace hsz := hz.trans hsz
  replace hS := xw_Sput hS hz hq hlc (by (try dsimp only); omega)
  replace hU := hU.k (fun q h1 h2 => hq q (by omega))
  clear hat9 hz hq hlc
  refine lv_aload_n hx hb d_U_init_172 rfl (lv_at hl 0 rfl) ?_
  refine lv_bipush (v := 32) hx hb d_U_init_173 (by decide) ?_
  refine xb_newa hx hb (hts _ ar_int) hK 3 rfl (by decide) (N' := 32) rfl (by decide) (by omega) (by omega) d_U_init_175 (fun H1 harr hz hq => ?_)
  rw [hsz] at harr hz hq ⊢
  replace hS := xw_Snew9 hS hsz hz hq
  replace hat := xn_1 hat (fun q h1 h2 => hq q (by (try dsimp only at h1 h2); omega))
  replace hU := hU.k (fun q h1 h2 => hq q (by omega))
  replace hsz := hz
  clear hz hq
  replace harr : va_at g.1 vwCl (o + 16, .inl (g.2 3, 32, .inl (fun _ => 0))) H1 := harr
  replace hU := hU.add harr
  clear harr
  refine xb_putF hx hb hts xw_in_U t_U t_U_ok n_U hown hK (ci := xi_U) rfl 17 (by decide) (hts _ lk_U_56) rfl rfl hin rfl hat rfl rfl (Nat.le_of_ble_eq_true rfl) d_U_init_177 (fun H lc hlc hat9 hz hq => ?_)
  replace hat : va_at g.1 vwCl (o, .inr (xi_U, [.int 0, .ref (o + 1), .ref (o + 2), .ref (o + 3), .ref (o + 4), .ref (o + 5), .ref (o + 6), .ref (o + 7), .ref (o + 8), .ref (o + 9), .int 0, .ref (o + 10), .ref (o + 11), .ref (o + 12), .ref (o + 13), .ref (o + 14), .ref (o + 15), .ref (o + 16), .null, .null, .null, .null, .null, .null, .null, .null, .int 0, .int 0, .int 0, .int 0, .int 0, .int 0, .int 0, .int 0])) H := hat9
  replace hsz := hz.trans hsz
  replace hS := xw_Sput hS hz hq hlc (by (try dsimp only); omega)
  replace hU := hU.k (fun q h1 h2 => hq q (by omega))
  clear hat9 hz hq hlc
  refine lv_aload_n hx hb d_U_init_180 rfl (lv_at hl 0 rfl) ?_
  refine lv_bipush (v := 32) hx hb d_U_init_181 (by decide) ?_
  refine xb_newa hx hb (hts _ ar_int) hK 3 rfl (by decide) (N' := 32) rfl (by decide) (by omega) (by omega) d_U_init_183 (fun H1 harr hz hq => ?_)
  rw [hsz] at harr hz hq ⊢
  replace hS := xw_Snew9 hS hsz hz hq
  replace hat := xn_1 hat (fun q h1 h2 => hq q (by (try dsimp only at h1 h2); omega))
  replace hU := hU.k (fun q h1 h2 => hq q (by omega))
  replace hsz := hz
  clear hz hq
  replace harr : va_at g.1 vwCl (o + 17, .inl (g.2 3, 32, .inl (fun _ => 0))) H1 := harr
  replace hU := hU.add harr
  clear harr
  refine xb_putF hx hb hts xw_in_U t_U t_U_ok n_U hown hK (ci := xi_U) rfl 18 (by decide) (hts _ lk_U_59) rfl rfl hin rfl hat rfl rfl (Nat.le_of_ble_eq_true rfl) d_U_init_185 (fun H lc hlc hat9 hz hq => ?_)
  replace hat : va_at g.1 vwCl (o, .inr (xi_U, [.int 0, .ref (o + 1), .ref (o + 2), .ref (o + 3), .ref (o + 4), .ref (o + 5), .ref (o + 6), .ref (o + 7), .ref (o + 8), .ref (o + 9), .int 0, .ref (o + 10), .ref (o + 11), .ref (o + 12), .ref (o + 13), .ref (o + 14), .ref (o + 15), .ref (o + 16), .ref (o + 17), .null, .null, .null, .null, .null, .null, .null, .int 0, .int 0, .int 0, .int 0, .int 0, .int 0, .int 0, .int 0])) H := hat9
  replace hsz := hz.trans hsz
  replace hS := xw_Sput hS hz hq hlc (by (try dsimp only); omega)
  replace hU := hU.k (fun q h1 h2 => hq q (by omega))
  clear hat9 hz hq hlc
  refine lv_aload_n hx hb d_U_init_188 rfl (lv_at hl 0 rfl) ?_
  refine lv_bipush (v := 8) hx hb d_U_init_189 (by decide) ?_
  refine xb_newa hx hb (hts _ ar_int) hK 3 rfl (by decide) (N' := 8) rfl (by decide) (by omega) (by omega) d_U_init_191 (fun H1 harr hz hq => ?_)
  rw [hsz] at harr hz hq ⊢
  replace hS := xw_Snew9 hS hsz hz hq
  replace hat := xn_1 hat (fun q h1 h2 => hq q (by (try dsimp only at h1 h2); omega))
  replace hU := hU.k (fun q h1 h2 => hq q (by omega))
  replace hsz := hz
  clear hz hq
  replace harr : va_at g.1 vwCl (o + 18, .inl (g.2 3, 8, .inl (fun _ => 0))) H1 := harr
  replace hU := hU.add harr
  clear harr
  refine xb_putF hx hb hts xw_in_U t_U t_U_ok n_U hown hK (ci := xi_U) rfl 19 (by decide) (hts _ lk_U_62) rfl rfl hin rfl hat rfl rfl (Nat.le_of_ble_eq_true rfl) d_U_init_193 (fun H lc hlc hat9 hz hq => ?_)
  replace hat : va_at g.1 vwCl (o, .inr (xi_U, [.int 0, .ref (o + 1), .ref (o + 2), .ref (o + 3), .ref (o + 4), .ref (o + 5), .ref (o + 6), .ref (o + 7), .ref (o + 8), .ref (o + 9), .int 0, .ref (o + 10), .ref (o + 11), .ref (o + 12), .ref (o + 13), .ref (o + 14), .ref (o + 15), .ref (o + 16), .ref (o + 17), .ref (o + 18), .null, .null, .null, .null, .null, .null, .int 0, .int 0, .int 0, .int 0, .int 0, .int 0, .int 0, .int 0])) H := hat9
  replace hsz := hz.trans hsz
  replace hS := xw_Sput hS hz hq hlc (by (try dsimp only); omega)
  replace hU := hU.k (fun q h1 h2 => hq q (by omega))
  clear hat9 hz hq hlc
  refine lv_aload_n hx hb d_U_init_196 rfl (lv_at hl 0 rfl) ?_
  refine lv_bipush (v := 8) hx hb d_U_init_197 (by decide) ?_
  refine xb_newa hx hb (hts _ ar_int) hK 3 rfl (by decide) (N' := 8) rfl (by decide) (by omega) (by omega) d_U_init_199 (fun H1 harr hz hq => ?_)
  rw [hsz] at harr hz hq ⊢
  replace hS := xw_Snew9 hS hsz hz hq
  replace hat := xn_1 hat (fun q h1 h2 => hq q (by (try dsimp only at h1 h2); omega))
  replace hU := hU.k (fun q h1 h2 => hq q (by omega))
  replace hsz := hz
  clear hz hq
  replace harr : va_at g.1 vwCl (o + 19, .inl (g.2 3, 8, .inl (fun _ => 0))) H1 := harr
  replace hU := hU.add harr
  clear harr
  refine xb_putF hx hb hts xw_in_U t_U t_U_ok n_U hown hK (ci := xi_U) rfl 20 (by decide) (hts _ lk_U_65) rfl rfl hin rfl hat rfl rfl (Nat.le_of_ble_eq_true rfl) d_U_init_201 (fun H lc hlc hat9 hz hq => ?_)
  replace hat : va_at g.1 vwCl (o, .inr (xi_U, [.int 0, .ref (o + 1), .ref (o + 2), .ref (o + 3), .ref (o + 4), .ref (o + 5), .ref (o + 6), .ref (o + 7), .ref (o + 8), .ref (o + 9), .int 0, .ref (o + 10), .ref (o + 11), .ref (o + 12), .ref (o + 13), .ref (o + 14), .ref (o + 15), .ref (o + 16), .ref (o + 17), .ref (o + 18), .ref (o + 19), .null, .null, .null, .null, .null, .int 0, .int 0, .int 0, .int 0, .int 0, .int 0, .int 0, .int 0])) H := hat9
  replace hsz := hz.trans hsz
  replace hS := xw_Sput hS hz hq hlc (by (try dsimp only); omega)
  replace hU := hU.k (fun q h1 h2 => hq q (by omega))
  clear hat9 hz hq hlc
  refine lv_aload_n hx hb d_U_init_204 rfl (lv_at hl 0 rfl) ?_
  refine lv_bipush (v := 8) hx hb d_U_init_205 (by decide) ?_
  refine xb_newa hx hb (hts _ ar_int) hK 3 rfl (by decide) (N' := 8) rfl (by decide) (by omega) (by omega) d_U_init_207 (fun H1 harr hz hq => ?_)
  rw [hsz] at harr hz hq ⊢
  replace hS := xw_Snew9 hS hsz hz hq
  replace hat := xn_1 hat (fun q h1 h2 => hq q (by (try dsimp only at h1 h2); omega))
  replace hU := hU.k (fun q h1 h2 => hq q (by omega))
  replace hsz := hz
  clear hz hq
  replace harr : va_at g.1 vwCl (o + 20, .inl (g.2 3, 8, .inl (fun _ => 0))) H1 := harr
  replace hU := hU.add harr
  clear harr
  refine xb_putF hx hb hts xw_in_U t_U t_U_ok n_U hown hK (ci := xi_U) rfl 21 (by decide) (hts _ lk_U_68) rfl rfl hin rfl hat rfl rfl (Nat.le_of_ble_eq_true rfl) d_U_init_209 (fun H lc hlc hat9 hz hq => ?_)
  replace hat : va_at g.1 vwCl (o, .inr (xi_U, [.int 0, .ref (o + 1), .ref (o + 2), .ref (o + 3), .ref (o + 4), .ref (o + 5), .ref (o + 6), .ref (o + 7), .ref (o + 8), .ref (o + 9), .int 0, .ref (o + 10), .ref (o + 11), .ref (o + 12), .ref (o + 13), .ref (o + 14), .ref (o + 15), .ref (o + 16), .ref (o + 17), .ref (o + 18), .ref (o + 19), .ref (o + 20), .null, .null, .null, .null, .int 0, .int 0, .int 0, .int 0, .int 0, .int 0, .int 0, .int 0])) H := hat9
  replace hsz := hz.trans hsz
  replace hS := xw_Sput hS hz hq hlc (by (try dsimp only); omega)
  replace hU := hU.k (fun q h1 h2 => hq q (by omega))
  clear hat9 hz hq hlc
  refine lv_aload_n hx hb d_U_init_212 rfl (lv_at hl 0 rfl) ?_
  refine lv_bipush (v := 8) hx hb d_U_init_213 (by decide) ?_
  refine xb_newa hx hb (hts _ ar_int) hK 3 rfl (by decide) (N' := 8) rfl (by decide) (by omega) (by omega) d_U_init_215 (fun H1 harr hz hq => ?_)
  rw [hsz] at harr hz hq ⊢
  replace hS := xw_Snew9 hS hsz hz hq
  replace hat := xn_1 hat (fun q h1 h2 => hq q (by (try dsimp only at h1 h2); omega))
  replace hU := hU.k (fun q h1 h2 => hq q (by omega))
  replace hsz := hz
  clear hz hq
  replace harr : va_at g.1 vwCl (o + 21, .inl (g.2 3, 8, .inl (fun _ => 0))) H1 := harr
  replace hU := hU.add harr
  clear harr
  refine xb_putF hx hb hts xw_in_U t_U t_U_ok n_U hown hK (ci := xi_U) rfl 22 (by decide) (hts _ lk_U_71) rfl rfl hin rfl hat rfl rfl (Nat.le_of_ble_eq_true rfl) d_U_init_217 (fun H lc hlc hat9 hz hq => ?_)
  replace hat : va_at g.1 vwCl (o, .inr (xi_U, [.int 0, .ref (o + 1), .ref (o + 2), .ref (o + 3), .ref (o + 4), .ref (o + 5), .ref (o + 6), .ref (o + 7), .ref (o + 8), .ref (o + 9), .int 0, .ref (o + 10), .ref (o + 11), .ref (o + 12), .ref (o + 13), .ref (o + 14), .ref (o + 15), .ref (o + 16), .ref (o + 17), .ref (o + 18), .ref (o + 19), .ref (o + 20), .ref (o + 21), .null, .null, .null, .int 0, .int 0, .int 0, .int 0, .int 0, .int 0, .int 0, .int 0])) H := hat9
  replace hsz := hz.trans hsz
  replace hS := xw_Sput hS hz hq hlc (by (try dsimp only); omega)
  replace hU := hU.k (fun q h1 h2 => hq q (by omega))
  clear hat9 hz hq hlc
  refine lv_aload_n hx hb d_U_init_220 rfl (lv_at hl 0 rfl) ?_
  refine lv_bipush (v := 8) hx hb d_U_init_221 (by decide) ?_
  refine xb_newa hx hb (hts _ ar_int) hK 3 rfl (by decide) (N' := 8) rfl (by decide) (by omega) (by omega) d_U_init_223 (fun H1 harr hz hq => ?_)
  rw [hsz] at harr hz hq ⊢
  replace hS := xw_Snew9 hS hsz hz hq
  replace hat := xn_1 hat (fun q h1 h2 => hq q (by (try dsimp only at h1 h2); omega))
  replace hU := hU.k (fun q h1 h2 => hq q (by omega))
  replace hsz := hz
  clear hz hq
  replace harr : va_at g.1 vwCl (o + 22, .inl (g.2 3, 8, .inl (fun _ => 0))) H1 := harr
  replace hU := hU.add harr
  clear harr
  refine xb_putF hx hb hts xw_in_U t_U t_U_ok n_U hown hK (ci := xi_U) rfl 23 (by decide) (hts _ lk_U_74) rfl rfl hin rfl hat rfl rfl (Nat.le_of_ble_eq_true rfl) d_U_init_225 (fun H lc hlc hat9 hz hq => ?_)
  replace hat : va_at g.1 vwCl (o, .inr (xi_U, [.int 0, .ref (o + 1), .ref (o + 2), .ref (o + 3), .ref (o + 4), .ref (o + 5), .ref (o + 6), .ref (o + 7), .ref (o + 8), .ref (o + 9), .int 0, .ref (o + 10), .ref (o + 11), .ref (o + 12), .ref (o + 13), .ref (o + 14), .ref (o + 15), .ref (o + 16), .ref (o + 17), .ref (o + 18), .ref (o + 19), .ref (o + 20), .ref (o + 21), .ref (o + 22), .null, .null, .int 0, .int 0, .int 0, .int 0, .int 0, .int 0, .int 0, .int 0])) H := hat9
  replace hsz := hz.trans hsz
  replace hS := xw_Sput hS hz hq hlc (by (try dsimp only); omega)
  replace hU := hU.k (fun q h1 h2 => hq q (by omega))
  clear hat9 hz hq hlc
  refine lv_aload_n hx hb d_U_init_228 rfl (lv_at hl 0 rfl) ?_
  refine lv_bipush (v := 8) hx hb d_U_init_229 (by decide) ?_
  refine xb_newa hx hb (hts _ ar_int) hK 3 rfl (by decide) (N' := 8) rfl (by decide) (by omega) (by omega) d_U_init_231 (fun H1 harr hz hq => ?_)
  rw [hsz] at harr hz hq ⊢
  replace hS := xw_Snew9 hS hsz hz hq
  replace hat := xn_1 hat (fun q h1 h2 => hq q (by (try dsimp only at h1 h2); omega))
  replace hU := hU.k (fun q h1 h2 => hq q (by omega))
  replace hsz := hz
  clear hz hq
  replace harr : va_at g.1 vwCl (o + 23, .inl (g.2 3, 8, .inl (fun _ => 0))) H1 := harr
  replace hU := hU.add harr
  clear harr
  refine xb_putF hx hb hts xw_in_U t_U t_U_ok n_U hown hK (ci := xi_U) rfl 24 (by decide) (hts _ lk_U_77) rfl rfl hin rfl hat rfl rfl (Nat.le_of_ble_eq_true rfl) d_U_init_233 (fun H lc hlc hat9 hz hq => ?_)
  replace hat : va_at g.1 vwCl (o, .inr (xi_U, [.int 0, .ref (o + 1), .ref (o + 2), .ref (o + 3), .ref (o + 4), .ref (o + 5), .ref (o + 6), .ref (o + 7), .ref (o + 8), .ref (o + 9), .int 0, .ref (o + 10), .ref (o + 11), .ref (o + 12), .ref (o + 13), .ref (o + 14), .ref (o + 15), .ref (o + 16), .ref (o + 17), .ref (o + 18), .ref (o + 19), .ref (o + 20), .ref (o + 21), .ref (o + 22), .ref (o + 23), .null, .int 0, .int 0, .int 0, .int 0, .int 0, .int 0, .int 0, .int 0])) H := hat9
  replace hsz := hz.trans hsz
  replace hS := xw_Sput hS hz hq hlc (by (try dsimp only); omega)
  replace hU := hU.k (fun q h1 h2 => hq q (by omega))
  clear hat9 hz hq hlc
  refine lv_aload_n hx hb d_U_init_236 rfl (lv_at hl 0 rfl) ?_
  refine lv_bipush (v := 8) hx hb d_U_init_237 (by decide) ?_
  refine xb_newa hx hb (hts _ ar_int) hK 3 rfl (by decide) (N' := 8) rfl (by decide) (by omega) (by omega) d_U_init_239 (fun H1 harr hz hq => ?_)
  rw [hsz] at harr hz hq ⊢
  replace hS := xw_Snew9 hS hsz hz hq
  replace hat := xn_1 hat (fun q h1 h2 => hq q (by (try dsimp only at h1 h2); omega))
  replace hU := hU.k (fun q h1 h2 => hq q (by omega))
  replace hsz := hz
  clear hz hq
  replace harr : va_at g.1 vwCl (o + 24, .inl (g.2 3, 8, .inl (fun _ => 0))) H1 := harr
  replace hU := hU.add harr
  clear harr
  refine xb_putF hx hb hts xw_in_U t_U t_U_ok n_U hown hK (ci := xi_U) rfl 25 (by decide) (hts _ lk_U_80) rfl rfl hin rfl hat rfl rfl (Nat.le_of_ble_eq_true rfl) d_U_init_241 (fun H lc hlc hat9 hz hq => ?_)
  replace hat : va_at g.1 vwCl (o, .inr (xi_U, [.int 0, .ref (o + 1), .ref (o + 2), .ref (o + 3), .ref (o + 4), .ref (o + 5), .ref (o + 6), .ref (o + 7), .ref (o + 8), .ref (o + 9), .int 0, .ref (o + 10), .ref (o + 11), .ref (o + 12), .ref (o + 13), .ref (o + 14), .ref (o + 15), .ref (o + 16), .ref (o + 17), .ref (o + 18), .ref (o + 19), .ref (o + 20), .ref (o + 21), .ref (o + 22), .ref (o + 23), .ref (o + 24), .int 0, .int 0, .int 0, .int 0, .int 0, .int 0, .int 0, .int 0])) H := hat9
  replace hsz := hz.trans hsz
  replace hS := xw_Sput hS hz hq hlc (by (try dsimp only); omega)
  replace hU := hU.k (fun q h1 h2 => hq q (by omega))
  clear hat9 hz hq hlc
  refine lv_aload_n hx hb d_U_init_244 rfl (lv_at hl 0 rfl) ?_
  refine lv_iconst (v := 1) hx hb d_U_init_245 (by decide) ?_
  refine xb_put hx hb hts xw_in_U t_U t_U_ok n_U hown hK (ci := xi_U) rfl 27 (by decide) (hts _ lk_U_83) rfl rfl hat rfl rfl (Nat.le_of_ble_eq_true rfl) d_U_init_246 (fun H lc hlc hat9 hz hq => ?_)
  replace hat : va_at g.1 vwCl (o, .inr (xi_U, [.int 0, .ref (o + 1), .ref (o + 2), .ref (o + 3), .ref (o + 4), .ref (o + 5), .ref (o + 6), .ref (o + 7), .ref (o + 8), .ref (o + 9), .int 0, .ref (o + 10), .ref (o + 11), .ref (o + 12), .ref (o + 13), .ref (o + 14), .ref (o + 15), .ref (o + 16), .ref (o + 17), .ref (o + 18), .ref (o + 19), .ref (o + 20), .ref (o + 21), .ref (o + 22), .ref (o + 23), .ref (o + 24), .int 0, .int 1, .int 0, .int 0, .int 0, .int 0, .int 0, .int 0])) H := hat9
  replace hsz := hz.trans hsz
  replace hS := xw_Sput hS hz hq hlc (by (try dsimp only); omega)
  replace hU := hU.k (fun q h1 h2 => hq q (by omega))
  clear hat9 hz hq hlc
  exact xr_N (Post := fun H => H.size = o + 25 ∧ va_at g.1 vwCl (o, .inr (xi_U, xu_O o (0, 0, 0, 1, 0, 0, 0, 0, 0, 0))) H ∧ xn_U g o 25 H) hC hS (by omega) (by omega) ⟨hsz, hat, hU⟩ d_U_init_249
