section XLM
variable {p : Program} {l : Launch} {e : Env} {R : Room} {s : State} {m : MethodId} {below : List Frame} {meth : Method} {c : Code} {H : Heap} {locs : List Loc} {Q : State → Prop}
variable {ls : Array Slot} {g : xw_G} {b L j n : Nat} {xs : Nat → Int32} {σ : xs_S} {th rp : Int32} {t : xu_X} {a : xu_M} {f : Nat → Int64}
set_option maxHeartbeats 4000000 in
set_option maxRecDepth 100000 in
theorem k_L_register (hsl : l.stackTraces = false) (hR : R.frames = 12 ∧ R.locals = 454 ∧ R.cells = 646917 ∧ R.slots = 7155354) (E : xl_E g p s m meth c b L xs) (hj : 5 * j + 5 ≤ L) (hL : L ≤ 2560) (hV : xl_V g s j σ th rp n t a f H locs) (hl : lv_has ls 7 (xl_lv b s.heap.size (nI (5 * j)))) (kk : xl_kk p l e R s m b below meth c Q g j) : W p l e R s m #[Value.ref b] below meth c H locs (82 + 66 * j) (1000 + 396 * j) Q (F0 m 116 ls []) := by
  obtain ⟨hRf, hRl, hRc, hRs⟩ := id hR
  obtain ⟨hC, hK, hT, hN, hX0, hbl⟩ := id E
  obtain ⟨hx, hb, hml, hr, hown, hts, hlk⟩ := id hC
  obtain ⟨hX, hU, hO, hS, hI, hn⟩ := hV
  obtain ⟨x, ev1⟩ : ∃ v, xs (nI (5 * j) + 1).toNatClampNeg = v := ⟨_, rfl⟩
  have hi1 : vp_in (nI (5 * j) + 1) L := xl_in (k := 1) rfl (by decide) hj hL
  obtain ⟨y, ev2⟩ : ∃ v, xs (nI (5 * j) + 2).toNatClampNeg = v := ⟨_, rfl⟩
  have hi2 : vp_in (nI (5 * j) + 2) L := xl_in (k := 2) rfl (by decide) hj hL
  refine lv_aload_n hx hb d_L_law_116 rfl (lv_at hl 1 rfl) ?_
  refine lv_aload_n hx hb d_L_law_117 rfl (lv_at hl 0 rfl) ?_
  refine lv_iload hx hb d_L_law_118 (lv_at hl 4 rfl) ?_
  refine lv_iconst (v := 1) hx hb d_L_law_120 (by decide) ?_
  refine lv_iadd hx hb d_L_law_121 ?_
  refine xl_sld E hS hi1 ev1 d_L_law_122 ?_
  refine lv_aload_n hx hb d_L_law_123 rfl (lv_at hl 0 rfl) ?_
  refine lv_iload hx hb d_L_law_124 (lv_at hl 4 rfl) ?_
  refine lv_iconst (v := 2) hx hb d_L_law_126 (by decide) ?_
  refine lv_iadd hx hb d_L_law_127 ?_
  refine xl_sld E hS hi2 ev2 d_L_law_128 ?_
  refine lv_aload_n hx hb d_L_law_129 rfl (lv_at hl 3 rfl) ?_
  refine xl_hc (rest := []) E hX hU hO hS (c_L_register l hsl g (xl_B s.heap.size) s.heap.size s.heap.size (s.heap.size + 81) (Nat.le_add_right _ _) xl_Bw σ x y) cw_L_register ml_L_70 sm_L_register ii_L hd_L_register (by omega) (by omega) (by omega) (by omega) hl.1 rfl (Nat.le_of_ble_eq_true rfl) d_L_law_130 (fun H locs f h0 hX hU hO hS => ?_)
  refine lv_istore (lv' := [(5, .int (nI (xp_register σ x y).1)), (0, .ref b), (1, .ref s.heap.size), (2, .ref (s.heap.size + 56)), (3, .ref (s.heap.size + 81)), (4, .int (nI (5 * j)))]) hx hb d_L_law_133 hl (by decide) rfl (fun ls hl => ?_)
  refine lv_aload_n hx hb d_L_law_135 rfl (lv_at hl 3 rfl) ?_
  refine lv_aload_n hx hb d_L_law_136 rfl (lv_at hl 1 rfl) ?_
  refine lv_iload hx hb d_L_law_137 (lv_at hl 5 rfl) ?_
  refine lv_iconst (v := 1) hx hb d_L_law_139 (by decide) ?_
  refine lv_iadd hx hb d_L_law_140 ?_
  refine xl_sld E hS hi1 ev1 d_L_law_141 ?_
  refine lv_aload_n hx hb d_L_law_142 rfl (lv_at hl 1 rfl) ?_
  refine lv_iload hx hb d_L_law_143 (lv_at hl 5 rfl) ?_
  refine lv_iconst (v := 2) hx hb d_L_law_145 (by decide) ?_
  refine lv_iadd hx hb d_L_law_146 ?_
  refine xl_sld E hS hi2 ev2 d_L_law_147 ?_
  refine xl_uc (rest := []) E hX hU hO hS (c_U_register l g (s.heap.size + 56) σ th rp n t a x y) gd_L_U_register hd_U_register (by omega) (by omega) (by omega) (by omega) hl.1 rfl (Nat.le_of_ble_eq_true rfl) d_L_law_148 (fun rp t a H locs hX hU hO hS => ?_)
  refine lv_istore (lv' := [(6, .int ((xp_register σ x y).2.1)), (5, .int (nI (xp_register σ x y).1)), (0, .ref b), (1, .ref s.heap.size), (2, .ref (s.heap.size + 56)), (3, .ref (s.heap.size + 81)), (4, .int (nI (5 * j)))]) hx hb d_L_law_151 hl (by decide) rfl (fun ls hl => ?_)
  refine xl_tl (j := j + 1) (P := 153) hR (by omega) (by omega) E ⟨hX, hU, hO, hS, hI.register, (by omega)⟩ (fun h => h0 (Classical.byContradiction fun h9 => ?_)) hl d_L_law_153 d_L_law_154 d_L_law_157 d_L_law_159 d_L_law_164 d_L_law_166 d_L_law_169 d_L_law_170 d_L_law_171 d_L_law_172 d_L_law_174 d_L_law_175 d_L_law_176 d_L_law_181 (by decide) (fun rp t a H locs hV => ?_)
  · rcases xp_register_c σ x y h9 with h8 | h8 <;> (rw [h8] at h; exact absurd h (by decide))
  · refine W.widen (k := 82 + 66 * (j + 1)) (n := 1000 + 396 * (j + 1)) (by omega) (by omega) ?_
    exact kk _ _ _ _ _ _ _ _ _ _ hV (lv_sub hl [2, 3, 4, 5, 6] rfl)
set_option maxHeartbeats 4000000 in
set_option maxRecDepth 100000 in
theorem k_L_connect (hsl : l.stackTraces = false) (hR : R.frames = 12 ∧ R.locals = 454 ∧ R.cells = 646917 ∧ R.slots = 7155354) (E : xl_E g p s m meth c b L xs) (hj : 5 * j + 5 ≤ L) (hL : L ≤ 2560) (hV : xl_V g s j σ th rp n t a f H locs) (hl : lv_has ls 7 (xl_lv b s.heap.size (nI (5 * j)))) (kk : xl_kk p l e R s m b below meth c Q g j) : W p l e R s m #[Value.ref b] below meth c H locs (82 + 66 * j) (1000 + 396 * j) Q (F0 m 184 ls []) := by
  obtain ⟨hRf, hRl, hRc, hRs⟩ := id hR
  obtain ⟨hC, hK, hT, hN, hX0, hbl⟩ := id E
  obtain ⟨hx, hb, hml, hr, hown, hts, hlk⟩ := id hC
  obtain ⟨hX, hU, hO, hS, hI, hn⟩ := hV
  obtain ⟨x, ev1⟩ : ∃ v, xs (nI (5 * j) + 1).toNatClampNeg = v := ⟨_, rfl⟩
  have hi1 : vp_in (nI (5 * j) + 1) L := xl_in (k := 1) rfl (by decide) hj hL
  refine lv_aload_n hx hb d_L_law_184 rfl (lv_at hl 1 rfl) ?_
  refine lv_aload_n hx hb d_L_law_185 rfl (lv_at hl 0 rfl) ?_
  refine lv_iload hx hb d_L_law_186 (lv_at hl 4 rfl) ?_
  refine lv_iconst (v := 1) hx hb d_L_law_188 (by decide) ?_
  refine lv_iadd hx hb d_L_law_189 ?_
  refine xl_sld E hS hi1 ev1 d_L_law_190 ?_
  refine lv_aload_n hx hb d_L_law_191 rfl (lv_at hl 3 rfl) ?_
  refine xl_hc (rest := []) E hX hU hO hS (c_L_connect l hsl g (xl_B s.heap.size) s.heap.size s.heap.size (s.heap.size + 81) (Nat.le_add_right _ _) xl_Bw σ x) cw_L_connect ml_L_80 sm_L_connect ii_L hd_L_connect (by omega) (by omega) (by omega) (by omega) hl.1 rfl (Nat.le_of_ble_eq_true rfl) d_L_law_192 (fun H locs f h0 hX hU hO hS => ?_)
  refine lv_istore (lv' := [(5, .int (nI (xp_connect σ x).1)), (0, .ref b), (1, .ref s.heap.size), (2, .ref (s.heap.size + 56)), (3, .ref (s.heap.size + 81)), (4, .int (nI (5 * j)))]) hx hb d_L_law_195 hl (by decide) rfl (fun ls hl => ?_)
  refine lv_aload_n hx hb d_L_law_197 rfl (lv_at hl 3 rfl) ?_
  refine lv_aload_n hx hb d_L_law_198 rfl (lv_at hl 1 rfl) ?_
  refine lv_iload hx hb d_L_law_199 (lv_at hl 5 rfl) ?_
  refine lv_iconst (v := 1) hx hb d_L_law_201 (by decide) ?_
  refine lv_iadd hx hb d_L_law_202 ?_
  refine xl_sld E hS hi1 ev1 d_L_law_203 ?_
  refine xl_uc (rest := []) E hX hU hO hS (c_U_connect l g (s.heap.size + 56) σ th rp n t a x) gd_L_U_connect hd_U_connect (by omega) (by omega) (by omega) (by omega) hl.1 rfl (Nat.le_of_ble_eq_true rfl) d_L_law_204 (fun rp t a H locs hX hU hO hS => ?_)
  refine lv_istore (lv' := [(6, .int ((xp_connect σ x).2.1)), (5, .int (nI (xp_connect σ x).1)), (0, .ref b), (1, .ref s.heap.size), (2, .ref (s.heap.size + 56)), (3, .ref (s.heap.size + 81)), (4, .int (nI (5 * j)))]) hx hb d_L_law_207 hl (by decide) rfl (fun ls hl => ?_)
  refine xl_tl (j := j + 1) (P := 209) hR (by omega) (by omega) E ⟨hX, hU, hO, hS, hI.connect, (by omega)⟩ (fun h => h0 (Classical.byContradiction fun h9 => ?_)) hl d_L_law_209 d_L_law_210 d_L_law_213 d_L_law_215 d_L_law_220 d_L_law_222 d_L_law_225 d_L_law_226 d_L_law_227 d_L_law_228 d_L_law_230 d_L_law_231 d_L_law_232 d_L_law_237 (by decide) (fun rp t a H locs hV => ?_)
  · rcases xp_connect_c σ x h9 with h8 | h8 <;> (rw [h8] at h; exact absurd h (by decide))
  · refine W.widen (k := 82 + 66 * (j + 1)) (n := 1000 + 396 * (j + 1)) (by omega) (by omega) ?_
    exact kk _ _ _ _ _ _ _ _ _ _ hV (lv_sub hl [2, 3, 4, 5, 6] rfl)
set_option maxHeartbeats 4000000 in
set_option maxRecDepth 100000 in
theorem k_L_login (hsl : l.stackTraces = false) (hR : R.frames = 12 ∧ R.locals = 454 ∧ R.cells = 646917 ∧ R.slots = 7155354) (E : xl_E g p s m meth c b L xs) (hj : 5 * j + 5 ≤ L) (hL : L ≤ 2560) (hV : xl_V g s j σ th rp n t a f H locs) (hl : lv_has ls 7 (xl_lv b s.heap.size (nI (5 * j)))) (kk : xl_kk p l e R s m b below meth c Q g j) : W p l e R s m #[Value.ref b] below meth c H locs (82 + 66 * j) (1000 + 396 * j) Q (F0 m 240 ls []) := by
  obtain ⟨hRf, hRl, hRc, hRs⟩ := id hR
  obtain ⟨hC, hK, hT, hN, hX0, hbl⟩ := id E
  obtain ⟨hx, hb, hml, hr, hown, hts, hlk⟩ := id hC
  obtain ⟨hX, hU, hO, hS, hI, hn⟩ := hV
  obtain ⟨x, ev1⟩ : ∃ v, xs (nI (5 * j) + 1).toNatClampNeg = v := ⟨_, rfl⟩
  have hi1 : vp_in (nI (5 * j) + 1) L := xl_in (k := 1) rfl (by decide) hj hL
  obtain ⟨y, ev2⟩ : ∃ v, xs (nI (5 * j) + 2).toNatClampNeg = v := ⟨_, rfl⟩
  have hi2 : vp_in (nI (5 * j) + 2) L := xl_in (k := 2) rfl (by decide) hj hL
  refine lv_aload_n hx hb d_L_law_240 rfl (lv_at hl 1 rfl) ?_
  refine lv_aload_n hx hb d_L_law_241 rfl (lv_at hl 0 rfl) ?_
  refine lv_iload hx hb d_L_law_242 (lv_at hl 4 rfl) ?_
  refine lv_iconst (v := 1) hx hb d_L_law_244 (by decide) ?_
  refine lv_iadd hx hb d_L_law_245 ?_
  refine xl_sld E hS hi1 ev1 d_L_law_246 ?_
  refine lv_aload_n hx hb d_L_law_247 rfl (lv_at hl 0 rfl) ?_
  refine lv_iload hx hb d_L_law_248 (lv_at hl 4 rfl) ?_
  refine lv_iconst (v := 2) hx hb d_L_law_250 (by decide) ?_
  refine lv_iadd hx hb d_L_law_251 ?_
  refine xl_sld E hS hi2 ev2 d_L_law_252 ?_
  refine lv_aload_n hx hb d_L_law_253 rfl (lv_at hl 3 rfl) ?_
  refine xl_hc (rest := []) E hX hU hO hS (c_L_login l hsl g (xl_B s.heap.size) s.heap.size s.heap.size (s.heap.size + 81) (Nat.le_add_right _ _) xl_Bw σ x y) cw_L_login ml_L_84 sm_L_login ii_L hd_L_login (by omega) (by omega) (by omega) (by omega) hl.1 rfl (Nat.le_of_ble_eq_true rfl) d_L_law_254 (fun H locs f h0 hX hU hO hS => ?_)
  refine lv_istore (lv' := [(5, .int (nI (xp_login σ x y).1)), (0, .ref b), (1, .ref s.heap.size), (2, .ref (s.heap.size + 56)), (3, .ref (s.heap.size + 81)), (4, .int (nI (5 * j)))]) hx hb d_L_law_257 hl (by decide) rfl (fun ls hl => ?_)
  refine lv_aload_n hx hb d_L_law_259 rfl (lv_at hl 3 rfl) ?_
  refine lv_aload_n hx hb d_L_law_260 rfl (lv_at hl 1 rfl) ?_
  refine lv_iload hx hb d_L_law_261 (lv_at hl 5 rfl) ?_
  refine lv_iconst (v := 1) hx hb d_L_law_263 (by decide) ?_
  refine lv_iadd hx hb d_L_law_264 ?_
  refine xl_sld E hS hi1 ev1 d_L_law_265 ?_
  refine lv_aload_n hx hb d_L_law_266 rfl (lv_at hl 1 rfl) ?_
  refine lv_iload hx hb d_L_law_267 (lv_at hl 5 rfl) ?_
  refine lv_iconst (v := 2) hx hb d_L_law_269 (by decide) ?_
  refine lv_iadd hx hb d_L_law_270 ?_
  refine xl_sld E hS hi2 ev2 d_L_law_271 ?_
  refine xl_uc (rest := []) E hX hU hO hS (c_U_login l g (s.heap.size + 56) σ th rp n t a x y (by omega)) gd_L_U_login hd_U_login (by omega) (by omega) (by omega) (by omega) hl.1 rfl (Nat.le_of_ble_eq_true rfl) d_L_law_272 (fun rp t a H locs hX hU hO hS => ?_)
  refine lv_istore (lv' := [(6, .int ((xp_login σ x y).2.1)), (5, .int (nI (xp_login σ x y).1)), (0, .ref b), (1, .ref s.heap.size), (2, .ref (s.heap.size + 56)), (3, .ref (s.heap.size + 81)), (4, .int (nI (5 * j)))]) hx hb d_L_law_275 hl (by decide) rfl (fun ls hl => ?_)
  refine xl_tl (j := j + 1) (P := 277) hR (by omega) (by omega) E ⟨hX, hU, hO, hS, hI.login, (by split <;> omega)⟩ (fun h => h0 (Classical.byContradiction fun h9 => ?_)) hl d_L_law_277 d_L_law_278 d_L_law_281 d_L_law_283 d_L_law_288 d_L_law_290 d_L_law_293 d_L_law_294 d_L_law_295 d_L_law_296 d_L_law_298 d_L_law_299 d_L_law_300 d_L_law_305 (by decide) (fun rp t a H locs hV => ?_)
  · rcases xp_login_c σ x y h9 with h8 | h8 <;> (rw [h8] at h; exact absurd h (by decide))
  · refine W.widen (k := 82 + 66 * (j + 1)) (n := 1000 + 396 * (j + 1)) (by omega) (by omega) ?_
    exact kk _ _ _ _ _ _ _ _ _ _ hV (lv_sub hl [2, 3, 4, 5, 6] rfl)
set_option maxHeartbeats 4000000 in
set_option maxRecDepth 100000 in
theorem k_L_prove (hsl : l.stackTraces = false) (hR : R.frames = 12 ∧ R.locals = 454 ∧ R.cells = 646917 ∧ R.slots = 7155354) (E : xl_E g p s m meth c b L xs) (hj : 5 * j + 5 ≤ L) (hL : L ≤ 2560) (hV : xl_V g s j σ th rp n t a f H locs) (hl : lv_has ls 7 (xl_lv b s.heap.size (nI (5 * j)))) (kk : xl_kk p l e R s m b below meth c Q g j) : W p l e R s m #[Value.ref b] below meth c H locs (82 + 66 * j) (1000 + 396 * j) Q (F0 m 308 ls []) := by
  obtain ⟨hRf, hRl, hRc, hRs⟩ := id hR
  obtain ⟨hC, hK, hT, hN, hX0, hbl⟩ := id E
  obtain ⟨hx, hb, hml, hr, hown, hts, hlk⟩ := id hC
  obtain ⟨hX, hU, hO, hS, hI, hn⟩ := hV
  obtain ⟨x, ev1⟩ : ∃ v, xs (nI (5 * j) + 1).toNatClampNeg = v := ⟨_, rfl⟩
  have hi1 : vp_in (nI (5 * j) + 1) L := xl_in (k := 1) rfl (by decide) hj hL
  obtain ⟨y, ev2⟩ : ∃ v, xs (nI (5 * j) + 2).toNatClampNeg = v := ⟨_, rfl⟩
  have hi2 : vp_in (nI (5 * j) + 2) L := xl_in (k := 2) rfl (by decide) hj hL
  refine lv_aload_n hx hb d_L_law_308 rfl (lv_at hl 1 rfl) ?_
  refine lv_aload_n hx hb d_L_law_309 rfl (lv_at hl 0 rfl) ?_
  refine lv_iload hx hb d_L_law_310 (lv_at hl 4 rfl) ?_
  refine lv_iconst (v := 1) hx hb d_L_law_312 (by decide) ?_
  refine lv_iadd hx hb d_L_law_313 ?_
  refine xl_sld E hS hi1 ev1 d_L_law_314 ?_
  refine lv_aload_n hx hb d_L_law_315 rfl (lv_at hl 0 rfl) ?_
  refine lv_iload hx hb d_L_law_316 (lv_at hl 4 rfl) ?_
  refine lv_iconst (v := 2) hx hb d_L_law_318 (by decide) ?_
  refine lv_iadd hx hb d_L_law_319 ?_
  refine xl_sld E hS hi2 ev2 d_L_law_320 ?_
  refine lv_aload_n hx hb d_L_law_321 rfl (lv_at hl 3 rfl) ?_
  refine xl_hc (rest := []) E hX hU hO hS (c_L_prove l hsl g (xl_B s.heap.size) s.heap.size s.heap.size (s.heap.size + 81) (Nat.le_add_right _ _) xl_Bw σ x y hI.wf) cw_L_prove ml_L_87 sm_L_prove ii_L hd_L_prove (by omega) (by omega) (by omega) (by omega) hl.1 rfl (Nat.le_of_ble_eq_true rfl) d_L_law_322 (fun H locs f h0 hX hU hO hS => ?_)
  refine lv_istore (lv' := [(5, .int (nI (xp_prove σ x y).1)), (0, .ref b), (1, .ref s.heap.size), (2, .ref (s.heap.size + 56)), (3, .ref (s.heap.size + 81)), (4, .int (nI (5 * j)))]) hx hb d_L_law_325 hl (by decide) rfl (fun ls hl => ?_)
  refine lv_aload_n hx hb d_L_law_327 rfl (lv_at hl 3 rfl) ?_
  refine lv_aload_n hx hb d_L_law_328 rfl (lv_at hl 1 rfl) ?_
  refine lv_iload hx hb d_L_law_329 (lv_at hl 5 rfl) ?_
  refine lv_iconst (v := 1) hx hb d_L_law_331 (by decide) ?_
  refine lv_iadd hx hb d_L_law_332 ?_
  refine xl_sld E hS hi1 ev1 d_L_law_333 ?_
  refine lv_aload_n hx hb d_L_law_334 rfl (lv_at hl 1 rfl) ?_
  refine lv_iload hx hb d_L_law_335 (lv_at hl 5 rfl) ?_
  refine lv_iconst (v := 2) hx hb d_L_law_337 (by decide) ?_
  refine lv_iadd hx hb d_L_law_338 ?_
  refine xl_sld E hS hi2 ev2 d_L_law_339 ?_
  refine xl_uc (rest := []) E hX hU hO hS (c_U_prove l g (s.heap.size + 56) σ th rp n t a x y hI.wf) gd_L_U_prove hd_U_prove (by omega) (by omega) (by omega) (by omega) hl.1 rfl (Nat.le_of_ble_eq_true rfl) d_L_law_340 (fun rp t a H locs hX hU hO hS => ?_)
  refine lv_istore (lv' := [(6, .int ((xp_prove σ x y).2.1)), (5, .int (nI (xp_prove σ x y).1)), (0, .ref b), (1, .ref s.heap.size), (2, .ref (s.heap.size + 56)), (3, .ref (s.heap.size + 81)), (4, .int (nI (5 * j)))]) hx hb d_L_law_343 hl (by decide) rfl (fun ls hl => ?_)
  refine xl_tl (j := j + 1) (P := 345) hR (by omega) (by omega) E ⟨hX, hU, hO, hS, hI.prove, (by omega)⟩ (fun h => h0 (Classical.byContradiction fun h9 => ?_)) hl d_L_law_345 d_L_law_346 d_L_law_349 d_L_law_351 d_L_law_356 d_L_law_358 d_L_law_361 d_L_law_362 d_L_law_363 d_L_law_364 d_L_law_366 d_L_law_367 d_L_law_368 d_L_law_373 (by decide) (fun rp t a H locs hV => ?_)
  · rcases xp_prove_c σ x y h9 with h8 | h8 | h8 <;> (rw [h8] at h; exact absurd h (by decide))
  · refine W.widen (k := 82 + 66 * (j + 1)) (n := 1000 + 396 * (j + 1)) (by omega) (by omega) ?_
    exact kk _ _ _ _ _ _ _ _ _ _ hV (lv_sub hl [2, 3, 4, 5, 6] rfl)
set_option maxHeartbeats 4000000 in
set_option maxRecDepth 100000 in
theorem k_L_bind (hsl : l.stackTraces = false) (hR : R.frames = 12 ∧ R.locals = 454 ∧ R.cells = 646917 ∧ R.slots = 7155354) (E : xl_E g p s m meth c b L xs) (hj : 5 * j + 5 ≤ L) (hL : L ≤ 2560) (hV : xl_V g s j σ th rp n t a f H locs) (hl : lv_has ls 7 (xl_lv b s.heap.size (nI (5 * j)))) (kk : xl_kk p l e R s m b below meth c Q g j) : W p l e R s m #[Value.ref b] below meth c H locs (82 + 66 * j) (1000 + 396 * j) Q (F0 m 376 ls []) := by
  obtain ⟨hRf, hRl, hRc, hRs⟩ := id hR
  obtain ⟨hC, hK, hT, hN, hX0, hbl⟩ := id E
  obtain ⟨hx, hb, hml, hr, hown, hts, hlk⟩ := id hC
  obtain ⟨hX, hU, hO, hS, hI, hn⟩ := hV
  obtain ⟨x, ev1⟩ : ∃ v, xs (nI (5 * j) + 1).toNatClampNeg = v := ⟨_, rfl⟩
  have hi1 : vp_in (nI (5 * j) + 1) L := xl_in (k := 1) rfl (by decide) hj hL
  obtain ⟨y, ev2⟩ : ∃ v, xs (nI (5 * j) + 2).toNatClampNeg = v := ⟨_, rfl⟩
  have hi2 : vp_in (nI (5 * j) + 2) L := xl_in (k := 2) rfl (by decide) hj hL
  refine lv_aload_n hx hb d_L_law_376 rfl (lv_at hl 1 rfl) ?_
  refine lv_aload_n hx hb d_L_law_377 rfl (lv_at hl 0 rfl) ?_
  refine lv_iload hx hb d_L_law_378 (lv_at hl 4 rfl) ?_
  refine lv_iconst (v := 1) hx hb d_L_law_380 (by decide) ?_
  refine lv_iadd hx hb d_L_law_381 ?_
  refine xl_sld E hS hi1 ev1 d_L_law_382 ?_
  refine lv_aload_n hx hb d_L_law_383 rfl (lv_at hl 0 rfl) ?_
  refine lv_iload hx hb d_L_law_384 (lv_at hl 4 rfl) ?_
  refine lv_iconst (v := 2) hx hb d_L_law_386 (by decide) ?_
  refine lv_iadd hx hb d_L_law_387 ?_
  refine xl_sld E hS hi2 ev2 d_L_law_388 ?_
  refine lv_aload_n hx hb d_L_law_389 rfl (lv_at hl 3 rfl) ?_
  refine xl_hc (rest := []) E hX hU hO hS (c_L_bind l hsl g (xl_B s.heap.size) s.heap.size s.heap.size (s.heap.size + 81) (Nat.le_add_right _ _) xl_Bw σ x y hI.wf) cw_L_bind ml_L_90 sm_L_bind ii_L hd_L_bind (by omega) (by omega) (by omega) (by omega) hl.1 rfl (Nat.le_of_ble_eq_true rfl) d_L_law_390 (fun H locs f h0 hX hU hO hS => ?_)
  refine lv_istore (lv' := [(5, .int (nI (xp_bind σ x y).1)), (0, .ref b), (1, .ref s.heap.size), (2, .ref (s.heap.size + 56)), (3, .ref (s.heap.size + 81)), (4, .int (nI (5 * j)))]) hx hb d_L_law_393 hl (by decide) rfl (fun ls hl => ?_)
  refine lv_aload_n hx hb d_L_law_395 rfl (lv_at hl 3 rfl) ?_
  refine lv_aload_n hx hb d_L_law_396 rfl (lv_at hl 1 rfl) ?_
  refine lv_iload hx hb d_L_law_397 (lv_at hl 5 rfl) ?_
  refine lv_iconst (v := 1) hx hb d_L_law_399 (by decide) ?_
  refine lv_iadd hx hb d_L_law_400 ?_
  refine xl_sld E hS hi1 ev1 d_L_law_401 ?_
  refine lv_aload_n hx hb d_L_law_402 rfl (lv_at hl 1 rfl) ?_
  refine lv_iload hx hb d_L_law_403 (lv_at hl 5 rfl) ?_
  refine lv_iconst (v := 2) hx hb d_L_law_405 (by decide) ?_
  refine lv_iadd hx hb d_L_law_406 ?_
  refine xl_sld E hS hi2 ev2 d_L_law_407 ?_
  refine xl_uc (rest := []) E hX hU hO hS (c_U_bind l g (s.heap.size + 56) σ th rp n t a x y hI.wf hI.cw) gd_L_U_bind hd_U_bind (by omega) (by omega) (by omega) (by omega) hl.1 rfl (Nat.le_of_ble_eq_true rfl) d_L_law_408 (fun rp t a H locs hX hU hO hS => ?_)
  refine lv_istore (lv' := [(6, .int ((xp_bind σ x y).2.1)), (5, .int (nI (xp_bind σ x y).1)), (0, .ref b), (1, .ref s.heap.size), (2, .ref (s.heap.size + 56)), (3, .ref (s.heap.size + 81)), (4, .int (nI (5 * j)))]) hx hb d_L_law_411 hl (by decide) rfl (fun ls hl => ?_)
  refine xl_tl (j := j + 1) (P := 413) hR (by omega) (by omega) E ⟨hX, hU, hO, hS, hI.bind, (by omega)⟩ (fun h => h0 (Classical.byContradiction fun h9 => ?_)) hl d_L_law_413 d_L_law_414 d_L_law_417 d_L_law_419 d_L_law_424 d_L_law_426 d_L_law_429 d_L_law_430 d_L_law_431 d_L_law_432 d_L_law_434 d_L_law_435 d_L_law_436 d_L_law_441 (by decide) (fun rp t a H locs hV => ?_)
  · rcases xp_bind_c σ x y h9 with h8 | h8 <;> (rw [h8] at h; exact absurd h (by decide))
  · refine W.widen (k := 82 + 66 * (j + 1)) (n := 1000 + 396 * (j + 1)) (by omega) (by omega) ?_
    exact kk _ _ _ _ _ _ _ _ _ _ hV (lv_sub hl [2, 3, 4, 5, 6] rfl)
set_option maxHeartbeats 4000000 in
set_option maxRecDepth 100000 in
theorem k_L_here (hsl : l.stackTraces = false) (hR : R.frames = 12 ∧ R.locals = 454 ∧ R.cells = 646917 ∧ R.slots = 7155354) (E : xl_E g p s m meth c b L xs) (hj : 5 * j + 5 ≤ L) (hL : L ≤ 2560) (hV : xl_V g s j σ th rp n t a f H locs) (hl : lv_has ls 7 (xl_lv b s.heap.size (nI (5 * j)))) (kk : xl_kk p l e R s m b below meth c Q g j) : W p l e R s m #[Value.ref b] below meth c H locs (82 + 66 * j) (1000 + 396 * j) Q (F0 m 444 ls []) := by
  obtain ⟨hRf, hRl, hRc, hRs⟩ := id hR
  obtain ⟨hC, hK, hT, hN, hX0, hbl⟩ := id E
  obtain ⟨hx, hb, hml, hr, hown, hts, hlk⟩ := id hC
  obtain ⟨hX, hU, hO, hS, hI, hn⟩ := hV
  obtain ⟨x, ev1⟩ : ∃ v, xs (nI (5 * j) + 1).toNatClampNeg = v := ⟨_, rfl⟩
  have hi1 : vp_in (nI (5 * j) + 1) L := xl_in (k := 1) rfl (by decide) hj hL
  obtain ⟨y, ev2⟩ : ∃ v, xs (nI (5 * j) + 2).toNatClampNeg = v := ⟨_, rfl⟩
  have hi2 : vp_in (nI (5 * j) + 2) L := xl_in (k := 2) rfl (by decide) hj hL
  refine lv_aload_n hx hb d_L_law_444 rfl (lv_at hl 1 rfl) ?_
  refine lv_aload_n hx hb d_L_law_445 rfl (lv_at hl 0 rfl) ?_
  refine lv_iload hx hb d_L_law_446 (lv_at hl 4 rfl) ?_
  refine lv_iconst (v := 1) hx hb d_L_law_448 (by decide) ?_
  refine lv_iadd hx hb d_L_law_449 ?_
  refine xl_sld E hS hi1 ev1 d_L_law_450 ?_
  refine lv_aload_n hx hb d_L_law_451 rfl (lv_at hl 0 rfl) ?_
  refine lv_iload hx hb d_L_law_452 (lv_at hl 4 rfl) ?_
  refine lv_iconst (v := 2) hx hb d_L_law_454 (by decide) ?_
  refine lv_iadd hx hb d_L_law_455 ?_
  refine xl_sld E hS hi2 ev2 d_L_law_456 ?_
  refine lv_aload_n hx hb d_L_law_457 rfl (lv_at hl 3 rfl) ?_
  refine xl_hc (rest := []) E hX hU hO hS (c_L_here l hsl g (xl_B s.heap.size) s.heap.size s.heap.size (s.heap.size + 81) (Nat.le_add_right _ _) xl_Bw σ x y hI.wf) cw_L_here ml_L_93 sm_L_here ii_L hd_L_here (by omega) (by omega) (by omega) (by omega) hl.1 rfl (Nat.le_of_ble_eq_true rfl) d_L_law_458 (fun H locs f h0 hX hU hO hS => ?_)
  refine lv_istore (lv' := [(5, .int (nI (xp_here σ x y).1)), (0, .ref b), (1, .ref s.heap.size), (2, .ref (s.heap.size + 56)), (3, .ref (s.heap.size + 81)), (4, .int (nI (5 * j)))]) hx hb d_L_law_461 hl (by decide) rfl (fun ls hl => ?_)
  refine lv_aload_n hx hb d_L_law_463 rfl (lv_at hl 3 rfl) ?_
  refine lv_aload_n hx hb d_L_law_464 rfl (lv_at hl 1 rfl) ?_
  refine lv_iload hx hb d_L_law_465 (lv_at hl 5 rfl) ?_
  refine lv_iconst (v := 1) hx hb d_L_law_467 (by decide) ?_
  refine lv_iadd hx hb d_L_law_468 ?_
  refine xl_sld E hS hi1 ev1 d_L_law_469 ?_
  refine lv_aload_n hx hb d_L_law_470 rfl (lv_at hl 1 rfl) ?_
  refine lv_iload hx hb d_L_law_471 (lv_at hl 5 rfl) ?_
  refine lv_iconst (v := 2) hx hb d_L_law_473 (by decide) ?_
  refine lv_iadd hx hb d_L_law_474 ?_
  refine xl_sld E hS hi2 ev2 d_L_law_475 ?_
  refine xl_uc (rest := []) E hX hU hO hS (c_U_here l g (s.heap.size + 56) σ th rp n t a x y hI.wf) gd_L_U_here hd_U_here (by omega) (by omega) (by omega) (by omega) hl.1 rfl (Nat.le_of_ble_eq_true rfl) d_L_law_476 (fun rp t a H locs hX hU hO hS => ?_)
  refine lv_istore (lv' := [(6, .int ((xp_here σ x y).2.1)), (5, .int (nI (xp_here σ x y).1)), (0, .ref b), (1, .ref s.heap.size), (2, .ref (s.heap.size + 56)), (3, .ref (s.heap.size + 81)), (4, .int (nI (5 * j)))]) hx hb d_L_law_479 hl (by decide) rfl (fun ls hl => ?_)
  refine xl_tl (j := j + 1) (P := 481) hR (by omega) (by omega) E ⟨hX, hU, hO, hS, hI.here, (by omega)⟩ (fun h => h0 (Classical.byContradiction fun h9 => ?_)) hl d_L_law_481 d_L_law_482 d_L_law_485 d_L_law_487 d_L_law_492 d_L_law_494 d_L_law_497 d_L_law_498 d_L_law_499 d_L_law_500 d_L_law_502 d_L_law_503 d_L_law_504 d_L_law_509 (by decide) (fun rp t a H locs hV => ?_)
  · rcases xp_here_c σ x y h9 with h8 | h8 <;> (rw [h8] at h; exact absurd h (by decide))
  · refine W.widen (k := 82 + 66 * (j + 1)) (n := 1000 + 396 * (j + 1)) (by omega) (by omega) ?_
    exact kk _ _ _ _ _ _ _ _ _ _ hV (lv_sub hl [2, 3, 4, 5, 6] rfl)
set_option maxHeartbeats 4000000 in
set_option maxRecDepth 100000 in
theorem k_L_gone (hsl : l.stackTraces = false) (hR : R.frames = 12 ∧ R.locals = 454 ∧ R.cells = 646917 ∧ R.slots = 7155354) (E : xl_E g p s m meth c b L xs) (hj : 5 * j + 5 ≤ L) (hL : L ≤ 2560) (hV : xl_V g s j σ th rp n t a f H locs) (hl : lv_has ls 7 (xl_lv b s.heap.size (nI (5 * j)))) (kk : xl_kk p l e R s m b below meth c Q g j) : W p l e R s m #[Value.ref b] below meth c H locs (82 + 66 * j) (1000 + 396 * j) Q (F0 m 512 ls []) := by
  obtain ⟨hRf, hRl, hRc, hRs⟩ := id hR
  obtain ⟨hC, hK, hT, hN, hX0, hbl⟩ := id E
  obtain ⟨hx, hb, hml, hr, hown, hts, hlk⟩ := id hC
  obtain ⟨hX, hU, hO, hS, hI, hn⟩ := hV
  obtain ⟨x, ev1⟩ : ∃ v, xs (nI (5 * j) + 1).toNatClampNeg = v := ⟨_, rfl⟩
  have hi1 : vp_in (nI (5 * j) + 1) L := xl_in (k := 1) rfl (by decide) hj hL
  refine lv_aload_n hx hb d_L_law_512 rfl (lv_at hl 1 rfl) ?_
  refine lv_aload_n hx hb d_L_law_513 rfl (lv_at hl 0 rfl) ?_
  refine lv_iload hx hb d_L_law_514 (lv_at hl 4 rfl) ?_
  refine lv_iconst (v := 1) hx hb d_L_law_516 (by decide) ?_
  refine lv_iadd hx hb d_L_law_517 ?_
  refine xl_sld E hS hi1 ev1 d_L_law_518 ?_
  refine lv_aload_n hx hb d_L_law_519 rfl (lv_at hl 3 rfl) ?_
  refine xl_hc (rest := []) E hX hU hO hS (c_L_gone l hsl g (xl_B s.heap.size) s.heap.size s.heap.size (s.heap.size + 81) (Nat.le_add_right _ _) xl_Bw σ x hI.wf) cw_L_gone ml_L_96 sm_L_gone ii_L hd_L_gone (by omega) (by omega) (by omega) (by omega) hl.1 rfl (Nat.le_of_ble_eq_true rfl) d_L_law_520 (fun H locs f h0 hX hU hO hS => ?_)
  refine lv_istore (lv' := [(5, .int (nI (xp_gone σ x).1)), (0, .ref b), (1, .ref s.heap.size), (2, .ref (s.heap.size + 56)), (3, .ref (s.heap.size + 81)), (4, .int (nI (5 * j)))]) hx hb d_L_law_523 hl (by decide) rfl (fun ls hl => ?_)
  refine lv_aload_n hx hb d_L_law_525 rfl (lv_at hl 3 rfl) ?_
  refine lv_aload_n hx hb d_L_law_526 rfl (lv_at hl 1 rfl) ?_
  refine lv_iload hx hb d_L_law_527 (lv_at hl 5 rfl) ?_
  refine lv_iconst (v := 1) hx hb d_L_law_529 (by decide) ?_
  refine lv_iadd hx hb d_L_law_530 ?_
  refine xl_sld E hS hi1 ev1 d_L_law_531 ?_
  refine xl_uc (rest := []) E hX hU hO hS (c_U_gone l g (s.heap.size + 56) σ th rp n t a x hI.wf) gd_L_U_gone hd_U_gone (by omega) (by omega) (by omega) (by omega) hl.1 rfl (Nat.le_of_ble_eq_true rfl) d_L_law_532 (fun rp t a H locs hX hU hO hS => ?_)
  refine lv_istore (lv' := [(6, .int ((xp_gone σ x).2.1)), (5, .int (nI (xp_gone σ x).1)), (0, .ref b), (1, .ref s.heap.size), (2, .ref (s.heap.size + 56)), (3, .ref (s.heap.size + 81)), (4, .int (nI (5 * j)))]) hx hb d_L_law_535 hl (by decide) rfl (fun ls hl => ?_)
  refine xl_tl (j := j + 1) (P := 537) hR (by omega) (by omega) E ⟨hX, hU, hO, hS, hI.gone, (by omega)⟩ (fun h => h0 (Classical.byContradiction fun h9 => ?_)) hl d_L_law_537 d_L_law_538 d_L_law_541 d_L_law_543 d_L_law_548 d_L_law_550 d_L_law_553 d_L_law_554 d_L_law_555 d_L_law_556 d_L_law_558 d_L_law_559 d_L_law_560 d_L_law_565 (by decide) (fun rp t a H locs hV => ?_)
  · rcases xp_gone_c σ x h9 with h8 | h8 <;> (rw [h8] at h; exact absurd h (by decide))
  · refine W.widen (k := 82 + 66 * (j + 1)) (n := 1000 + 396 * (j + 1)) (by omega) (by omega) ?_
    exact kk _ _ _ _ _ _ _ _ _ _ hV (lv_sub hl [2, 3, 4, 5, 6] rfl)
set_option maxHeartbeats 4000000 in
set_option maxRecDepth 100000 in
theorem k_L_close (hsl : l.stackTraces = false) (hR : R.frames = 12 ∧ R.locals = 454 ∧ R.cells = 646917 ∧ R.slots = 7155354) (E : xl_E g p s m meth c b L xs) (hj : 5 * j + 5 ≤ L) (hL : L ≤ 2560) (hV : xl_V g s j σ th rp n t a f H locs) (hl : lv_has ls 7 (xl_lv b s.heap.size (nI (5 * j)))) (kk : xl_kk p l e R s m b below meth c Q g j) : W p l e R s m #[Value.ref b] below meth c H locs (82 + 66 * j) (1000 + 396 * j) Q (F0 m 568 ls []) := by
  obtain ⟨hRf, hRl, hRc, hRs⟩ := id hR
  obtain ⟨hC, hK, hT, hN, hX0, hbl⟩ := id E
  obtain ⟨hx, hb, hml, hr, hown, hts, hlk⟩ := id hC
  obtain ⟨hX, hU, hO, hS, hI, hn⟩ := hV
  obtain ⟨x, ev1⟩ : ∃ v, xs (nI (5 * j) + 1).toNatClampNeg = v := ⟨_, rfl⟩
  have hi1 : vp_in (nI (5 * j) + 1) L := xl_in (k := 1) rfl (by decide) hj hL
  refine lv_aload_n hx hb d_L_law_568 rfl (lv_at hl 1 rfl) ?_
  refine lv_aload_n hx hb d_L_law_569 rfl (lv_at hl 0 rfl) ?_
  refine lv_iload hx hb d_L_law_570 (lv_at hl 4 rfl) ?_
  refine lv_iconst (v := 1) hx hb d_L_law_572 (by decide) ?_
  refine lv_iadd hx hb d_L_law_573 ?_
  refine xl_sld E hS hi1 ev1 d_L_law_574 ?_
  refine lv_aload_n hx hb d_L_law_575 rfl (lv_at hl 3 rfl) ?_
  refine xl_hc (rest := []) E hX hU hO hS (c_L_close l hsl g (xl_B s.heap.size) s.heap.size s.heap.size (s.heap.size + 81) (Nat.le_add_right _ _) xl_Bw σ x hI.wf) cw_L_close ml_L_99 sm_L_close ii_L hd_L_close (by omega) (by omega) (by omega) (by omega) hl.1 rfl (Nat.le_of_ble_eq_true rfl) d_L_law_576 (fun H locs f h0 hX hU hO hS => ?_)
  refine lv_istore (lv' := [(5, .int (nI (xp_close σ x).1)), (0, .ref b), (1, .ref s.heap.size), (2, .ref (s.heap.size + 56)), (3, .ref (s.heap.size + 81)), (4, .int (nI (5 * j)))]) hx hb d_L_law_579 hl (by decide) rfl (fun ls hl => ?_)
  refine lv_aload_n hx hb d_L_law_581 rfl (lv_at hl 3 rfl) ?_
  refine lv_aload_n hx hb d_L_law_582 rfl (lv_at hl 1 rfl) ?_
  refine lv_iload hx hb d_L_law_583 (lv_at hl 5 rfl) ?_
  refine lv_iconst (v := 1) hx hb d_L_law_585 (by decide) ?_
  refine lv_iadd hx hb d_L_law_586 ?_
  refine xl_sld E hS hi1 ev1 d_L_law_587 ?_
  refine xl_uc (rest := []) E hX hU hO hS (c_U_close l g (s.heap.size + 56) σ th rp n t a x hI.wf) gd_L_U_close hd_U_close (by omega) (by omega) (by omega) (by omega) hl.1 rfl (Nat.le_of_ble_eq_true rfl) d_L_law_588 (fun rp t a H locs hX hU hO hS => ?_)
  refine lv_istore (lv' := [(6, .int ((xp_close σ x).2.1)), (5, .int (nI (xp_close σ x).1)), (0, .ref b), (1, .ref s.heap.size), (2, .ref (s.heap.size + 56)), (3, .ref (s.heap.size + 81)), (4, .int (nI (5 * j)))]) hx hb d_L_law_591 hl (by decide) rfl (fun ls hl => ?_)
  refine xl_tl (j := j + 1) (P := 593) hR (by omega) (by omega) E ⟨hX, hU, hO, hS, hI.close, (by omega)⟩ (fun h => h0 (Classical.byContradiction fun h9 => ?_)) hl d_L_law_593 d_L_law_594 d_L_law_597 d_L_law_599 d_L_law_604 d_L_law_606 d_L_law_609 d_L_law_610 d_L_law_611 d_L_law_612 d_L_law_614 d_L_law_615 d_L_law_616 d_L_law_621 (by decide) (fun rp t a H locs hV => ?_)
  · rcases xp_close_c σ x h9 with h8 | h8 <;> (rw [h8] at h; exact absurd h (by decide))
  · refine W.widen (k := 82 + 66 * (j + 1)) (n := 1000 + 396 * (j + 1)) (by omega) (by omega) ?_
    exact kk _ _ _ _ _ _ _ _ _ _ hV (lv_sub hl [2, 3, 4, 5, 6] rfl)
set_option maxHeartbeats 4000000 in
set_option maxRecDepth 100000 in
theorem k_L_message (hsl : l.stackTraces = false) (hR : R.frames = 12 ∧ R.locals = 454 ∧ R.cells = 646917 ∧ R.slots = 7155354) (E : xl_E g p s m meth c b L xs) (hj : 5 * j + 5 ≤ L) (hL : L ≤ 2560) (hV : xl_V g s j σ th rp n t a f H locs) (hl : lv_has ls 7 (xl_lv b s.heap.size (nI (5 * j)))) (kk : xl_kk p l e R s m b below meth c Q g j) : W p l e R s m #[Value.ref b] below meth c H locs (82 + 66 * j) (1000 + 396 * j) Q (F0 m 624 ls []) := by
  obtain ⟨hRf, hRl, hRc, hRs⟩ := id hR
  obtain ⟨hC, hK, hT, hN, hX0, hbl⟩ := id E
  obtain ⟨hx, hb, hml, hr, hown, hts, hlk⟩ := id hC
  obtain ⟨hX, hU, hO, hS, hI, hn⟩ := hV
  obtain ⟨x, ev1⟩ : ∃ v, xs (nI (5 * j) + 1).toNatClampNeg = v := ⟨_, rfl⟩
  have hi1 : vp_in (nI (5 * j) + 1) L := xl_in (k := 1) rfl (by decide) hj hL
  obtain ⟨y, ev2⟩ : ∃ v, xs (nI (5 * j) + 2).toNatClampNeg = v := ⟨_, rfl⟩
  have hi2 : vp_in (nI (5 * j) + 2) L := xl_in (k := 2) rfl (by decide) hj hL
  obtain ⟨z, ev3⟩ : ∃ v, xs (nI (5 * j) + 3).toNatClampNeg = v := ⟨_, rfl⟩
  have hi3 : vp_in (nI (5 * j) + 3) L := xl_in (k := 3) rfl (by decide) hj hL
  obtain ⟨v, ev4⟩ : ∃ v, xs (nI (5 * j) + 4).toNatClampNeg = v := ⟨_, rfl⟩
  have hi4 : vp_in (nI (5 * j) + 4) L := xl_in (k := 4) rfl (by decide) hj hL
  refine lv_aload_n hx hb d_L_law_624 rfl (lv_at hl 1 rfl) ?_
  refine lv_aload_n hx hb d_L_law_625 rfl (lv_at hl 0 rfl) ?_
  refine lv_iload hx hb d_L_law_626 (lv_at hl 4 rfl) ?_
  refine lv_iconst (v := 1) hx hb d_L_law_628 (by decide) ?_
  refine lv_iadd hx hb d_L_law_629 ?_
  refine xl_sld E hS hi1 ev1 d_L_law_630 ?_
  refine lv_aload_n hx hb d_L_law_631 rfl (lv_at hl 0 rfl) ?_
  refine lv_iload hx hb d_L_law_632 (lv_at hl 4 rfl) ?_
  refine lv_iconst (v := 2) hx hb d_L_law_634 (by decide) ?_
  refine lv_iadd hx hb d_L_law_635 ?_
  refine xl_sld E hS hi2 ev2 d_L_law_636 ?_
  refine lv_aload_n hx hb d_L_law_637 rfl (lv_at hl 0 rfl) ?_
  refine lv_iload hx hb d_L_law_638 (lv_at hl 4 rfl) ?_
  refine lv_iconst (v := 3) hx hb d_L_law_640 (by decide) ?_
  refine lv_iadd hx hb d_L_law_641 ?_
  refine xl_sld E hS hi3 ev3 d_L_law_642 ?_
  refine lv_aload_n hx hb d_L_law_643 rfl (lv_at hl 0 rfl) ?_
  refine lv_iload hx hb d_L_law_644 (lv_at hl 4 rfl) ?_
  refine lv_iconst (v := 4) hx hb d_L_law_646 (by decide) ?_
  refine lv_iadd hx hb d_L_law_647 ?_
  refine xl_sld E hS hi4 ev4 d_L_law_648 ?_
  refine lv_aload_n hx hb d_L_law_649 rfl (lv_at hl 3 rfl) ?_
  refine xl_hc (rest := []) E hX hU hO hS (c_L_message l hsl g (xl_B s.heap.size) s.heap.size s.heap.size (s.heap.size + 81) (Nat.le_add_right _ _) xl_Bw σ x y z v hI.wf) cw_L_message ml_L_102 sm_L_message ii_L hd_L_message (by omega) (by omega) (by omega) (by omega) hl.1 rfl (Nat.le_of_ble_eq_true rfl) d_L_law_650 (fun H locs f h0 hX hU hO hS => ?_)
  refine lv_istore (lv' := [(5, .int (nI (xp_message σ x y z v).1)), (0, .ref b), (1, .ref s.heap.size), (2, .ref (s.heap.size + 56)), (3, .ref (s.heap.size + 81)), (4, .int (nI (5 * j)))]) hx hb d_L_law_653 hl (by decide) rfl (fun ls hl => ?_)
  refine lv_aload_n hx hb d_L_law_655 rfl (lv_at hl 3 rfl) ?_
  refine lv_aload_n hx hb d_L_law_656 rfl (lv_at hl 1 rfl) ?_
  refine lv_iload hx hb d_L_law_657 (lv_at hl 5 rfl) ?_
  refine lv_iconst (v := 1) hx hb d_L_law_659 (by decide) ?_
  refine lv_iadd hx hb d_L_law_660 ?_
  refine xl_sld E hS hi1 ev1 d_L_law_661 ?_
  refine lv_aload_n hx hb d_L_law_662 rfl (lv_at hl 1 rfl) ?_
  refine lv_iload hx hb d_L_law_663 (lv_at hl 5 rfl) ?_
  refine lv_iconst (v := 2) hx hb d_L_law_665 (by decide) ?_
  refine lv_iadd hx hb d_L_law_666 ?_
  refine xl_sld E hS hi2 ev2 d_L_law_667 ?_
  refine lv_aload_n hx hb d_L_law_668 rfl (lv_at hl 1 rfl) ?_
  refine lv_iload hx hb d_L_law_669 (lv_at hl 5 rfl) ?_
  refine lv_iconst (v := 3) hx hb d_L_law_671 (by decide) ?_
  refine lv_iadd hx hb d_L_law_672 ?_
  refine xl_sld E hS hi3 ev3 d_L_law_673 ?_
  refine lv_aload_n hx hb d_L_law_674 rfl (lv_at hl 1 rfl) ?_
  refine lv_iload hx hb d_L_law_675 (lv_at hl 5 rfl) ?_
  refine lv_iconst (v := 4) hx hb d_L_law_677 (by decide) ?_
  refine lv_iadd hx hb d_L_law_678 ?_
  refine xl_sld E hS hi4 ev4 d_L_law_679 ?_
  refine xl_uc (rest := []) E hX hU hO hS (c_U_message l g (s.heap.size + 56) σ th rp n t a x y z v hI.wf hI.cw) gd_L_U_message hd_U_message (by omega) (by omega) (by omega) (by omega) hl.1 rfl (Nat.le_of_ble_eq_true rfl) d_L_law_680 (fun rp t a H locs hX hU hO hS => ?_)
  refine lv_istore (lv' := [(6, .int ((xp_message σ x y z v).2.1)), (5, .int (nI (xp_message σ x y z v).1)), (0, .ref b), (1, .ref s.heap.size), (2, .ref (s.heap.size + 56)), (3, .ref (s.heap.size + 81)), (4, .int (nI (5 * j)))]) hx hb d_L_law_683 hl (by decide) rfl (fun ls hl => ?_)
  refine xl_tl (j := j + 1) (P := 685) hR (by omega) (by omega) E ⟨hX, hU, hO, hS, hI.message, (by omega)⟩ (fun h => h0 (Classical.byContradiction fun h9 => ?_)) hl d_L_law_685 d_L_law_686 d_L_law_689 d_L_law_691 d_L_law_696 d_L_law_698 d_L_law_701 d_L_law_702 d_L_law_703 d_L_law_704 d_L_law_706 d_L_law_707 d_L_law_708 d_L_law_713 (by decide) (fun rp t a H locs hV => ?_)
  · rcases xp_message_c σ x y z v h9 with h8 | h8 <;> (rw [h8] at h; exact absurd h (by decide))
  · refine W.widen (k := 82 + 66 * (j + 1)) (n := 1000 + 396 * (j + 1)) (by omega) (by omega) ?_
    exact kk _ _ _ _ _ _ _ _ _ _ hV (lv_sub hl [2, 3, 4, 5, 6] rfl)
set_option maxHeartbeats 4000000 in
set_option maxRecDepth 100000 in
theorem k_L_subscribe (hsl : l.stackTraces = false) (hR : R.frames = 12 ∧ R.locals = 454 ∧ R.cells = 646917 ∧ R.slots = 7155354) (E : xl_E g p s m meth c b L xs) (hj : 5 * j + 5 ≤ L) (hL : L ≤ 2560) (hV : xl_V g s j σ th rp n t a f H locs) (hl : lv_has ls 7 (xl_lv b s.heap.size (nI (5 * j)))) (kk : xl_kk p l e R s m b below meth c Q g j) : W p l e R s m #[Value.ref b] below meth c H locs (82 + 66 * j) (1000 + 396 * j) Q (F0 m 716 ls []) := by
  obtain ⟨hRf, hRl, hRc, hRs⟩ := id hR
  obtain ⟨hC, hK, hT, hN, hX0, hbl⟩ := id E
  obtain ⟨hx, hb, hml, hr, hown, hts, hlk⟩ := id hC
  obtain ⟨hX, hU, hO, hS, hI, hn⟩ := hV
  obtain ⟨x, ev1⟩ : ∃ v, xs (nI (5 * j) + 1).toNatClampNeg = v := ⟨_, rfl⟩
  have hi1 : vp_in (nI (5 * j) + 1) L := xl_in (k := 1) rfl (by decide) hj hL
  obtain ⟨y, ev2⟩ : ∃ v, xs (nI (5 * j) + 2).toNatClampNeg = v := ⟨_, rfl⟩
  have hi2 : vp_in (nI (5 * j) + 2) L := xl_in (k := 2) rfl (by decide) hj hL
  obtain ⟨z, ev3⟩ : ∃ v, xs (nI (5 * j) + 3).toNatClampNeg = v := ⟨_, rfl⟩
  have hi3 : vp_in (nI (5 * j) + 3) L := xl_in (k := 3) rfl (by decide) hj hL
  refine lv_aload_n hx hb d_L_law_716 rfl (lv_at hl 1 rfl) ?_
  refine lv_aload_n hx hb d_L_law_717 rfl (lv_at hl 0 rfl) ?_
  refine lv_iload hx hb d_L_law_718 (lv_at hl 4 rfl) ?_
  refine lv_iconst (v := 1) hx hb d_L_law_720 (by decide) ?_
  refine lv_iadd hx hb d_L_law_721 ?_
  refine xl_sld E hS hi1 ev1 d_L_law_722 ?_
  refine lv_aload_n hx hb d_L_law_723 rfl (lv_at hl 0 rfl) ?_
  refine lv_iload hx hb d_L_law_724 (lv_at hl 4 rfl) ?_
  refine lv_iconst (v := 2) hx hb d_L_law_726 (by decide) ?_
  refine lv_iadd hx hb d_L_law_727 ?_
  refine xl_sld E hS hi2 ev2 d_L_law_728 ?_
  refine lv_aload_n hx hb d_L_law_729 rfl (lv_at hl 0 rfl) ?_
  refine lv_iload hx hb d_L_law_730 (lv_at hl 4 rfl) ?_
  refine lv_iconst (v := 3) hx hb d_L_law_732 (by decide) ?_
  refine lv_iadd hx hb d_L_law_733 ?_
  refine xl_sld E hS hi3 ev3 d_L_law_734 ?_
  refine lv_aload_n hx hb d_L_law_735 rfl (lv_at hl 3 rfl) ?_
  refine xl_hc (rest := []) E hX hU hO hS (c_L_subscribe l hsl g (xl_B s.heap.size) s.heap.size s.heap.size (s.heap.size + 81) (Nat.le_add_right _ _) xl_Bw σ x y z hI.wf) cw_L_subscribe ml_L_106 sm_L_subscribe ii_L hd_L_subscribe (by omega) (by omega) (by omega) (by omega) hl.1 rfl (Nat.le_of_ble_eq_true rfl) d_L_law_736 (fun H locs f h0 hX hU hO hS => ?_)
  refine lv_istore (lv' := [(5, .int (nI (xp_subscribe σ x y z).1)), (0, .ref b), (1, .ref s.heap.size), (2, .ref (s.heap.size + 56)), (3, .ref (s.heap.size + 81)), (4, .int (nI (5 * j)))]) hx hb d_L_law_739 hl (by decide) rfl (fun ls hl => ?_)
  refine lv_aload_n hx hb d_L_law_741 rfl (lv_at hl 3 rfl) ?_
  refine lv_aload_n hx hb d_L_law_742 rfl (lv_at hl 1 rfl) ?_
  refine lv_iload hx hb d_L_law_743 (lv_at hl 5 rfl) ?_
  refine lv_iconst (v := 1) hx hb d_L_law_745 (by decide) ?_
  refine lv_iadd hx hb d_L_law_746 ?_
  refine xl_sld E hS hi1 ev1 d_L_law_747 ?_
  refine lv_aload_n hx hb d_L_law_748 rfl (lv_at hl 1 rfl) ?_
  refine lv_iload hx hb d_L_law_749 (lv_at hl 5 rfl) ?_
  refine lv_iconst (v := 2) hx hb d_L_law_751 (by decide) ?_
  refine lv_iadd hx hb d_L_law_752 ?_
  refine xl_sld E hS hi2 ev2 d_L_law_753 ?_
  refine lv_aload_n hx hb d_L_law_754 rfl (lv_at hl 1 rfl) ?_
  refine lv_iload hx hb d_L_law_755 (lv_at hl 5 rfl) ?_
  refine lv_iconst (v := 3) hx hb d_L_law_757 (by decide) ?_
  refine lv_iadd hx hb d_L_law_758 ?_
  refine xl_sld E hS hi3 ev3 d_L_law_759 ?_
  refine xl_uc (rest := []) E hX hU hO hS (c_U_subscribe l g (s.heap.size + 56) σ th rp n t a x y z hI.wf) gd_L_U_subscribe hd_U_subscribe (by omega) (by omega) (by omega) (by omega) hl.1 rfl (Nat.le_of_ble_eq_true rfl) d_L_law_760 (fun rp t a H locs hX hU hO hS => ?_)
  refine lv_istore (lv' := [(6, .int ((xp_subscribe σ x y z).2.1)), (5, .int (nI (xp_subscribe σ x y z).1)), (0, .ref b), (1, .ref s.heap.size), (2, .ref (s.heap.size + 56)), (3, .ref (s.heap.size + 81)), (4, .int (nI (5 * j)))]) hx hb d_L_law_763 hl (by decide) rfl (fun ls hl => ?_)
  refine xl_tl (j := j + 1) (P := 765) hR (by omega) (by omega) E ⟨hX, hU, hO, hS, hI.subscribe, (by omega)⟩ (fun h => h0 (Classical.byContradiction fun h9 => ?_)) hl d_L_law_765 d_L_law_766 d_L_law_769 d_L_law_771 d_L_law_776 d_L_law_778 d_L_law_781 d_L_law_782 d_L_law_783 d_L_law_784 d_L_law_786 d_L_law_787 d_L_law_788 d_L_law_793 (by decide) (fun rp t a H locs hV => ?_)
  · rcases xp_subscribe_c σ x y z h9 with h8 | h8 <;> (rw [h8] at h; exact absurd h (by decide))
  · refine W.widen (k := 82 + 66 * (j + 1)) (n := 1000 + 396 * (j + 1)) (by omega) (by omega) ?_
    exact kk _ _ _ _ _ _ _ _ _ _ hV (lv_sub hl [2, 3, 4, 5, 6] rfl)
theorem xp_link_c (σ : xs_S) (u : Bool) : (xp_link σ u).1 = 0 := by
  unfold xp_link
  split <;> rfl
set_option maxHeartbeats 4000000 in
set_option maxRecDepth 100000 in
theorem k_L_link (hsl : l.stackTraces = false) (hR : R.frames = 12 ∧ R.locals = 454 ∧ R.cells = 646917 ∧ R.slots = 7155354) (E : xl_E g p s m meth c b L xs) (hj : 5 * j + 5 ≤ L) (hL : L ≤ 2560) (hV : xl_V g s j σ th rp n t a f H locs) (hl : lv_has ls 7 (xl_lv b s.heap.size (nI (5 * j)))) (kk : xl_kk p l e R s m b below meth c Q g j) : W p l e R s m #[Value.ref b] below meth c H locs (82 + 66 * j) (1000 + 396 * j) Q (F0 m 796 ls []) := by
  obtain ⟨hRf, hRl, hRc, hRs⟩ := id hR
  obtain ⟨hC, hK, hT, hN, hX0, hbl⟩ := id E
  obtain ⟨hx, hb, hml, hr, hown, hts, hlk⟩ := id hC
  obtain ⟨hX, hU, hO, hS, hI, hn⟩ := hV
  obtain ⟨x, ev1⟩ : ∃ v, xs (nI (5 * j) + 1).toNatClampNeg = v := ⟨_, rfl⟩
  have hi1 : vp_in (nI (5 * j) + 1) L := xl_in (k := 1) rfl (by decide) hj hL
  refine lv_aload_n hx hb d_L_law_796 rfl (lv_at hl 1 rfl) ?_
  refine lv_aload_n hx hb d_L_law_797 rfl (lv_at hl 0 rfl) ?_
  refine lv_iload hx hb d_L_law_798 (lv_at hl 4 rfl) ?_
  refine lv_iconst (v := 1) hx hb d_L_law_800 (by decide) ?_
  refine lv_iadd hx hb d_L_law_801 ?_
  refine xl_sld E hS hi1 ev1 d_L_law_802 ?_
  refine lv_if_eq (tgt := 810) hx hb d_L_law_803 (by decide) (fun c1 => ?_) (fun c1 => ?_)
  · refine lv_iconst (v := 0) hx hb d_L_law_810 (by decide) ?_
    refine xl_iF (rest := []) (c_X_link l hsl g (xl_B s.heap.size) s.heap.size s.heap.size σ false hI.wf) gd_L_X_link hd_X_link hC hK hT (Nat.le_refl _) hX hS (fun _ h => h) (fun q h => h.elim (fun z => z.1) (fun z => Nat.le_trans hS.1 z)) (by omega) (by omega) (by omega) (by omega) hl.1 rfl (Nat.le_of_ble_eq_true rfl) d_L_law_811 (fun H1 locs h0 hX1 hS hF => ?_) (fun ce q9 H1 locs h0 hX1 hS hF e1 e2 e3 => absurd (xp_link_c σ false) h0)
    have hU := hU.keep (H1 := H1) (fun q hq => hF.2 q (by have := hU.lt; obtain ⟨q1, q2⟩ := hq; omega) (by obtain ⟨q1, q2⟩ := hq; intro z; obtain ⟨z1, z2, z3⟩ := z; omega))
    have hO := hO.kept (H1 := H1) (hF.2 _ hO.lt xl_Bw.2)
    refine lv_aload_n hx hb d_L_law_814 rfl (lv_at hl 2 rfl) ?_
    refine lv_aload_n hx hb d_L_law_815 rfl (lv_at hl 0 rfl) ?_
    refine lv_iload hx hb d_L_law_816 (lv_at hl 4 rfl) ?_
    refine lv_iconst (v := 1) hx hb d_L_law_818 (by decide) ?_
    refine lv_iadd hx hb d_L_law_819 ?_
    refine xl_sld E hS hi1 ev1 d_L_law_820 ?_
    refine lv_if_eq (tgt := 828) hx hb d_L_law_821 (by decide) (fun c2 => ?_) (fun c2 => absurd c1 c2)
    refine lv_iconst (v := 0) hx hb d_L_law_828 (by decide) ?_
    refine xl_uc (rest := [.int (xp_link σ false).2.1]) E hX1 hU hO hS (c_U_link l g (s.heap.size + 56) σ th rp n t a false hI.wf hI.cw hI.sh) gd_L_U_link hd_U_link (by omega) (by omega) (by omega) (by omega) hl.1 rfl (Nat.le_of_ble_eq_true rfl) d_L_law_829 (fun rp t a H locs hX hU hO hS => ?_)
    refine lv_icmp_eq (tgt := 1141) hx hb d_L_law_832 (by decide) (fun _ => ?_) (fun h => absurd rfl h)
    refine W.widen (k := 82 + 66 * (j + 1)) (n := 1000 + 396 * (j + 1)) (by omega) (by omega) ?_
    exact kk _ _ _ _ _ _ _ _ _ _ ⟨hX, hU, hO, hS, hI.link, by omega⟩ hl
  · refine lv_iconst (v := 1) hx hb d_L_law_806 (by decide) ?_
    refine lv_goto (tgt := 811) hx hb d_L_law_807 (by decide) ?_
    refine xl_iF (rest := []) (c_X_link l hsl g (xl_B s.heap.size) s.heap.size s.heap.size σ true hI.wf) gd_L_X_link hd_X_link hC hK hT (Nat.le_refl _) hX hS (fun _ h => h) (fun q h => h.elim (fun z => z.1) (fun z => Nat.le_trans hS.1 z)) (by omega) (by omega) (by omega) (by omega) hl.1 rfl (Nat.le_of_ble_eq_true rfl) d_L_law_811 (fun H1 locs h0 hX1 hS hF => ?_) (fun ce q9 H1 locs h0 hX1 hS hF e1 e2 e3 => absurd (xp_link_c σ true) h0)
    have hU := hU.keep (H1 := H1) (fun q hq => hF.2 q (by have := hU.lt; obtain ⟨q1, q2⟩ := hq; omega) (by obtain ⟨q1, q2⟩ := hq; intro z; obtain ⟨z1, z2, z3⟩ := z; omega))
    have hO := hO.kept (H1 := H1) (hF.2 _ hO.lt xl_Bw.2)
    refine lv_aload_n hx hb d_L_law_814 rfl (lv_at hl 2 rfl) ?_
    refine lv_aload_n hx hb d_L_law_815 rfl (lv_at hl 0 rfl) ?_
    refine lv_iload hx hb d_L_law_816 (lv_at hl 4 rfl) ?_
    refine lv_iconst (v := 1) hx hb d_L_law_818 (by decide) ?_
    refine lv_iadd hx hb d_L_law_819 ?_
    refine xl_sld E hS hi1 ev1 d_L_law_820 ?_
    refine lv_if_eq (tgt := 828) hx hb d_L_law_821 (by decide) (fun c2 => absurd c2 c1) (fun c2 => ?_)
    refine lv_iconst (v := 1) hx hb d_L_law_824 (by decide) ?_
    refine lv_goto (tgt := 829) hx hb d_L_law_825 (by decide) ?_
    refine xl_uc (rest := [.int (xp_link σ true).2.1]) E hX1 hU hO hS (c_U_link l g (s.heap.size + 56) σ th rp n t a true hI.wf hI.cw hI.sh) gd_L_U_link hd_U_link (by omega) (by omega) (by omega) (by omega) hl.1 rfl (Nat.le_of_ble_eq_true rfl) d_L_law_829 (fun rp t a H locs hX hU hO hS => ?_)
    refine lv_icmp_eq (tgt := 1141) hx hb d_L_law_832 (by decide) (fun _ => ?_) (fun h => absurd rfl h)
    refine W.widen (k := 82 + 66 * (j + 1)) (n := 1000 + 396 * (j + 1)) (by omega) (by omega) ?_
    exact kk _ _ _ _ _ _ _ _ _ _ ⟨hX, hU, hO, hS, hI.link, by omega⟩ hl
set_option maxHeartbeats 4000000 in
set_option maxRecDepth 100000 in
theorem k_L_take (hsl : l.stackTraces = false) (hR : R.frames = 12 ∧ R.locals = 454 ∧ R.cells = 646917 ∧ R.slots = 7155354) (E : xl_E g p s m meth c b L xs) (hj : 5 * j + 5 ≤ L) (hL : L ≤ 2560) (hV : xl_V g s j σ th rp n t a f H locs) (hl : lv_has ls 7 (xl_lv b s.heap.size (nI (5 * j)))) (kk : xl_kk p l e R s m b below meth c Q g j) : W p l e R s m #[Value.ref b] below meth c H locs (82 + 66 * j) (1000 + 396 * j) Q (F0 m 837 ls []) := by
  obtain ⟨hRf, hRl, hRc, hRs⟩ := id hR
  obtain ⟨hC, hK, hT, hN, hX0, hbl⟩ := id E
  obtain ⟨hx, hb, hml, hr, hown, hts, hlk⟩ := id hC
  obtain ⟨hX, hU, hO, hS, hI, hn⟩ := hV
  obtain ⟨x, ev1⟩ : ∃ v, xs (nI (5 * j) + 1).toNatClampNeg = v := ⟨_, rfl⟩
  have hi1 : vp_in (nI (5 * j) + 1) L := xl_in (k := 1) rfl (by decide) hj hL
  refine lv_aload_n hx hb d_L_law_837 rfl (lv_at hl 1 rfl) ?_
  refine lv_aload_n hx hb d_L_law_838 rfl (lv_at hl 0 rfl) ?_
  refine lv_iload hx hb d_L_law_839 (lv_at hl 4 rfl) ?_
  refine lv_iconst (v := 1) hx hb d_L_law_841 (by decide) ?_
  refine lv_iadd hx hb d_L_law_842 ?_
  refine xl_sld E hS hi1 ev1 d_L_law_843 ?_
  refine lv_aload_n hx hb d_L_law_844 rfl (lv_at hl 3 rfl) ?_
  refine xl_hc (rest := []) E hX hU hO hS (c_L_take l hsl g (xl_B s.heap.size) s.heap.size s.heap.size (s.heap.size + 81) (Nat.le_add_right _ _) xl_Bw σ x) cw_L_take ml_L_115 sm_L_take ii_L hd_L_take (by omega) (by omega) (by omega) (by omega) hl.1 rfl (Nat.le_of_ble_eq_true rfl) d_L_law_845 (fun H locs f h0 hX hU hO hS => ?_)
  refine lv_istore (lv' := [(5, .int (if (xp_take σ x).1 = 4 then 2 else nI (xp_take σ x).1)), (0, .ref b), (1, .ref s.heap.size), (2, .ref (s.heap.size + 56)), (3, .ref (s.heap.size + 81)), (4, .int (nI (5 * j)))]) hx hb d_L_law_848 hl (by decide) rfl (fun ls hl => ?_)
  refine lv_aload_n hx hb d_L_law_850 rfl (lv_at hl 3 rfl) ?_
  refine lv_aload_n hx hb d_L_law_851 rfl (lv_at hl 1 rfl) ?_
  refine lv_iload hx hb d_L_law_852 (lv_at hl 5 rfl) ?_
  refine lv_iconst (v := 1) hx hb d_L_law_854 (by decide) ?_
  refine lv_iadd hx hb d_L_law_855 ?_
  refine xl_sld E hS hi1 ev1 d_L_law_856 ?_
  refine xl_uc (rest := []) E hX hU hO hS (c_U_take l g (s.heap.size + 56) σ th rp n t a x) gd_L_U_take hd_U_take (by omega) (by omega) (by omega) (by omega) hl.1 rfl (Nat.le_of_ble_eq_true rfl) d_L_law_857 (fun rp t a H locs hX hU hO hS => ?_)
  refine lv_istore (lv' := [(6, .int ((xp_take σ x).2.1)), (5, .int (if (xp_take σ x).1 = 4 then 2 else nI (xp_take σ x).1)), (0, .ref b), (1, .ref s.heap.size), (2, .ref (s.heap.size + 56)), (3, .ref (s.heap.size + 81)), (4, .int (nI (5 * j)))]) hx hb d_L_law_860 hl (by decide) rfl (fun ls hl => ?_)
  refine xl_tl (j := j + 1) (P := 862) hR (by omega) (by omega) E ⟨hX, hU, hO, hS, hI.take, (by omega)⟩ (fun h => h0 (Classical.byContradiction fun h9 => ?_)) hl d_L_law_862 d_L_law_863 d_L_law_866 d_L_law_868 d_L_law_873 d_L_law_875 d_L_law_878 d_L_law_879 d_L_law_880 d_L_law_881 d_L_law_883 d_L_law_884 d_L_law_885 d_L_law_890 (by decide) (fun rp t a H locs hV => ?_)
  · rcases xp_take_c σ x h9 with h8 | h8 <;> (rw [h8] at h; exact absurd h (by decide))
  · refine W.widen (k := 82 + 66 * (j + 1)) (n := 1000 + 396 * (j + 1)) (by omega) (by omega) ?_
    exact kk _ _ _ _ _ _ _ _ _ _ hV (lv_sub hl [2, 3, 4, 5, 6] rfl)
set_option maxHeartbeats 4000000 in
set_option maxRecDepth 100000 in
theorem k_L_taken (hsl : l.stackTraces = false) (hR : R.frames = 12 ∧ R.locals = 454 ∧ R.cells = 646917 ∧ R.slots = 7155354) (E : xl_E g p s m meth c b L xs) (hj : 5 * j + 5 ≤ L) (hL : L ≤ 2560) (hV : xl_V g s j σ th rp n t a f H locs) (hl : lv_has ls 7 (xl_lv b s.heap.size (nI (5 * j)))) (kk : xl_kk p l e R s m b below meth c Q g j) : W p l e R s m #[Value.ref b] below meth c H locs (82 + 66 * j) (1000 + 396 * j) Q (F0 m 893 ls []) := by
  obtain ⟨hRf, hRl, hRc, hRs⟩ := id hR
  obtain ⟨hC, hK, hT, hN, hX0, hbl⟩ := id E
  obtain ⟨hx, hb, hml, hr, hown, hts, hlk⟩ := id hC
  obtain ⟨hX, hU, hO, hS, hI, hn⟩ := hV
  obtain ⟨x, ev1⟩ : ∃ v, xs (nI (5 * j) + 1).toNatClampNeg = v := ⟨_, rfl⟩
  have hi1 : vp_in (nI (5 * j) + 1) L := xl_in (k := 1) rfl (by decide) hj hL
  refine lv_aload_n hx hb d_L_law_893 rfl (lv_at hl 1 rfl) ?_
  refine lv_aload_n hx hb d_L_law_894 rfl (lv_at hl 0 rfl) ?_
  refine lv_iload hx hb d_L_law_895 (lv_at hl 4 rfl) ?_
  refine lv_iconst (v := 1) hx hb d_L_law_897 (by decide) ?_
  refine lv_iadd hx hb d_L_law_898 ?_
  refine xl_sld E hS hi1 ev1 d_L_law_899 ?_
  refine lv_aload_n hx hb d_L_law_900 rfl (lv_at hl 3 rfl) ?_
  refine xl_hc (rest := []) E hX hU hO hS (c_L_taken l hsl g (xl_B s.heap.size) s.heap.size s.heap.size (s.heap.size + 81) (Nat.le_add_right _ _) xl_Bw σ x) cw_L_taken ml_L_118 sm_L_taken ii_L hd_L_taken (by omega) (by omega) (by omega) (by omega) hl.1 rfl (Nat.le_of_ble_eq_true rfl) d_L_law_901 (fun H locs f h0 hX hU hO hS => ?_)
  refine lv_istore (lv' := [(5, .int (if (xp_taken σ x).1 = 4 then 1 else if (xp_taken σ x).1 = 1 then 2 else 0)), (0, .ref b), (1, .ref s.heap.size), (2, .ref (s.heap.size + 56)), (3, .ref (s.heap.size + 81)), (4, .int (nI (5 * j)))]) hx hb d_L_law_904 hl (by decide) rfl (fun ls hl => ?_)
  refine lv_aload_n hx hb d_L_law_906 rfl (lv_at hl 3 rfl) ?_
  refine lv_aload_n hx hb d_L_law_907 rfl (lv_at hl 1 rfl) ?_
  refine lv_iload hx hb d_L_law_908 (lv_at hl 5 rfl) ?_
  refine lv_iconst (v := 1) hx hb d_L_law_910 (by decide) ?_
  refine lv_iadd hx hb d_L_law_911 ?_
  refine xl_sld E hS hi1 ev1 d_L_law_912 ?_
  refine xl_uc (rest := []) E hX hU hO hS (c_U_taken l g (s.heap.size + 56) σ th rp n t a x) gd_L_U_taken hd_U_taken (by omega) (by omega) (by omega) (by omega) hl.1 rfl (Nat.le_of_ble_eq_true rfl) d_L_law_913 (fun rp t a H locs hX hU hO hS => ?_)
  refine lv_istore (lv' := [(6, .int ((xp_taken σ x).2.1)), (5, .int (if (xp_taken σ x).1 = 4 then 1 else if (xp_taken σ x).1 = 1 then 2 else 0)), (0, .ref b), (1, .ref s.heap.size), (2, .ref (s.heap.size + 56)), (3, .ref (s.heap.size + 81)), (4, .int (nI (5 * j)))]) hx hb d_L_law_916 hl (by decide) rfl (fun ls hl => ?_)
  refine xl_tl (j := j + 1) (P := 918) hR (by omega) (by omega) E ⟨hX, hU, hO, hS, hI.taken, (by omega)⟩ (fun h => h0 (Classical.byContradiction fun h9 => ?_)) hl d_L_law_918 d_L_law_919 d_L_law_922 d_L_law_924 d_L_law_929 d_L_law_931 d_L_law_934 d_L_law_935 d_L_law_936 d_L_law_937 d_L_law_939 d_L_law_940 d_L_law_941 d_L_law_946 (by decide) (fun rp t a H locs hV => ?_)
  · rcases xp_taken_c σ x h9 with h8 | h8 <;> (rw [h8] at h; exact absurd h (by decide))
  · refine W.widen (k := 82 + 66 * (j + 1)) (n := 1000 + 396 * (j + 1)) (by omega) (by omega) ?_
    exact kk _ _ _ _ _ _ _ _ _ _ hV (lv_sub hl [2, 3, 4, 5, 6] rfl)
set_option maxHeartbeats 4000000 in
set_option maxRecDepth 100000 in
theorem k_L_roster (hsl : l.stackTraces = false) (hR : R.frames = 12 ∧ R.locals = 454 ∧ R.cells = 646917 ∧ R.slots = 7155354) (E : xl_E g p s m meth c b L xs) (hj : 5 * j + 5 ≤ L) (hL : L ≤ 2560) (hV : xl_V g s j σ th rp n t a f H locs) (hl : lv_has ls 7 (xl_lv b s.heap.size (nI (5 * j)))) (kk : xl_kk p l e R s m b below meth c Q g j) : W p l e R s m #[Value.ref b] below meth c H locs (82 + 66 * j) (1000 + 396 * j) Q (F0 m 949 ls []) := by
  obtain ⟨hRf, hRl, hRc, hRs⟩ := id hR
  obtain ⟨hC, hK, hT, hN, hX0, hbl⟩ := id E
  obtain ⟨hx, hb, hml, hr, hown, hts, hlk⟩ := id hC
  obtain ⟨hX, hU, hO, hS, hI, hn⟩ := hV
  obtain ⟨x, ev1⟩ : ∃ v, xs (nI (5 * j) + 1).toNatClampNeg = v := ⟨_, rfl⟩
  have hi1 : vp_in (nI (5 * j) + 1) L := xl_in (k := 1) rfl (by decide) hj hL
  obtain ⟨y, ev2⟩ : ∃ v, xs (nI (5 * j) + 2).toNatClampNeg = v := ⟨_, rfl⟩
  have hi2 : vp_in (nI (5 * j) + 2) L := xl_in (k := 2) rfl (by decide) hj hL
  refine lv_aload_n hx hb d_L_law_949 rfl (lv_at hl 1 rfl) ?_
  refine lv_aload_n hx hb d_L_law_950 rfl (lv_at hl 0 rfl) ?_
  refine lv_iload hx hb d_L_law_951 (lv_at hl 4 rfl) ?_
  refine lv_iconst (v := 1) hx hb d_L_law_953 (by decide) ?_
  refine lv_iadd hx hb d_L_law_954 ?_
  refine xl_sld E hS hi1 ev1 d_L_law_955 ?_
  refine lv_aload_n hx hb d_L_law_956 rfl (lv_at hl 0 rfl) ?_
  refine lv_iload hx hb d_L_law_957 (lv_at hl 4 rfl) ?_
  refine lv_iconst (v := 2) hx hb d_L_law_959 (by decide) ?_
  refine lv_iadd hx hb d_L_law_960 ?_
  refine xl_sld E hS hi2 ev2 d_L_law_961 ?_
  refine lv_aload_n hx hb d_L_law_962 rfl (lv_at hl 3 rfl) ?_
  refine xl_hc (rest := []) E hX hU hO hS (c_L_roster l hsl g (xl_B s.heap.size) s.heap.size s.heap.size (s.heap.size + 81) (Nat.le_add_right _ _) xl_Bw σ x y) cw_L_roster ml_L_121 sm_L_roster ii_L hd_L_roster (by omega) (by omega) (by omega) (by omega) hl.1 rfl (Nat.le_of_ble_eq_true rfl) d_L_law_963 (fun H locs f h0 hX hU hO hS => ?_)
  refine lv_istore (lv' := [(5, .int (nI (xp_roster σ x y).1)), (0, .ref b), (1, .ref s.heap.size), (2, .ref (s.heap.size + 56)), (3, .ref (s.heap.size + 81)), (4, .int (nI (5 * j)))]) hx hb d_L_law_966 hl (by decide) rfl (fun ls hl => ?_)
  refine lv_aload_n hx hb d_L_law_968 rfl (lv_at hl 3 rfl) ?_
  refine lv_aload_n hx hb d_L_law_969 rfl (lv_at hl 1 rfl) ?_
  refine lv_iload hx hb d_L_law_970 (lv_at hl 5 rfl) ?_
  refine lv_iconst (v := 1) hx hb d_L_law_972 (by decide) ?_
  refine lv_iadd hx hb d_L_law_973 ?_
  refine xl_sld E hS hi1 ev1 d_L_law_974 ?_
  refine lv_aload_n hx hb d_L_law_975 rfl (lv_at hl 1 rfl) ?_
  refine lv_iload hx hb d_L_law_976 (lv_at hl 5 rfl) ?_
  refine lv_iconst (v := 2) hx hb d_L_law_978 (by decide) ?_
  refine lv_iadd hx hb d_L_law_979 ?_
  refine xl_sld E hS hi2 ev2 d_L_law_980 ?_
  refine xl_uc (rest := []) E hX hU hO hS (c_U_roster l g (s.heap.size + 56) σ th rp n t a x y) gd_L_U_roster hd_U_roster (by omega) (by omega) (by omega) (by omega) hl.1 rfl (Nat.le_of_ble_eq_true rfl) d_L_law_981 (fun rp t a H locs hX hU hO hS => ?_)
  refine lv_istore (lv' := [(6, .int ((xp_roster σ x y).2.1)), (5, .int (nI (xp_roster σ x y).1)), (0, .ref b), (1, .ref s.heap.size), (2, .ref (s.heap.size + 56)), (3, .ref (s.heap.size + 81)), (4, .int (nI (5 * j)))]) hx hb d_L_law_984 hl (by decide) rfl (fun ls hl => ?_)
  refine xl_tl (j := j + 1) (P := 986) hR (by omega) (by omega) E ⟨hX, hU, hO, hS, hI.roster, (by omega)⟩ (fun h => h0 (Classical.byContradiction fun h9 => ?_)) hl d_L_law_986 d_L_law_987 d_L_law_990 d_L_law_992 d_L_law_997 d_L_law_999 d_L_law_1002 d_L_law_1003 d_L_law_1004 d_L_law_1005 d_L_law_1007 d_L_law_1008 d_L_law_1009 d_L_law_1014 (by decide) (fun rp t a H locs hV => ?_)
  · have h8 := xp_roster_c σ x y h9
    rw [h8] at h
    exact absurd h (by decide)
  · refine W.widen (k := 82 + 66 * (j + 1)) (n := 1000 + 396 * (j + 1)) (by omega) (by omega) ?_
    exact kk _ _ _ _ _ _ _ _ _ _ hV (lv_sub hl [2, 3, 4, 5, 6] rfl)
set_option maxHeartbeats 4000000 in
set_option maxRecDepth 100000 in
theorem k_L_connection (hsl : l.stackTraces = false) (hR : R.frames = 12 ∧ R.locals = 454 ∧ R.cells = 646917 ∧ R.slots = 7155354) (E : xl_E g p s m meth c b L xs) (hj : 5 * j + 5 ≤ L) (hL : L ≤ 2560) (hV : xl_V g s j σ th rp n t a f H locs) (hl : lv_has ls 7 (xl_lv b s.heap.size (nI (5 * j)))) (kk : xl_kk p l e R s m b below meth c Q g j) : W p l e R s m #[Value.ref b] below meth c H locs (82 + 66 * j) (1000 + 396 * j) Q (F0 m 1017 ls []) := by
  obtain ⟨hRf, hRl, hRc, hRs⟩ := id hR
  obtain ⟨hC, hK, hT, hN, hX0, hbl⟩ := id E
  obtain ⟨hx, hb, hml, hr, hown, hts, hlk⟩ := id hC
  obtain ⟨hX, hU, hO, hS, hI, hn⟩ := hV
  obtain ⟨x, ev1⟩ : ∃ v, xs (nI (5 * j) + 1).toNatClampNeg = v := ⟨_, rfl⟩
  have hi1 : vp_in (nI (5 * j) + 1) L := xl_in (k := 1) rfl (by decide) hj hL
  obtain ⟨y, ev2⟩ : ∃ v, xs (nI (5 * j) + 2).toNatClampNeg = v := ⟨_, rfl⟩
  have hi2 : vp_in (nI (5 * j) + 2) L := xl_in (k := 2) rfl (by decide) hj hL
  refine lv_aload_n hx hb d_L_law_1017 rfl (lv_at hl 1 rfl) ?_
  refine lv_aload_n hx hb d_L_law_1018 rfl (lv_at hl 0 rfl) ?_
  refine lv_iload hx hb d_L_law_1019 (lv_at hl 4 rfl) ?_
  refine lv_iconst (v := 1) hx hb d_L_law_1021 (by decide) ?_
  refine lv_iadd hx hb d_L_law_1022 ?_
  refine xl_sld E hS hi1 ev1 d_L_law_1023 ?_
  refine lv_aload_n hx hb d_L_law_1024 rfl (lv_at hl 0 rfl) ?_
  refine lv_iload hx hb d_L_law_1025 (lv_at hl 4 rfl) ?_
  refine lv_iconst (v := 2) hx hb d_L_law_1027 (by decide) ?_
  refine lv_iadd hx hb d_L_law_1028 ?_
  refine xl_sld E hS hi2 ev2 d_L_law_1029 ?_
  refine lv_aload_n hx hb d_L_law_1030 rfl (lv_at hl 3 rfl) ?_
  refine xl_hc (rest := []) E hX hU hO hS (c_L_connection l hsl g (xl_B s.heap.size) s.heap.size s.heap.size (s.heap.size + 81) (Nat.le_add_right _ _) xl_Bw σ x y) cw_L_connection ml_L_124 sm_L_connection ii_L hd_L_connection (by omega) (by omega) (by omega) (by omega) hl.1 rfl (Nat.le_of_ble_eq_true rfl) d_L_law_1031 (fun H locs f h0 hX hU hO hS => ?_)
  refine lv_istore (lv' := [(5, .int (nI (xp_connection σ x y).1)), (0, .ref b), (1, .ref s.heap.size), (2, .ref (s.heap.size + 56)), (3, .ref (s.heap.size + 81)), (4, .int (nI (5 * j)))]) hx hb d_L_law_1034 hl (by decide) rfl (fun ls hl => ?_)
  refine lv_aload_n hx hb d_L_law_1036 rfl (lv_at hl 3 rfl) ?_
  refine lv_aload_n hx hb d_L_law_1037 rfl (lv_at hl 1 rfl) ?_
  refine lv_iload hx hb d_L_law_1038 (lv_at hl 5 rfl) ?_
  refine lv_iconst (v := 1) hx hb d_L_law_1040 (by decide) ?_
  refine lv_iadd hx hb d_L_law_1041 ?_
  refine xl_sld E hS hi1 ev1 d_L_law_1042 ?_
  refine lv_aload_n hx hb d_L_law_1043 rfl (lv_at hl 1 rfl) ?_
  refine lv_iload hx hb d_L_law_1044 (lv_at hl 5 rfl) ?_
  refine lv_iconst (v := 2) hx hb d_L_law_1046 (by decide) ?_
  refine lv_iadd hx hb d_L_law_1047 ?_
  refine xl_sld E hS hi2 ev2 d_L_law_1048 ?_
  refine xl_uc (rest := []) E hX hU hO hS (c_U_connection l g (s.heap.size + 56) σ th rp n t a x y) gd_L_U_connection hd_U_connection (by omega) (by omega) (by omega) (by omega) hl.1 rfl (Nat.le_of_ble_eq_true rfl) d_L_law_1049 (fun rp t a H locs hX hU hO hS => ?_)
  refine lv_istore (lv' := [(6, .int ((xp_connection σ x y).2.1)), (5, .int (nI (xp_connection σ x y).1)), (0, .ref b), (1, .ref s.heap.size), (2, .ref (s.heap.size + 56)), (3, .ref (s.heap.size + 81)), (4, .int (nI (5 * j)))]) hx hb d_L_law_1052 hl (by decide) rfl (fun ls hl => ?_)
  refine xl_tl (j := j + 1) (P := 1054) hR (by omega) (by omega) E ⟨hX, hU, hO, hS, hI.connection, (by omega)⟩ (fun h => h0 (Classical.byContradiction fun h9 => ?_)) hl d_L_law_1054 d_L_law_1055 d_L_law_1058 d_L_law_1060 d_L_law_1065 d_L_law_1067 d_L_law_1070 d_L_law_1071 d_L_law_1072 d_L_law_1073 d_L_law_1075 d_L_law_1076 d_L_law_1077 d_L_law_1082 (by decide) (fun rp t a H locs hV => ?_)
  · have h8 := xp_connection_c σ x y h9
    rw [h8] at h
    exact absurd h (by decide)
  · refine W.widen (k := 82 + 66 * (j + 1)) (n := 1000 + 396 * (j + 1)) (by omega) (by omega) ?_
    exact kk _ _ _ _ _ _ _ _ _ _ hV (lv_sub hl [2, 3, 4, 5, 6] rfl)
set_option maxHeartbeats 4000000 in
set_option maxRecDepth 100000 in
theorem k_L_count (hsl : l.stackTraces = false) (hR : R.frames = 12 ∧ R.locals = 454 ∧ R.cells = 646917 ∧ R.slots = 7155354) (E : xl_E g p s m meth c b L xs) (hj : 5 * j + 5 ≤ L) (hL : L ≤ 2560) (hV : xl_V g s j σ th rp n t a f H locs) (hl : lv_has ls 7 (xl_lv b s.heap.size (nI (5 * j)))) (kk : xl_kk p l e R s m b below meth c Q g j) : W p l e R s m #[Value.ref b] below meth c H locs (82 + 66 * j) (1000 + 396 * j) Q (F0 m 1085 ls []) := by
  obtain ⟨hRf, hRl, hRc, hRs⟩ := id hR
  obtain ⟨hC, hK, hT, hN, hX0, hbl⟩ := id E
  obtain ⟨hx, hb, hml, hr, hown, hts, hlk⟩ := id hC
  obtain ⟨hX, hU, hO, hS, hI, hn⟩ := hV
  obtain ⟨x, ev1⟩ : ∃ v, xs (nI (5 * j) + 1).toNatClampNeg = v := ⟨_, rfl⟩
  have hi1 : vp_in (nI (5 * j) + 1) L := xl_in (k := 1) rfl (by decide) hj hL
  refine lv_aload_n hx hb d_L_law_1085 rfl (lv_at hl 1 rfl) ?_
  refine lv_aload_n hx hb d_L_law_1086 rfl (lv_at hl 0 rfl) ?_
  refine lv_iload hx hb d_L_law_1087 (lv_at hl 4 rfl) ?_
  refine lv_iconst (v := 1) hx hb d_L_law_1089 (by decide) ?_
  refine lv_iadd hx hb d_L_law_1090 ?_
  refine xl_sld E hS hi1 ev1 d_L_law_1091 ?_
  refine lv_aload_n hx hb d_L_law_1092 rfl (lv_at hl 3 rfl) ?_
  refine xl_hc (rest := []) E hX hU hO hS (c_L_count l hsl g (xl_B s.heap.size) s.heap.size s.heap.size (s.heap.size + 81) (Nat.le_add_right _ _) xl_Bw σ x) cw_L_count ml_L_127 sm_L_count ii_L hd_L_count (by omega) (by omega) (by omega) (by omega) hl.1 rfl (Nat.le_of_ble_eq_true rfl) d_L_law_1093 (fun H locs f h0 hX hU hO hS => ?_)
  refine lv_istore (lv' := [(5, .int (nI (xp_count σ x).1)), (0, .ref b), (1, .ref s.heap.size), (2, .ref (s.heap.size + 56)), (3, .ref (s.heap.size + 81)), (4, .int (nI (5 * j)))]) hx hb d_L_law_1096 hl (by decide) rfl (fun ls hl => ?_)
  refine lv_aload_n hx hb d_L_law_1098 rfl (lv_at hl 3 rfl) ?_
  refine lv_aload_n hx hb d_L_law_1099 rfl (lv_at hl 1 rfl) ?_
  refine lv_iload hx hb d_L_law_1100 (lv_at hl 5 rfl) ?_
  refine lv_iconst (v := 1) hx hb d_L_law_1102 (by decide) ?_
  refine lv_iadd hx hb d_L_law_1103 ?_
  refine xl_sld E hS hi1 ev1 d_L_law_1104 ?_
  refine xl_uc (rest := []) E hX hU hO hS (c_U_count l g (s.heap.size + 56) σ th rp n t a x) gd_L_U_count hd_U_count (by omega) (by omega) (by omega) (by omega) hl.1 rfl (Nat.le_of_ble_eq_true rfl) d_L_law_1105 (fun rp t a H locs hX hU hO hS => ?_)
  refine lv_istore (lv' := [(6, .int ((xp_count σ x).2.1)), (5, .int (nI (xp_count σ x).1)), (0, .ref b), (1, .ref s.heap.size), (2, .ref (s.heap.size + 56)), (3, .ref (s.heap.size + 81)), (4, .int (nI (5 * j)))]) hx hb d_L_law_1108 hl (by decide) rfl (fun ls hl => ?_)
  refine xl_tl (j := j + 1) (P := 1110) hR (by omega) (by omega) E ⟨hX, hU, hO, hS, hI.count, (by omega)⟩ (fun h => h0 (Classical.byContradiction fun h9 => ?_)) hl d_L_law_1110 d_L_law_1111 d_L_law_1114 d_L_law_1116 d_L_law_1121 d_L_law_1123 d_L_law_1126 d_L_law_1127 d_L_law_1128 d_L_law_1129 d_L_law_1131 d_L_law_1132 d_L_law_1133 d_L_law_1138 (by decide) (fun rp t a H locs hV => ?_)
  · have h8 := xp_count_c σ x h9
    rw [h8] at h
    exact absurd h (by decide)
  · refine W.widen (k := 82 + 66 * (j + 1)) (n := 1000 + 396 * (j + 1)) (by omega) (by omega) ?_
    exact kk _ _ _ _ _ _ _ _ _ _ hV (lv_sub hl [2, 3, 4, 5, 6] rfl)
end XLM
