/-! ===== the law's cases ===== -/
def L_w (b xo : Nat) (ay : Nat → Nat) (uo i : Nat) (due : Int32) : List (Nat × Value) := [(20, .int due), (19, .int due), (12, .int (nI i)), (11, .ref uo), (10, .ref (ay 8)), (9, .ref (ay 7)), (8, .ref (ay 6)), (7, .ref (ay 5)), (6, .ref (ay 4)), (5, .ref (ay 3)), (4, .ref (ay 2)), (3, .ref (ay 1)), (2, .ref (ay 0)), (1, .ref xo), (0, .ref b)]
section LC
variable {p : Program} {l : Launch} {e : Env} {s : State} {m : MethodId} {below : List Frame} {meth : Method} {c : Code} {H : Heap} {locs : List Loc} {cells slots : Nat} {Q : State → Prop} {ls : Array Slot} {D : va_G} {tI tZ tL : ClassId} {xo uo b L i : Nat} {xs : Nat → Int32} {ax ay : Nat → Nat} {σ μ τ : ST} {υ : Nat → Int64} {td np nr T : Nat}
set_option maxHeartbeats 4000000 in
set_option maxRecDepth 100000 in
theorem lc_ap (E : L_E p l s m meth c b L xs D tI tZ tL) (A : L_A s xo ax ay uo) (hR : RR σ μ td np nr) (hY : YY μ τ υ td np nr T) (hT : T < 110) (htd : td ≤ 4 * T) (hcap : cells + 1 ≤ room_1.cells ∧ slots + 6 ≤ room_1.slots) (v pu0 st0 : Int32) (act rec sub : Nat) (hPx : va_P D vwCl (x_W tI tZ xo ax σ) H) (hPy : va_P D vwCl (y_W tI tZ 0 ay τ) H) (hPu : va_P D vwCl (u_W tL uo υ) H) (hS : va_S (L_g s) s.heap H locs) (hl : lv_has ls 23 [(20, .int 0), (19, .int 0), (18, .int st0), (17, .int pu0), (16, .int (nI sub)), (15, .int (nI rec)), (14, .int (nI act)), (13, .int v), (12, .int (nI i)), (11, .ref uo), (10, .ref (ay 8)), (9, .ref (ay 7)), (8, .ref (ay 6)), (7, .ref (ay 5)), (6, .ref (ay 4)), (5, .ref (ay 3)), (4, .ref (ay 2)), (3, .ref (ay 1)), (2, .ref (ay 0)), (1, .ref xo), (0, .ref b)]) (kk : ∀ (σ' τ' : ST) (υ' : Nat → Int64) (due : Int32) (H' : Heap) (locs' : List Loc) (ls' : Array Slot), ZZ σ' τ' υ' (T + 1) → va_P D vwCl (x_W tI tZ xo ax σ') H' → va_P D vwCl (y_W tI tZ 0 ay τ') H' → va_P D vwCl (u_W tL uo υ') H' → va_S (L_g s) s.heap H' locs' → lv_has ls' 23 (L_w b xo ay uo i due) → W p l e room_1 s m #[Value.ref b] below meth c H' locs' (cells + 1) (slots + 6) Q (F0 m 1225 ls' [])) : W p l e room_1 s m #[Value.ref b] below meth c H locs cells slots Q (F0 m 183 ls []) := by
  obtain ⟨hx, hb, hml, hown, hts, hX, hbl, hK, hE, hlf, hL⟩ := E
  have hn30 := R_nr hR
  have hn8 := R_np hR
  have hc0 : cells ≤ room_1.cells ∧ slots ≤ room_1.slots := ⟨by have := hcap.1; omega, by have := hcap.2; omega⟩
  refine lv_iload hx hb dL_law_183 (lv_at hl 7 rfl) ?_
  refine lv_iconst (v := 4) hx hb dL_law_185 (by decide) ?_
  refine lv_ishr hx hb dL_law_186 ?_
  refine lv_iconst (v := 5) hx hb dL_law_187 (by decide) ?_
  refine k_L_low (v >>> (4 &&& 31)) 5 (by omega) (by omega) ⟨hx, hb, hml, hown, hts⟩ gL_law_L_low ⟨Nat.le_of_ble_eq_true rfl, Nat.le_of_ble_eq_true rfl⟩ hl.1 hc0 (Nat.le_of_ble_eq_true rfl) dL_law_188 ?_
  refine lv_if_ne (tgt := 208) hx hb dL_law_191 (by decide) (fun c191 => ?_) (fun c191 => ?_)
  · refine lv_iload hx hb dL_law_208 (lv_at hl 7 rfl) ?_
    refine lv_bipush (v := 7) hx hb dL_law_210 (by decide) ?_
    refine lv_ishr hx hb dL_law_212 ?_
    refine lv_bipush (v := 12) hx hb dL_law_213 (by decide) ?_
    refine k_L_low (v >>> (7 &&& 31)) 12 (by omega) (by omega) ⟨hx, hb, hml, hown, hts⟩ gL_law_L_low ⟨Nat.le_of_ble_eq_true rfl, Nat.le_of_ble_eq_true rfl⟩ hl.1 hc0 (Nat.le_of_ble_eq_true rfl) dL_law_215 ?_
    obtain ⟨ln, hln, eln⟩ := y_low_lt (v >>> (7 &&& 31)) (n := 12) (by omega) (by omega)
    refine lv_topc (y := nI ln) (eln) ?_
    refine lv_istore (lv' := [(21, .int (nI ln)), (20, .int 0), (19, .int 0), (18, .int st0), (17, .int pu0), (16, .int (nI sub)), (15, .int (nI rec)), (14, .int (nI act)), (13, .int v), (12, .int (nI i)), (11, .ref uo), (10, .ref (ay 8)), (9, .ref (ay 7)), (8, .ref (ay 6)), (7, .ref (ay 5)), (6, .ref (ay 4)), (5, .ref (ay 3)), (4, .ref (ay 2)), (3, .ref (ay 1)), (2, .ref (ay 0)), (1, .ref xo), (0, .ref b)]) hx hb dL_law_218 hl (by decide) rfl (fun ls hl => ?_)
    refine lv_iload hx hb dL_law_220 (lv_at hl 8 rfl) ?_
    refine lv_iconst (v := 3) hx hb dL_law_222 (by decide) ?_
    refine lv_ishr hx hb dL_law_223 ?_
    refine lv_iconst (v := 3) hx hb dL_law_224 (by decide) ?_
    refine k_L_low (v >>> (3 &&& 31)) 3 (by omega) (by omega) ⟨hx, hb, hml, hown, hts⟩ gL_law_L_low ⟨Nat.le_of_ble_eq_true rfl, Nat.le_of_ble_eq_true rfl⟩ hl.1 hc0 (Nat.le_of_ble_eq_true rfl) dL_law_225 ?_
    refine lv_if_le (tgt := 235) hx hb dL_law_228 (by decide) (fun c228 => ?_) (fun c228 => ?_)
    · refine lv_iconst (v := 0) hx hb dL_law_235 (by decide) ?_
      refine lv_istore (lv' := [(22, .int 0), (21, .int (nI ln)), (20, .int 0), (19, .int 0), (18, .int st0), (17, .int pu0), (16, .int (nI sub)), (15, .int (nI rec)), (14, .int (nI act)), (13, .int v), (12, .int (nI i)), (11, .ref uo), (10, .ref (ay 8)), (9, .ref (ay 7)), (8, .ref (ay 6)), (7, .ref (ay 5)), (6, .ref (ay 4)), (5, .ref (ay 3)), (4, .ref (ay 2)), (3, .ref (ay 1)), (2, .ref (ay 0)), (1, .ref xo), (0, .ref b)]) hx hb dL_law_236 hl (by decide) rfl (fun ls hl => ?_)
      refine lv_aload_n hx hb dL_law_238 rfl (lv_at hl 20 rfl) ?_
      refine lv_iconst (v := 1) hx hb dL_law_239 (by decide) ?_
      refine lv_topc (y := nI 1) rfl ?_
      refine yr_q (j := 1) hx hb hK hPy (by omega) dL_law_240 ?_
      refine lv_bipush (v := 8) hx hb dL_law_241 (by decide) ?_
      refine lv_icmp_ne (tgt := 251) hx hb dL_law_243 (by decide) (fun c243 => ?_) (fun c243 => ?_)
      · have hlt := np_8 hR hY c243
        refine lv_aload_n hx hb dL_law_251 rfl (lv_at hl 20 rfl) ?_
        refine lv_iconst (v := 1) hx hb dL_law_252 (by decide) ?_
        refine lv_topc (y := nI 1) rfl ?_
        refine yr_q (j := 1) hx hb hK hPy (by omega) dL_law_253 ?_
        refine lv_topc (y := nI np) (Y_q1 hY) ?_
        refine lv_istore (lv' := [(19, .int (nI np)), (22, .int 0), (21, .int (nI ln)), (20, .int 0), (18, .int st0), (17, .int pu0), (16, .int (nI sub)), (15, .int (nI rec)), (14, .int (nI act)), (13, .int v), (12, .int (nI i)), (11, .ref uo), (10, .ref (ay 8)), (9, .ref (ay 7)), (8, .ref (ay 6)), (7, .ref (ay 5)), (6, .ref (ay 4)), (5, .ref (ay 3)), (4, .ref (ay 2)), (3, .ref (ay 1)), (2, .ref (ay 0)), (1, .ref xo), (0, .ref b)]) hx hb dL_law_254 hl (by decide) rfl (fun ls hl => ?_)
        refine lv_iload hx hb dL_law_256 (lv_at hl 0 rfl) ?_
        refine lv_if_lt (tgt := 293) hx hb dL_law_258 (by decide) (fun c258 => absurd c258 (nI_pos (by omega))) (fun c258 => ?_)
        refine lv_aload_n hx hb dL_law_261 rfl (lv_at hl 19 rfl) ?_
        refine lv_aload_n hx hb dL_law_262 rfl (lv_at hl 20 rfl) ?_
        refine lv_iconst (v := 1) hx hb dL_law_263 (by decide) ?_
        refine lv_topc (y := nI 1) rfl ?_
        refine yr_q (j := 1) hx hb hK hPy (by omega) dL_law_264 ?_
        refine lv_topc (y := nI np) (Y_q1 hY) ?_
        refine lv_iload hx hb dL_law_265 (lv_at hl 2 rfl) ?_
        refine zw_p (j := np) hx hb hK hPx hPy hPu A hS (by omega) dL_law_267 (fun H locs hPx hPy hPu hS => ?_)
        refine lv_aload_n hx hb dL_law_268 rfl (lv_at hl 19 rfl) ?_
        refine lv_bipush (v := 8) hx hb dL_law_269 (by decide) ?_
        refine lv_aload_n hx hb dL_law_271 rfl (lv_at hl 20 rfl) ?_
        refine lv_iconst (v := 1) hx hb dL_law_272 (by decide) ?_
        refine lv_topc (y := nI 1) rfl ?_
        refine yr_q (j := 1) hx hb hK hPy (by omega) dL_law_273 ?_
        refine lv_topc (y := nI np) ((Y_q1 hY :)) ?_
        refine lv_iadd hx hb dL_law_274 ?_
        refine lv_topc (y := nI (8 + np)) (y_ad 8 np) ?_
        refine lv_iload hx hb dL_law_275 (lv_at hl 1 rfl) ?_
        refine lv_if_eq (tgt := 284) hx hb dL_law_277 (by decide) (fun c277 => ?_) (fun c277 => absurd (by decide) c277)
        refine lv_iconst (v := 0) hx hb dL_law_284 (by decide) ?_
        refine zw_p (j := 8 + np) hx hb hK hPx hPy hPu A hS (by omega) dL_law_285 (fun H locs hPx hPy hPu hS => ?_)
        refine lv_aload_n hx hb dL_law_286 rfl (lv_at hl 20 rfl) ?_
        refine lv_iconst (v := 1) hx hb dL_law_287 (by decide) ?_
        refine lv_topc (y := nI 1) rfl ?_
        refine lv_dup2_11 hx hb dL_law_288 rfl rfl ?_
        refine yr_q (j := 1) hx hb hK hPy (by omega) dL_law_289 ?_
        refine lv_topc (y := nI np) ((Y_q1 hY :)) ?_
        refine lv_iconst (v := 1) hx hb dL_law_290 (by decide) ?_
        refine lv_iadd hx hb dL_law_291 ?_
        refine lv_topc (y := nI (np + 1)) (nI_1 np) ?_
        refine zw_q (j := 1) hx hb hK hPx hPy hPu A hS (by omega) dL_law_292 (fun H locs hPx hPy hPu hS => ?_)
        refine lv_aload_n hx hb dL_law_293 rfl (lv_at hl 21 rfl) ?_
        refine lv_iconst (v := 0) hx hb dL_law_294 (by decide) ?_
        refine lv_iload hx hb dL_law_295 (lv_at hl 2 rfl) ?_
        refine lv_iload hx hb dL_law_297 (lv_at hl 1 rfl) ?_
        refine lv_if_eq (tgt := 306) hx hb dL_law_299 (by decide) (fun c299 => ?_) (fun c299 => absurd (by decide) c299)
        refine lv_iconst (v := 0) hx hb dL_law_306 (by decide) ?_
        obtain ⟨code, val, σ', hxo, hv9, hZ⟩ := St_ap hR hY hT htd (ln := ln) (by omega) false hlt
        refine k_L_calls_addPurpose D tI tZ tL xo ax σ (nI ln) false code val σ' hxo hlf (A_x A) ⟨hx, hb, hml, hown, hts⟩ gL_law_L_calls ⟨Nat.le_of_ble_eq_true rfl, Nat.le_of_ble_eq_true rfl⟩ hl.1 hcap (Nat.le_of_ble_eq_true rfl) hK hPx (w_Emv hE hS) hS (A_xg A) dL_law_307 (fun H locs hPx hz hk hS => ?_)
        replace hPy := y_kept9 hPy (fun q h1 h2 => hk q h1 (A_yx A q h2))
        replace hPu := u_kept9 hPu (hk uo (u_lt9 hPu) (A_ux A))
        refine lv_topc (y := (nI np)) hv9 ?_
        refine lv_istore (lv' := [(20, .int (nI np)), (19, .int (nI np)), (22, .int 0), (21, .int (nI ln)), (18, .int st0), (17, .int pu0), (16, .int (nI sub)), (15, .int (nI rec)), (14, .int (nI act)), (13, .int v), (12, .int (nI i)), (11, .ref uo), (10, .ref (ay 8)), (9, .ref (ay 7)), (8, .ref (ay 6)), (7, .ref (ay 5)), (6, .ref (ay 4)), (5, .ref (ay 3)), (4, .ref (ay 2)), (3, .ref (ay 1)), (2, .ref (ay 0)), (1, .ref xo), (0, .ref b)]) hx hb dL_law_310 hl (by decide) rfl (fun ls hl => ?_)
        refine lv_goto (tgt := 1225) hx hb dL_law_312 (by decide) ?_
        exact kk σ' (s_put (s_put (s_put τ 1 np (nI ln)) 1 (8 + np) 0) 0 1 (nI (np + 1))) υ (nI np) _ _ _ hZ hPx hPy hPu hS (lv_sub hl [0, 1, 10, 11, 12, 13, 14, 15, 16, 17, 18, 19, 20, 21, 22] rfl)
      · refine lv_bipush (v := (-3)) hx hb dL_law_246 (by decide) ?_
        refine lv_goto (tgt := 254) hx hb dL_law_248 (by decide) ?_
        refine lv_istore (lv' := [(19, .int (-3)), (22, .int 0), (21, .int (nI ln)), (20, .int 0), (18, .int st0), (17, .int pu0), (16, .int (nI sub)), (15, .int (nI rec)), (14, .int (nI act)), (13, .int v), (12, .int (nI i)), (11, .ref uo), (10, .ref (ay 8)), (9, .ref (ay 7)), (8, .ref (ay 6)), (7, .ref (ay 5)), (6, .ref (ay 4)), (5, .ref (ay 3)), (4, .ref (ay 2)), (3, .ref (ay 1)), (2, .ref (ay 0)), (1, .ref xo), (0, .ref b)]) hx hb dL_law_254 hl (by decide) rfl (fun ls hl => ?_)
        refine lv_iload hx hb dL_law_256 (lv_at hl 0 rfl) ?_
        refine lv_if_lt (tgt := 293) hx hb dL_law_258 (by decide) (fun c258 => ?_) (fun c258 => absurd (by decide) c258)
        refine lv_aload_n hx hb dL_law_293 rfl (lv_at hl 21 rfl) ?_
        refine lv_iconst (v := 0) hx hb dL_law_294 (by decide) ?_
        refine lv_iload hx hb dL_law_295 (lv_at hl 2 rfl) ?_
        refine lv_iload hx hb dL_law_297 (lv_at hl 1 rfl) ?_
        refine lv_if_eq (tgt := 306) hx hb dL_law_299 (by decide) (fun c299 => ?_) (fun c299 => absurd (by decide) c299)
        refine lv_iconst (v := 0) hx hb dL_law_306 (by decide) ?_
        obtain ⟨code, val, σ', hxo, hv9, hZ⟩ := St_ap8 hR hY hT htd (ln := ln) (by omega) false c243
        refine k_L_calls_addPurpose D tI tZ tL xo ax σ (nI ln) false code val σ' hxo hlf (A_x A) ⟨hx, hb, hml, hown, hts⟩ gL_law_L_calls ⟨Nat.le_of_ble_eq_true rfl, Nat.le_of_ble_eq_true rfl⟩ hl.1 hcap (Nat.le_of_ble_eq_true rfl) hK hPx (w_Emv hE hS) hS (A_xg A) dL_law_307 (fun H locs hPx hz hk hS => ?_)
        replace hPy := y_kept9 hPy (fun q h1 h2 => hk q h1 (A_yx A q h2))
        replace hPu := u_kept9 hPu (hk uo (u_lt9 hPu) (A_ux A))
        refine lv_topc (y := (-3)) hv9 ?_
        refine lv_istore (lv' := [(20, .int (-3)), (19, .int (-3)), (22, .int 0), (21, .int (nI ln)), (18, .int st0), (17, .int pu0), (16, .int (nI sub)), (15, .int (nI rec)), (14, .int (nI act)), (13, .int v), (12, .int (nI i)), (11, .ref uo), (10, .ref (ay 8)), (9, .ref (ay 7)), (8, .ref (ay 6)), (7, .ref (ay 5)), (6, .ref (ay 4)), (5, .ref (ay 3)), (4, .ref (ay 2)), (3, .ref (ay 1)), (2, .ref (ay 0)), (1, .ref xo), (0, .ref b)]) hx hb dL_law_310 hl (by decide) rfl (fun ls hl => ?_)
        refine lv_goto (tgt := 1225) hx hb dL_law_312 (by decide) ?_
        exact kk σ' τ υ (-3) _ _ _ hZ hPx hPy hPu hS (lv_sub hl [0, 1, 10, 11, 12, 13, 14, 15, 16, 17, 18, 19, 20, 21, 22] rfl)
    · refine lv_iconst (v := 1) hx hb dL_law_231 (by decide) ?_
      refine lv_goto (tgt := 236) hx hb dL_law_232 (by decide) ?_
      refine lv_istore (lv' := [(22, .int 1), (21, .int (nI ln)), (20, .int 0), (19, .int 0), (18, .int st0), (17, .int pu0), (16, .int (nI sub)), (15, .int (nI rec)), (14, .int (nI act)), (13, .int v), (12, .int (nI i)), (11, .ref uo), (10, .ref (ay 8)), (9, .ref (ay 7)), (8, .ref (ay 6)), (7, .ref (ay 5)), (6, .ref (ay 4)), (5, .ref (ay 3)), (4, .ref (ay 2)), (3, .ref (ay 1)), (2, .ref (ay 0)), (1, .ref xo), (0, .ref b)]) hx hb dL_law_236 hl (by decide) rfl (fun ls hl => ?_)
      refine lv_aload_n hx hb dL_law_238 rfl (lv_at hl 20 rfl) ?_
      refine lv_iconst (v := 1) hx hb dL_law_239 (by decide) ?_
      refine lv_topc (y := nI 1) rfl ?_
      refine yr_q (j := 1) hx hb hK hPy (by omega) dL_law_240 ?_
      refine lv_bipush (v := 8) hx hb dL_law_241 (by decide) ?_
      refine lv_icmp_ne (tgt := 251) hx hb dL_law_243 (by decide) (fun c243 => ?_) (fun c243 => ?_)
      · have hlt := np_8 hR hY c243
        refine lv_aload_n hx hb dL_law_251 rfl (lv_at hl 20 rfl) ?_
        refine lv_iconst (v := 1) hx hb dL_law_252 (by decide) ?_
        refine lv_topc (y := nI 1) rfl ?_
        refine yr_q (j := 1) hx hb hK hPy (by omega) dL_law_253 ?_
        refine lv_topc (y := nI np) (Y_q1 hY) ?_
        refine lv_istore (lv' := [(19, .int (nI np)), (22, .int 1), (21, .int (nI ln)), (20, .int 0), (18, .int st0), (17, .int pu0), (16, .int (nI sub)), (15, .int (nI rec)), (14, .int (nI act)), (13, .int v), (12, .int (nI i)), (11, .ref uo), (10, .ref (ay 8)), (9, .ref (ay 7)), (8, .ref (ay 6)), (7, .ref (ay 5)), (6, .ref (ay 4)), (5, .ref (ay 3)), (4, .ref (ay 2)), (3, .ref (ay 1)), (2, .ref (ay 0)), (1, .ref xo), (0, .ref b)]) hx hb dL_law_254 hl (by decide) rfl (fun ls hl => ?_)
        refine lv_iload hx hb dL_law_256 (lv_at hl 0 rfl) ?_
        refine lv_if_lt (tgt := 293) hx hb dL_law_258 (by decide) (fun c258 => absurd c258 (nI_pos (by omega))) (fun c258 => ?_)
        refine lv_aload_n hx hb dL_law_261 rfl (lv_at hl 19 rfl) ?_
        refine lv_aload_n hx hb dL_law_262 rfl (lv_at hl 20 rfl) ?_
        refine lv_iconst (v := 1) hx hb dL_law_263 (by decide) ?_
        refine lv_topc (y := nI 1) rfl ?_
        refine yr_q (j := 1) hx hb hK hPy (by omega) dL_law_264 ?_
        refine lv_topc (y := nI np) (Y_q1 hY) ?_
        refine lv_iload hx hb dL_law_265 (lv_at hl 2 rfl) ?_
        refine zw_p (j := np) hx hb hK hPx hPy hPu A hS (by omega) dL_law_267 (fun H locs hPx hPy hPu hS => ?_)
        refine lv_aload_n hx hb dL_law_268 rfl (lv_at hl 19 rfl) ?_
        refine lv_bipush (v := 8) hx hb dL_law_269 (by decide) ?_
        refine lv_aload_n hx hb dL_law_271 rfl (lv_at hl 20 rfl) ?_
        refine lv_iconst (v := 1) hx hb dL_law_272 (by decide) ?_
        refine lv_topc (y := nI 1) rfl ?_
        refine yr_q (j := 1) hx hb hK hPy (by omega) dL_law_273 ?_
        refine lv_topc (y := nI np) ((Y_q1 hY :)) ?_
        refine lv_iadd hx hb dL_law_274 ?_
        refine lv_topc (y := nI (8 + np)) (y_ad 8 np) ?_
        refine lv_iload hx hb dL_law_275 (lv_at hl 1 rfl) ?_
        refine lv_if_eq (tgt := 284) hx hb dL_law_277 (by decide) (fun c277 => absurd c277 (by decide)) (fun c277 => ?_)
        refine lv_iconst (v := 1) hx hb dL_law_280 (by decide) ?_
        refine lv_goto (tgt := 285) hx hb dL_law_281 (by decide) ?_
        refine zw_p (j := 8 + np) hx hb hK hPx hPy hPu A hS (by omega) dL_law_285 (fun H locs hPx hPy hPu hS => ?_)
        refine lv_aload_n hx hb dL_law_286 rfl (lv_at hl 20 rfl) ?_
        refine lv_iconst (v := 1) hx hb dL_law_287 (by decide) ?_
        refine lv_topc (y := nI 1) rfl ?_
        refine lv_dup2_11 hx hb dL_law_288 rfl rfl ?_
        refine yr_q (j := 1) hx hb hK hPy (by omega) dL_law_289 ?_
        refine lv_topc (y := nI np) ((Y_q1 hY :)) ?_
        refine lv_iconst (v := 1) hx hb dL_law_290 (by decide) ?_
        refine lv_iadd hx hb dL_law_291 ?_
        refine lv_topc (y := nI (np + 1)) (nI_1 np) ?_
        refine zw_q (j := 1) hx hb hK hPx hPy hPu A hS (by omega) dL_law_292 (fun H locs hPx hPy hPu hS => ?_)
        refine lv_aload_n hx hb dL_law_293 rfl (lv_at hl 21 rfl) ?_
        refine lv_iconst (v := 0) hx hb dL_law_294 (by decide) ?_
        refine lv_iload hx hb dL_law_295 (lv_at hl 2 rfl) ?_
        refine lv_iload hx hb dL_law_297 (lv_at hl 1 rfl) ?_
        refine lv_if_eq (tgt := 306) hx hb dL_law_299 (by decide) (fun c299 => absurd c299 (by decide)) (fun c299 => ?_)
        refine lv_iconst (v := 1) hx hb dL_law_302 (by decide) ?_
        refine lv_goto (tgt := 307) hx hb dL_law_303 (by decide) ?_
        obtain ⟨code, val, σ', hxo, hv9, hZ⟩ := St_ap hR hY hT htd (ln := ln) (by omega) true hlt
        refine k_L_calls_addPurpose D tI tZ tL xo ax σ (nI ln) true code val σ' hxo hlf (A_x A) ⟨hx, hb, hml, hown, hts⟩ gL_law_L_calls ⟨Nat.le_of_ble_eq_true rfl, Nat.le_of_ble_eq_true rfl⟩ hl.1 hcap (Nat.le_of_ble_eq_true rfl) hK hPx (w_Emv hE hS) hS (A_xg A) dL_law_307 (fun H locs hPx hz hk hS => ?_)
        replace hPy := y_kept9 hPy (fun q h1 h2 => hk q h1 (A_yx A q h2))
        replace hPu := u_kept9 hPu (hk uo (u_lt9 hPu) (A_ux A))
        refine lv_topc (y := (nI np)) hv9 ?_
        refine lv_istore (lv' := [(20, .int (nI np)), (19, .int (nI np)), (22, .int 1), (21, .int (nI ln)), (18, .int st0), (17, .int pu0), (16, .int (nI sub)), (15, .int (nI rec)), (14, .int (nI act)), (13, .int v), (12, .int (nI i)), (11, .ref uo), (10, .ref (ay 8)), (9, .ref (ay 7)), (8, .ref (ay 6)), (7, .ref (ay 5)), (6, .ref (ay 4)), (5, .ref (ay 3)), (4, .ref (ay 2)), (3, .ref (ay 1)), (2, .ref (ay 0)), (1, .ref xo), (0, .ref b)]) hx hb dL_law_310 hl (by decide) rfl (fun ls hl => ?_)
        refine lv_goto (tgt := 1225) hx hb dL_law_312 (by decide) ?_
        exact kk σ' (s_put (s_put (s_put τ 1 np (nI ln)) 1 (8 + np) 1) 0 1 (nI (np + 1))) υ (nI np) _ _ _ hZ hPx hPy hPu hS (lv_sub hl [0, 1, 10, 11, 12, 13, 14, 15, 16, 17, 18, 19, 20, 21, 22] rfl)
      · refine lv_bipush (v := (-3)) hx hb dL_law_246 (by decide) ?_
        refine lv_goto (tgt := 254) hx hb dL_law_248 (by decide) ?_
        refine lv_istore (lv' := [(19, .int (-3)), (22, .int 1), (21, .int (nI ln)), (20, .int 0), (18, .int st0), (17, .int pu0), (16, .int (nI sub)), (15, .int (nI rec)), (14, .int (nI act)), (13, .int v), (12, .int (nI i)), (11, .ref uo), (10, .ref (ay 8)), (9, .ref (ay 7)), (8, .ref (ay 6)), (7, .ref (ay 5)), (6, .ref (ay 4)), (5, .ref (ay 3)), (4, .ref (ay 2)), (3, .ref (ay 1)), (2, .ref (ay 0)), (1, .ref xo), (0, .ref b)]) hx hb dL_law_254 hl (by decide) rfl (fun ls hl => ?_)
        refine lv_iload hx hb dL_law_256 (lv_at hl 0 rfl) ?_
        refine lv_if_lt (tgt := 293) hx hb dL_law_258 (by decide) (fun c258 => ?_) (fun c258 => absurd (by decide) c258)
        refine lv_aload_n hx hb dL_law_293 rfl (lv_at hl 21 rfl) ?_
        refine lv_iconst (v := 0) hx hb dL_law_294 (by decide) ?_
        refine lv_iload hx hb dL_law_295 (lv_at hl 2 rfl) ?_
        refine lv_iload hx hb dL_law_297 (lv_at hl 1 rfl) ?_
        refine lv_if_eq (tgt := 306) hx hb dL_law_299 (by decide) (fun c299 => absurd c299 (by decide)) (fun c299 => ?_)
        refine lv_iconst (v := 1) hx hb dL_law_302 (by decide) ?_
        refine lv_goto (tgt := 307) hx hb dL_law_303 (by decide) ?_
        obtain ⟨code, val, σ', hxo, hv9, hZ⟩ := St_ap8 hR hY hT htd (ln := ln) (by omega) true c243
        refine k_L_calls_addPurpose D tI tZ tL xo ax σ (nI ln) true code val σ' hxo hlf (A_x A) ⟨hx, hb, hml, hown, hts⟩ gL_law_L_calls ⟨Nat.le_of_ble_eq_true rfl, Nat.le_of_ble_eq_true rfl⟩ hl.1 hcap (Nat.le_of_ble_eq_true rfl) hK hPx (w_Emv hE hS) hS (A_xg A) dL_law_307 (fun H locs hPx hz hk hS => ?_)
        replace hPy := y_kept9 hPy (fun q h1 h2 => hk q h1 (A_yx A q h2))
        replace hPu := u_kept9 hPu (hk uo (u_lt9 hPu) (A_ux A))
        refine lv_topc (y := (-3)) hv9 ?_
        refine lv_istore (lv' := [(20, .int (-3)), (19, .int (-3)), (22, .int 1), (21, .int (nI ln)), (18, .int st0), (17, .int pu0), (16, .int (nI sub)), (15, .int (nI rec)), (14, .int (nI act)), (13, .int v), (12, .int (nI i)), (11, .ref uo), (10, .ref (ay 8)), (9, .ref (ay 7)), (8, .ref (ay 6)), (7, .ref (ay 5)), (6, .ref (ay 4)), (5, .ref (ay 3)), (4, .ref (ay 2)), (3, .ref (ay 1)), (2, .ref (ay 0)), (1, .ref xo), (0, .ref b)]) hx hb dL_law_310 hl (by decide) rfl (fun ls hl => ?_)
        refine lv_goto (tgt := 1225) hx hb dL_law_312 (by decide) ?_
        exact kk σ' τ υ (-3) _ _ _ hZ hPx hPy hPu hS (lv_sub hl [0, 1, 10, 11, 12, 13, 14, 15, 16, 17, 18, 19, 20, 21, 22] rfl)
  · refine lv_iload hx hb dL_law_194 (lv_at hl 7 rfl) ?_
    refine lv_bipush (v := 7) hx hb dL_law_196 (by decide) ?_
    refine lv_ishr hx hb dL_law_198 ?_
    refine lv_sipush (v := 3651) hx hb dL_law_199 (by decide) ?_
    refine k_L_low (v >>> (7 &&& 31)) 3651 (by omega) (by omega) ⟨hx, hb, hml, hown, hts⟩ gL_law_L_low ⟨Nat.le_of_ble_eq_true rfl, Nat.le_of_ble_eq_true rfl⟩ hl.1 hc0 (Nat.le_of_ble_eq_true rfl) dL_law_202 ?_
    obtain ⟨ln, hln, eln⟩ := y_low_lt (v >>> (7 &&& 31)) (n := 3651) (by omega) (by omega)
    refine lv_topc (y := nI ln) (eln) ?_
    refine lv_goto (tgt := 218) hx hb dL_law_205 (by decide) ?_
    refine lv_istore (lv' := [(21, .int (nI ln)), (20, .int 0), (19, .int 0), (18, .int st0), (17, .int pu0), (16, .int (nI sub)), (15, .int (nI rec)), (14, .int (nI act)), (13, .int v), (12, .int (nI i)), (11, .ref uo), (10, .ref (ay 8)), (9, .ref (ay 7)), (8, .ref (ay 6)), (7, .ref (ay 5)), (6, .ref (ay 4)), (5, .ref (ay 3)), (4, .ref (ay 2)), (3, .ref (ay 1)), (2, .ref (ay 0)), (1, .ref xo), (0, .ref b)]) hx hb dL_law_218 hl (by decide) rfl (fun ls hl => ?_)
    refine lv_iload hx hb dL_law_220 (lv_at hl 8 rfl) ?_
    refine lv_iconst (v := 3) hx hb dL_law_222 (by decide) ?_
    refine lv_ishr hx hb dL_law_223 ?_
    refine lv_iconst (v := 3) hx hb dL_law_224 (by decide) ?_
    refine k_L_low (v >>> (3 &&& 31)) 3 (by omega) (by omega) ⟨hx, hb, hml, hown, hts⟩ gL_law_L_low ⟨Nat.le_of_ble_eq_true rfl, Nat.le_of_ble_eq_true rfl⟩ hl.1 hc0 (Nat.le_of_ble_eq_true rfl) dL_law_225 ?_
    refine lv_if_le (tgt := 235) hx hb dL_law_228 (by decide) (fun c228 => ?_) (fun c228 => ?_)
    · refine lv_iconst (v := 0) hx hb dL_law_235 (by decide) ?_
      refine lv_istore (lv' := [(22, .int 0), (21, .int (nI ln)), (20, .int 0), (19, .int 0), (18, .int st0), (17, .int pu0), (16, .int (nI sub)), (15, .int (nI rec)), (14, .int (nI act)), (13, .int v), (12, .int (nI i)), (11, .ref uo), (10, .ref (ay 8)), (9, .ref (ay 7)), (8, .ref (ay 6)), (7, .ref (ay 5)), (6, .ref (ay 4)), (5, .ref (ay 3)), (4, .ref (ay 2)), (3, .ref (ay 1)), (2, .ref (ay 0)), (1, .ref xo), (0, .ref b)]) hx hb dL_law_236 hl (by decide) rfl (fun ls hl => ?_)
      refine lv_aload_n hx hb dL_law_238 rfl (lv_at hl 20 rfl) ?_
      refine lv_iconst (v := 1) hx hb dL_law_239 (by decide) ?_
      refine lv_topc (y := nI 1) rfl ?_
      refine yr_q (j := 1) hx hb hK hPy (by omega) dL_law_240 ?_
      refine lv_bipush (v := 8) hx hb dL_law_241 (by decide) ?_
      refine lv_icmp_ne (tgt := 251) hx hb dL_law_243 (by decide) (fun c243 => ?_) (fun c243 => ?_)
      · have hlt := np_8 hR hY c243
        refine lv_aload_n hx hb dL_law_251 rfl (lv_at hl 20 rfl) ?_
        refine lv_iconst (v := 1) hx hb dL_law_252 (by decide) ?_
        refine lv_topc (y := nI 1) rfl ?_
        refine yr_q (j := 1) hx hb hK hPy (by omega) dL_law_253 ?_
        refine lv_topc (y := nI np) (Y_q1 hY) ?_
        refine lv_istore (lv' := [(19, .int (nI np)), (22, .int 0), (21, .int (nI ln)), (20, .int 0), (18, .int st0), (17, .int pu0), (16, .int (nI sub)), (15, .int (nI rec)), (14, .int (nI act)), (13, .int v), (12, .int (nI i)), (11, .ref uo), (10, .ref (ay 8)), (9, .ref (ay 7)), (8, .ref (ay 6)), (7, .ref (ay 5)), (6, .ref (ay 4)), (5, .ref (ay 3)), (4, .ref (ay 2)), (3, .ref (ay 1)), (2, .ref (ay 0)), (1, .ref xo), (0, .ref b)]) hx hb dL_law_254 hl (by decide) rfl (fun ls hl => ?_)
        refine lv_iload hx hb dL_law_256 (lv_at hl 0 rfl) ?_
        refine lv_if_lt (tgt := 293) hx hb dL_law_258 (by decide) (fun c258 => absurd c258 (nI_pos (by omega))) (fun c258 => ?_)
        refine lv_aload_n hx hb dL_law_261 rfl (lv_at hl 19 rfl) ?_
        refine lv_aload_n hx hb dL_law_262 rfl (lv_at hl 20 rfl) ?_
        refine lv_iconst (v := 1) hx hb dL_law_263 (by decide) ?_
        refine lv_topc (y := nI 1) rfl ?_
        refine yr_q (j := 1) hx hb hK hPy (by omega) dL_law_264 ?_
        refine lv_topc (y := nI np) (Y_q1 hY) ?_
        refine lv_iload hx hb dL_law_265 (lv_at hl 2 rfl) ?_
        refine zw_p (j := np) hx hb hK hPx hPy hPu A hS (by omega) dL_law_267 (fun H locs hPx hPy hPu hS => ?_)
        refine lv_aload_n hx hb dL_law_268 rfl (lv_at hl 19 rfl) ?_
        refine lv_bipush (v := 8) hx hb dL_law_269 (by decide) ?_
        refine lv_aload_n hx hb dL_law_271 rfl (lv_at hl 20 rfl) ?_
        refine lv_iconst (v := 1) hx hb dL_law_272 (by decide) ?_
        refine lv_topc (y := nI 1) rfl ?_
        refine yr_q (j := 1) hx hb hK hPy (by omega) dL_law_273 ?_
        refine lv_topc (y := nI np) ((Y_q1 hY :)) ?_
        refine lv_iadd hx hb dL_law_274 ?_
        refine lv_topc (y := nI (8 + np)) (y_ad 8 np) ?_
        refine lv_iload hx hb dL_law_275 (lv_at hl 1 rfl) ?_
        refine lv_if_eq (tgt := 284) hx hb dL_law_277 (by decide) (fun c277 => ?_) (fun c277 => absurd (by decide) c277)
        refine lv_iconst (v := 0) hx hb dL_law_284 (by decide) ?_
        refine zw_p (j := 8 + np) hx hb hK hPx hPy hPu A hS (by omega) dL_law_285 (fun H locs hPx hPy hPu hS => ?_)
        refine lv_aload_n hx hb dL_law_286 rfl (lv_at hl 20 rfl) ?_
        refine lv_iconst (v := 1) hx hb dL_law_287 (by decide) ?_
        refine lv_topc (y := nI 1) rfl ?_
        refine lv_dup2_11 hx hb dL_law_288 rfl rfl ?_
        refine yr_q (j := 1) hx hb hK hPy (by omega) dL_law_289 ?_
        refine lv_topc (y := nI np) ((Y_q1 hY :)) ?_
        refine lv_iconst (v := 1) hx hb dL_law_290 (by decide) ?_
        refine lv_iadd hx hb dL_law_291 ?_
        refine lv_topc (y := nI (np + 1)) (nI_1 np) ?_
        refine zw_q (j := 1) hx hb hK hPx hPy hPu A hS (by omega) dL_law_292 (fun H locs hPx hPy hPu hS => ?_)
        refine lv_aload_n hx hb dL_law_293 rfl (lv_at hl 21 rfl) ?_
        refine lv_iconst (v := 0) hx hb dL_law_294 (by decide) ?_
        refine lv_iload hx hb dL_law_295 (lv_at hl 2 rfl) ?_
        refine lv_iload hx hb dL_law_297 (lv_at hl 1 rfl) ?_
        refine lv_if_eq (tgt := 306) hx hb dL_law_299 (by decide) (fun c299 => ?_) (fun c299 => absurd (by decide) c299)
        refine lv_iconst (v := 0) hx hb dL_law_306 (by decide) ?_
        obtain ⟨code, val, σ', hxo, hv9, hZ⟩ := St_ap hR hY hT htd (ln := ln) (by omega) false hlt
        refine k_L_calls_addPurpose D tI tZ tL xo ax σ (nI ln) false code val σ' hxo hlf (A_x A) ⟨hx, hb, hml, hown, hts⟩ gL_law_L_calls ⟨Nat.le_of_ble_eq_true rfl, Nat.le_of_ble_eq_true rfl⟩ hl.1 hcap (Nat.le_of_ble_eq_true rfl) hK hPx (w_Emv hE hS) hS (A_xg A) dL_law_307 (fun H locs hPx hz hk hS => ?_)
        replace hPy := y_kept9 hPy (fun q h1 h2 => hk q h1 (A_yx A q h2))
        replace hPu := u_kept9 hPu (hk uo (u_lt9 hPu) (A_ux A))
        refine lv_topc (y := (nI np)) hv9 ?_
        refine lv_istore (lv' := [(20, .int (nI np)), (19, .int (nI np)), (22, .int 0), (21, .int (nI ln)), (18, .int st0), (17, .int pu0), (16, .int (nI sub)), (15, .int (nI rec)), (14, .int (nI act)), (13, .int v), (12, .int (nI i)), (11, .ref uo), (10, .ref (ay 8)), (9, .ref (ay 7)), (8, .ref (ay 6)), (7, .ref (ay 5)), (6, .ref (ay 4)), (5, .ref (ay 3)), (4, .ref (ay 2)), (3, .ref (ay 1)), (2, .ref (ay 0)), (1, .ref xo), (0, .ref b)]) hx hb dL_law_310 hl (by decide) rfl (fun ls hl => ?_)
        refine lv_goto (tgt := 1225) hx hb dL_law_312 (by decide) ?_
        exact kk σ' (s_put (s_put (s_put τ 1 np (nI ln)) 1 (8 + np) 0) 0 1 (nI (np + 1))) υ (nI np) _ _ _ hZ hPx hPy hPu hS (lv_sub hl [0, 1, 10, 11, 12, 13, 14, 15, 16, 17, 18, 19, 20, 21, 22] rfl)
      · refine lv_bipush (v := (-3)) hx hb dL_law_246 (by decide) ?_
        refine lv_goto (tgt := 254) hx hb dL_law_248 (by decide) ?_
        refine lv_istore (lv' := [(19, .int (-3)), (22, .int 0), (21, .int (nI ln)), (20, .int 0), (18, .int st0), (17, .int pu0), (16, .int (nI sub)), (15, .int (nI rec)), (14, .int (nI act)), (13, .int v), (12, .int (nI i)), (11, .ref uo), (10, .ref (ay 8)), (9, .ref (ay 7)), (8, .ref (ay 6)), (7, .ref (ay 5)), (6, .ref (ay 4)), (5, .ref (ay 3)), (4, .ref (ay 2)), (3, .ref (ay 1)), (2, .ref (ay 0)), (1, .ref xo), (0, .ref b)]) hx hb dL_law_254 hl (by decide) rfl (fun ls hl => ?_)
        refine lv_iload hx hb dL_law_256 (lv_at hl 0 rfl) ?_
        refine lv_if_lt (tgt := 293) hx hb dL_law_258 (by decide) (fun c258 => ?_) (fun c258 => absurd (by decide) c258)
        refine lv_aload_n hx hb dL_law_293 rfl (lv_at hl 21 rfl) ?_
        refine lv_iconst (v := 0) hx hb dL_law_294 (by decide) ?_
        refine lv_iload hx hb dL_law_295 (lv_at hl 2 rfl) ?_
        refine lv_iload hx hb dL_law_297 (lv_at hl 1 rfl) ?_
        refine lv_if_eq (tgt := 306) hx hb dL_law_299 (by decide) (fun c299 => ?_) (fun c299 => absurd (by decide) c299)
        refine lv_iconst (v := 0) hx hb dL_law_306 (by decide) ?_
        obtain ⟨code, val, σ', hxo, hv9, hZ⟩ := St_ap8 hR hY hT htd (ln := ln) (by omega) false c243
        refine k_L_calls_addPurpose D tI tZ tL xo ax σ (nI ln) false code val σ' hxo hlf (A_x A) ⟨hx, hb, hml, hown, hts⟩ gL_law_L_calls ⟨Nat.le_of_ble_eq_true rfl, Nat.le_of_ble_eq_true rfl⟩ hl.1 hcap (Nat.le_of_ble_eq_true rfl) hK hPx (w_Emv hE hS) hS (A_xg A) dL_law_307 (fun H locs hPx hz hk hS => ?_)
        replace hPy := y_kept9 hPy (fun q h1 h2 => hk q h1 (A_yx A q h2))
        replace hPu := u_kept9 hPu (hk uo (u_lt9 hPu) (A_ux A))
        refine lv_topc (y := (-3)) hv9 ?_
        refine lv_istore (lv' := [(20, .int (-3)), (19, .int (-3)), (22, .int 0), (21, .int (nI ln)), (18, .int st0), (17, .int pu0), (16, .int (nI sub)), (15, .int (nI rec)), (14, .int (nI act)), (13, .int v), (12, .int (nI i)), (11, .ref uo), (10, .ref (ay 8)), (9, .ref (ay 7)), (8, .ref (ay 6)), (7, .ref (ay 5)), (6, .ref (ay 4)), (5, .ref (ay 3)), (4, .ref (ay 2)), (3, .ref (ay 1)), (2, .ref (ay 0)), (1, .ref xo), (0, .ref b)]) hx hb dL_law_310 hl (by decide) rfl (fun ls hl => ?_)
        refine lv_goto (tgt := 1225) hx hb dL_law_312 (by decide) ?_
        exact kk σ' τ υ (-3) _ _ _ hZ hPx hPy hPu hS (lv_sub hl [0, 1, 10, 11, 12, 13, 14, 15, 16, 17, 18, 19, 20, 21, 22] rfl)
    · refine lv_iconst (v := 1) hx hb dL_law_231 (by decide) ?_
      refine lv_goto (tgt := 236) hx hb dL_law_232 (by decide) ?_
      refine lv_istore (lv' := [(22, .int 1), (21, .int (nI ln)), (20, .int 0), (19, .int 0), (18, .int st0), (17, .int pu0), (16, .int (nI sub)), (15, .int (nI rec)), (14, .int (nI act)), (13, .int v), (12, .int (nI i)), (11, .ref uo), (10, .ref (ay 8)), (9, .ref (ay 7)), (8, .ref (ay 6)), (7, .ref (ay 5)), (6, .ref (ay 4)), (5, .ref (ay 3)), (4, .ref (ay 2)), (3, .ref (ay 1)), (2, .ref (ay 0)), (1, .ref xo), (0, .ref b)]) hx hb dL_law_236 hl (by decide) rfl (fun ls hl => ?_)
      refine lv_aload_n hx hb dL_law_238 rfl (lv_at hl 20 rfl) ?_
      refine lv_iconst (v := 1) hx hb dL_law_239 (by decide) ?_
      refine lv_topc (y := nI 1) rfl ?_
      refine yr_q (j := 1) hx hb hK hPy (by omega) dL_law_240 ?_
      refine lv_bipush (v := 8) hx hb dL_law_241 (by decide) ?_
      refine lv_icmp_ne (tgt := 251) hx hb dL_law_243 (by decide) (fun c243 => ?_) (fun c243 => ?_)
      · have hlt := np_8 hR hY c243
        refine lv_aload_n hx hb dL_law_251 rfl (lv_at hl 20 rfl) ?_
        refine lv_iconst (v := 1) hx hb dL_law_252 (by decide) ?_
        refine lv_topc (y := nI 1) rfl ?_
        refine yr_q (j := 1) hx hb hK hPy (by omega) dL_law_253 ?_
        refine lv_topc (y := nI np) (Y_q1 hY) ?_
        refine lv_istore (lv' := [(19, .int (nI np)), (22, .int 1), (21, .int (nI ln)), (20, .int 0), (18, .int st0), (17, .int pu0), (16, .int (nI sub)), (15, .int (nI rec)), (14, .int (nI act)), (13, .int v), (12, .int (nI i)), (11, .ref uo), (10, .ref (ay 8)), (9, .ref (ay 7)), (8, .ref (ay 6)), (7, .ref (ay 5)), (6, .ref (ay 4)), (5, .ref (ay 3)), (4, .ref (ay 2)), (3, .ref (ay 1)), (2, .ref (ay 0)), (1, .ref xo), (0, .ref b)]) hx hb dL_law_254 hl (by decide) rfl (fun ls hl => ?_)
        refine lv_iload hx hb dL_law_256 (lv_at hl 0 rfl) ?_
        refine lv_if_lt (tgt := 293) hx hb dL_law_258 (by decide) (fun c258 => absurd c258 (nI_pos (by omega))) (fun c258 => ?_)
        refine lv_aload_n hx hb dL_law_261 rfl (lv_at hl 19 rfl) ?_
        refine lv_aload_n hx hb dL_law_262 rfl (lv_at hl 20 rfl) ?_
        refine lv_iconst (v := 1) hx hb dL_law_263 (by decide) ?_
        refine lv_topc (y := nI 1) rfl ?_
        refine yr_q (j := 1) hx hb hK hPy (by omega) dL_law_264 ?_
        refine lv_topc (y := nI np) (Y_q1 hY) ?_
        refine lv_iload hx hb dL_law_265 (lv_at hl 2 rfl) ?_
        refine zw_p (j := np) hx hb hK hPx hPy hPu A hS (by omega) dL_law_267 (fun H locs hPx hPy hPu hS => ?_)
        refine lv_aload_n hx hb dL_law_268 rfl (lv_at hl 19 rfl) ?_
        refine lv_bipush (v := 8) hx hb dL_law_269 (by decide) ?_
        refine lv_aload_n hx hb dL_law_271 rfl (lv_at hl 20 rfl) ?_
        refine lv_iconst (v := 1) hx hb dL_law_272 (by decide) ?_
        refine lv_topc (y := nI 1) rfl ?_
        refine yr_q (j := 1) hx hb hK hPy (by omega) dL_law_273 ?_
        refine lv_topc (y := nI np) ((Y_q1 hY :)) ?_
        refine lv_iadd hx hb dL_law_274 ?_
        refine lv_topc (y := nI (8 + np)) (y_ad 8 np) ?_
        refine lv_iload hx hb dL_law_275 (lv_at hl 1 rfl) ?_
        refine lv_if_eq (tgt := 284) hx hb dL_law_277 (by decide) (fun c277 => absurd c277 (by decide)) (fun c277 => ?_)
        refine lv_iconst (v := 1) hx hb dL_law_280 (by decide) ?_
        refine lv_goto (tgt := 285) hx hb dL_law_281 (by decide) ?_
        refine zw_p (j := 8 + np) hx hb hK hPx hPy hPu A hS (by omega) dL_law_285 (fun H locs hPx hPy hPu hS => ?_)
        refine lv_aload_n hx hb dL_law_286 rfl (lv_at hl 20 rfl) ?_
        refine lv_iconst (v := 1) hx hb dL_law_287 (by decide) ?_
        refine lv_topc (y := nI 1) rfl ?_
        refine lv_dup2_11 hx hb dL_law_288 rfl rfl ?_
        refine yr_q (j := 1) hx hb hK hPy (by omega) dL_law_289 ?_
        refine lv_topc (y := nI np) ((Y_q1 hY :)) ?_
        refine lv_iconst (v := 1) hx hb dL_law_290 (by decide) ?_
        refine lv_iadd hx hb dL_law_291 ?_
        refine lv_topc (y := nI (np + 1)) (nI_1 np) ?_
        refine zw_q (j := 1) hx hb hK hPx hPy hPu A hS (by omega) dL_law_292 (fun H locs hPx hPy hPu hS => ?_)
        refine lv_aload_n hx hb dL_law_293 rfl (lv_at hl 21 rfl) ?_
        refine lv_iconst (v := 0) hx hb dL_law_294 (by decide) ?_
        refine lv_iload hx hb dL_law_295 (lv_at hl 2 rfl) ?_
        refine lv_iload hx hb dL_law_297 (lv_at hl 1 rfl) ?_
        refine lv_if_eq (tgt := 306) hx hb dL_law_299 (by decide) (fun c299 => absurd c299 (by decide)) (fun c299 => ?_)
        refine lv_iconst (v := 1) hx hb dL_law_302 (by decide) ?_
        refine lv_goto (tgt := 307) hx hb dL_law_303 (by decide) ?_
        obtain ⟨code, val, σ', hxo, hv9, hZ⟩ := St_ap hR hY hT htd (ln := ln) (by omega) true hlt
        refine k_L_calls_addPurpose D tI tZ tL xo ax σ (nI ln) true code val σ' hxo hlf (A_x A) ⟨hx, hb, hml, hown, hts⟩ gL_law_L_calls ⟨Nat.le_of_ble_eq_true rfl, Nat.le_of_ble_eq_true rfl⟩ hl.1 hcap (Nat.le_of_ble_eq_true rfl) hK hPx (w_Emv hE hS) hS (A_xg A) dL_law_307 (fun H locs hPx hz hk hS => ?_)
        replace hPy := y_kept9 hPy (fun q h1 h2 => hk q h1 (A_yx A q h2))
        replace hPu := u_kept9 hPu (hk uo (u_lt9 hPu) (A_ux A))
        refine lv_topc (y := (nI np)) hv9 ?_
        refine lv_istore (lv' := [(20, .int (nI np)), (19, .int (nI np)), (22, .int 1), (21, .int (nI ln)), (18, .int st0), (17, .int pu0), (16, .int (nI sub)), (15, .int (nI rec)), (14, .int (nI act)), (13, .int v), (12, .int (nI i)), (11, .ref uo), (10, .ref (ay 8)), (9, .ref (ay 7)), (8, .ref (ay 6)), (7, .ref (ay 5)), (6, .ref (ay 4)), (5, .ref (ay 3)), (4, .ref (ay 2)), (3, .ref (ay 1)), (2, .ref (ay 0)), (1, .ref xo), (0, .ref b)]) hx hb dL_law_310 hl (by decide) rfl (fun ls hl => ?_)
        refine lv_goto (tgt := 1225) hx hb dL_law_312 (by decide) ?_
        exact kk σ' (s_put (s_put (s_put τ 1 np (nI ln)) 1 (8 + np) 1) 0 1 (nI (np + 1))) υ (nI np) _ _ _ hZ hPx hPy hPu hS (lv_sub hl [0, 1, 10, 11, 12, 13, 14, 15, 16, 17, 18, 19, 20, 21, 22] rfl)
      · refine lv_bipush (v := (-3)) hx hb dL_law_246 (by decide) ?_
        refine lv_goto (tgt := 254) hx hb dL_law_248 (by decide) ?_
        refine lv_istore (lv' := [(19, .int (-3)), (22, .int 1), (21, .int (nI ln)), (20, .int 0), (18, .int st0), (17, .int pu0), (16, .int (nI sub)), (15, .int (nI rec)), (14, .int (nI act)), (13, .int v), (12, .int (nI i)), (11, .ref uo), (10, .ref (ay 8)), (9, .ref (ay 7)), (8, .ref (ay 6)), (7, .ref (ay 5)), (6, .ref (ay 4)), (5, .ref (ay 3)), (4, .ref (ay 2)), (3, .ref (ay 1)), (2, .ref (ay 0)), (1, .ref xo), (0, .ref b)]) hx hb dL_law_254 hl (by decide) rfl (fun ls hl => ?_)
        refine lv_iload hx hb dL_law_256 (lv_at hl 0 rfl) ?_
        refine lv_if_lt (tgt := 293) hx hb dL_law_258 (by decide) (fun c258 => ?_) (fun c258 => absurd (by decide) c258)
        refine lv_aload_n hx hb dL_law_293 rfl (lv_at hl 21 rfl) ?_
        refine lv_iconst (v := 0) hx hb dL_law_294 (by decide) ?_
        refine lv_iload hx hb dL_law_295 (lv_at hl 2 rfl) ?_
        refine lv_iload hx hb dL_law_297 (lv_at hl 1 rfl) ?_
        refine lv_if_eq (tgt := 306) hx hb dL_law_299 (by decide) (fun c299 => absurd c299 (by decide)) (fun c299 => ?_)
        refine lv_iconst (v := 1) hx hb dL_law_302 (by decide) ?_
        refine lv_goto (tgt := 307) hx hb dL_law_303 (by decide) ?_
        obtain ⟨code, val, σ', hxo, hv9, hZ⟩ := St_ap8 hR hY hT htd (ln := ln) (by omega) true c243
        refine k_L_calls_addPurpose D tI tZ tL xo ax σ (nI ln) true code val σ' hxo hlf (A_x A) ⟨hx, hb, hml, hown, hts⟩ gL_law_L_calls ⟨Nat.le_of_ble_eq_true rfl, Nat.le_of_ble_eq_true rfl⟩ hl.1 hcap (Nat.le_of_ble_eq_true rfl) hK hPx (w_Emv hE hS) hS (A_xg A) dL_law_307 (fun H locs hPx hz hk hS => ?_)
        replace hPy := y_kept9 hPy (fun q h1 h2 => hk q h1 (A_yx A q h2))
        replace hPu := u_kept9 hPu (hk uo (u_lt9 hPu) (A_ux A))
        refine lv_topc (y := (-3)) hv9 ?_
        refine lv_istore (lv' := [(20, .int (-3)), (19, .int (-3)), (22, .int 1), (21, .int (nI ln)), (18, .int st0), (17, .int pu0), (16, .int (nI sub)), (15, .int (nI rec)), (14, .int (nI act)), (13, .int v), (12, .int (nI i)), (11, .ref uo), (10, .ref (ay 8)), (9, .ref (ay 7)), (8, .ref (ay 6)), (7, .ref (ay 5)), (6, .ref (ay 4)), (5, .ref (ay 3)), (4, .ref (ay 2)), (3, .ref (ay 1)), (2, .ref (ay 0)), (1, .ref xo), (0, .ref b)]) hx hb dL_law_310 hl (by decide) rfl (fun ls hl => ?_)
        refine lv_goto (tgt := 1225) hx hb dL_law_312 (by decide) ?_
        exact kk σ' τ υ (-3) _ _ _ hZ hPx hPy hPu hS (lv_sub hl [0, 1, 10, 11, 12, 13, 14, 15, 16, 17, 18, 19, 20, 21, 22] rfl)

set_option maxHeartbeats 4000000 in
set_option maxRecDepth 100000 in
theorem lc_cons (E : L_E p l s m meth c b L xs D tI tZ tL) (A : L_A s xo ax ay uo) (hR : RR σ μ td np nr) (hY : YY μ τ υ td np nr T) (hT : T < 110) (htd : td ≤ 4 * T) (hcap : cells + 1 ≤ room_1.cells ∧ slots + 6 ≤ room_1.slots) (v : Int32) (act rec sub pu : Nat) (st0 : Int32) (hsub : sub < 6) (hpu : pu < np) (hPx : va_P D vwCl (x_W tI tZ xo ax σ) H) (hPy : va_P D vwCl (y_W tI tZ 0 ay τ) H) (hPu : va_P D vwCl (u_W tL uo υ) H) (hS : va_S (L_g s) s.heap H locs) (hl : lv_has ls 23 [(20, .int 0), (19, .int 0), (18, .int st0), (17, .int (nI pu)), (16, .int (nI sub)), (15, .int (nI rec)), (14, .int (nI act)), (13, .int v), (12, .int (nI i)), (11, .ref uo), (10, .ref (ay 8)), (9, .ref (ay 7)), (8, .ref (ay 6)), (7, .ref (ay 5)), (6, .ref (ay 4)), (5, .ref (ay 3)), (4, .ref (ay 2)), (3, .ref (ay 1)), (2, .ref (ay 0)), (1, .ref xo), (0, .ref b)]) (kk : ∀ (σ' τ' : ST) (υ' : Nat → Int64) (due : Int32) (H' : Heap) (locs' : List Loc) (ls' : Array Slot), ZZ σ' τ' υ' (T + 1) → va_P D vwCl (x_W tI tZ xo ax σ') H' → va_P D vwCl (y_W tI tZ 0 ay τ') H' → va_P D vwCl (u_W tL uo υ') H' → va_S (L_g s) s.heap H' locs' → lv_has ls' 23 (L_w b xo ay uo i due) → W p l e room_1 s m #[Value.ref b] below meth c H' locs' (cells + 1) (slots + 6) Q (F0 m 1225 ls' [])) : W p l e room_1 s m #[Value.ref b] below meth c H locs cells slots Q (F0 m 321 ls []) := by
  obtain ⟨hx, hb, hml, hown, hts, hX, hbl, hK, hE, hlf, hL⟩ := E
  have hn30 := R_nr hR
  have hn8 := R_np hR
  have hc0 : cells ≤ room_1.cells ∧ slots ≤ room_1.slots := ⟨by have := hcap.1; omega, by have := hcap.2; omega⟩
  refine lv_iload hx hb dL_law_321 (lv_at hl 7 rfl) ?_
  refine lv_bipush (v := 14) hx hb dL_law_323 (by decide) ?_
  refine lv_ishr hx hb dL_law_325 ?_
  refine lv_iconst (v := 4) hx hb dL_law_326 (by decide) ?_
  refine k_L_low (v >>> (14 &&& 31)) 4 (by omega) (by omega) ⟨hx, hb, hml, hown, hts⟩ gL_law_L_low ⟨Nat.le_of_ble_eq_true rfl, Nat.le_of_ble_eq_true rfl⟩ hl.1 hc0 (Nat.le_of_ble_eq_true rfl) dL_law_327 ?_
  refine lv_if_le (tgt := 337) hx hb dL_law_330 (by decide) (fun c330 => ?_) (fun c330 => ?_)
  · refine lv_iconst (v := 0) hx hb dL_law_337 (by decide) ?_
    refine lv_istore (lv' := [(21, .int 0), (20, .int 0), (19, .int 0), (18, .int st0), (17, .int (nI pu)), (16, .int (nI sub)), (15, .int (nI rec)), (14, .int (nI act)), (13, .int v), (12, .int (nI i)), (11, .ref uo), (10, .ref (ay 8)), (9, .ref (ay 7)), (8, .ref (ay 6)), (7, .ref (ay 5)), (6, .ref (ay 4)), (5, .ref (ay 3)), (4, .ref (ay 2)), (3, .ref (ay 1)), (2, .ref (ay 0)), (1, .ref xo), (0, .ref b)]) hx hb dL_law_338 hl (by decide) rfl (fun ls hl => ?_)
    refine lv_aload_n hx hb dL_law_340 rfl (lv_at hl 18 rfl) ?_
    refine lv_bipush (v := 16) hx hb dL_law_341 (by decide) ?_
    refine lv_iload hx hb dL_law_343 (lv_at hl 5 rfl) ?_
    refine lv_iadd hx hb dL_law_345 ?_
    refine lv_topc (y := nI (16 + sub)) (y_ad 16 sub) ?_
    refine yr_p (j := 16 + sub) hx hb hK hPy (by omega) dL_law_346 ?_
    refine lv_iload hx hb dL_law_347 (lv_at hl 4 rfl) ?_
    refine k_L_has (τ.2 1 (16 + sub)) pu (by omega) ⟨hx, hb, hml, hown, hts⟩ gL_law_L_has ⟨Nat.le_of_ble_eq_true rfl, Nat.le_of_ble_eq_true rfl⟩ hl.1 hc0 (Nat.le_of_ble_eq_true rfl) dL_law_349 ?_
    refine lv_iload hx hb dL_law_352 (lv_at hl 0 rfl) ?_
    refine lv_icmp_eq (tgt := 361) hx hb dL_law_354 (by decide) (fun c354 => ?_) (fun c354 => ?_)
    · have hB : bt (τ.2 1 (16 + sub)) pu = false := b01_inj.mp c354
      refine lv_iconst (v := 0) hx hb dL_law_361 (by decide) ?_
      refine lv_istore (lv' := [(22, .int 0), (21, .int 0), (20, .int 0), (19, .int 0), (18, .int st0), (17, .int (nI pu)), (16, .int (nI sub)), (15, .int (nI rec)), (14, .int (nI act)), (13, .int v), (12, .int (nI i)), (11, .ref uo), (10, .ref (ay 8)), (9, .ref (ay 7)), (8, .ref (ay 6)), (7, .ref (ay 5)), (6, .ref (ay 4)), (5, .ref (ay 3)), (4, .ref (ay 2)), (3, .ref (ay 1)), (2, .ref (ay 0)), (1, .ref xo), (0, .ref b)]) hx hb dL_law_362 hl (by decide) rfl (fun ls hl => ?_)
      refine lv_aload_n hx hb dL_law_364 rfl (lv_at hl 19 rfl) ?_
      refine lv_bipush (v := 16) hx hb dL_law_365 (by decide) ?_
      refine lv_iload hx hb dL_law_367 (lv_at hl 6 rfl) ?_
      refine lv_iadd hx hb dL_law_369 ?_
      refine lv_topc (y := nI (16 + sub)) (y_ad 16 sub) ?_
      refine lv_iload hx hb dL_law_370 (lv_at hl 0 rfl) ?_
      refine lv_if_eq (tgt := 403) hx hb dL_law_372 (by decide) (fun c372 => ?_) (fun c372 => absurd (by decide) c372)
      refine lv_aload_n hx hb dL_law_403 rfl (lv_at hl 19 rfl) ?_
      refine lv_bipush (v := 16) hx hb dL_law_404 (by decide) ?_
      refine lv_iload hx hb dL_law_406 (lv_at hl 6 rfl) ?_
      refine lv_iadd hx hb dL_law_408 ?_
      refine lv_topc (y := nI (16 + sub)) (y_ad 16 sub) ?_
      refine yr_p (j := 16 + sub) hx hb hK hPy (by omega) dL_law_409 ?_
      refine zw_p (j := 16 + sub) hx hb hK hPx hPy hPu A hS (by omega) dL_law_410 (fun H locs hPx hPy hPu hS => ?_)
      refine lv_iload hx hb dL_law_411 (lv_at hl 0 rfl) ?_
      refine lv_if_eq (tgt := 420) hx hb dL_law_413 (by decide) (fun c413 => ?_) (fun c413 => absurd (by decide) c413)
      refine lv_iconst (v := 0) hx hb dL_law_420 (by decide) ?_
      refine lv_istore (lv' := [(19, .int 0), (22, .int 0), (21, .int 0), (20, .int 0), (18, .int st0), (17, .int (nI pu)), (16, .int (nI sub)), (15, .int (nI rec)), (14, .int (nI act)), (13, .int v), (12, .int (nI i)), (11, .ref uo), (10, .ref (ay 8)), (9, .ref (ay 7)), (8, .ref (ay 6)), (7, .ref (ay 5)), (6, .ref (ay 4)), (5, .ref (ay 3)), (4, .ref (ay 2)), (3, .ref (ay 1)), (2, .ref (ay 0)), (1, .ref xo), (0, .ref b)]) hx hb dL_law_421 hl (by decide) rfl (fun ls hl => ?_)
      have hC := St_cons hR hY hT htd hsub hpu false
      refine lv_aload_n hx hb dL_law_423 rfl (lv_at hl 21 rfl) ?_
      refine lv_iload hx hb dL_law_424 (lv_at hl 6 rfl) ?_
      refine lv_iload hx hb dL_law_426 (lv_at hl 5 rfl) ?_
      refine lv_iload hx hb dL_law_428 (lv_at hl 2 rfl) ?_
      refine lv_topc (y := b01 false) (rfl) ?_
      refine k_X0_consent D tI tZ tL xo ax σ sub (by omega) pu false np (R_x1 hR) (hn8) (by omega) ⟨hx, hb, hml, hown, hts⟩ gL_law_X0_consent ⟨Nat.le_of_ble_eq_true rfl, Nat.le_of_ble_eq_true rfl⟩ hl.1 hc0 (Nat.le_of_ble_eq_true rfl) (A_x A) hK hPx hS (A_xg A) dL_law_430 (fun H locs hPx hz hk hS => ?_)
      replace hPy := y_kept9 hPy (fun q h1 h2 => hk q h1 (A_yx A q h2))
      replace hPu := u_kept9 hPu (hk uo (u_lt9 hPu) (A_ux A))
      refine lv_topc (y := b01 false) (by rw [hC.1, hB]; rfl) ?_
      refine lv_ifeq_b (tgt := 440) hx hb dL_law_433 (by decide) (fun c433 => ?_) (fun c433 => by cases c433)
      refine lv_iconst (v := 0) hx hb dL_law_440 (by decide) ?_
      refine lv_istore (lv' := [(20, .int 0), (19, .int 0), (22, .int 0), (21, .int 0), (18, .int st0), (17, .int (nI pu)), (16, .int (nI sub)), (15, .int (nI rec)), (14, .int (nI act)), (13, .int v), (12, .int (nI i)), (11, .ref uo), (10, .ref (ay 8)), (9, .ref (ay 7)), (8, .ref (ay 6)), (7, .ref (ay 5)), (6, .ref (ay 4)), (5, .ref (ay 3)), (4, .ref (ay 2)), (3, .ref (ay 1)), (2, .ref (ay 0)), (1, .ref xo), (0, .ref b)]) hx hb dL_law_441 hl (by decide) rfl (fun ls hl => ?_)
      refine lv_goto (tgt := 1225) hx hb dL_law_443 (by decide) ?_
      exact W.widen (Nat.le_add_right _ _) (Nat.le_add_right _ _) (kk (x_consS σ sub pu false) (s_put τ 1 (16 + sub) (τ.2 1 (16 + sub))) υ 0 _ _ _ (hC.2.1 (by rw [hB])) hPx hPy hPu hS (lv_sub hl [0, 1, 10, 11, 12, 13, 14, 15, 16, 17, 18, 19, 20, 21, 22] rfl))
    · have hB : bt (τ.2 1 (16 + sub)) pu = true := bl_t (fun z => c354 (by rw [z]; rfl))
      refine lv_iconst (v := 1) hx hb dL_law_357 (by decide) ?_
      refine lv_goto (tgt := 362) hx hb dL_law_358 (by decide) ?_
      refine lv_istore (lv' := [(22, .int 1), (21, .int 0), (20, .int 0), (19, .int 0), (18, .int st0), (17, .int (nI pu)), (16, .int (nI sub)), (15, .int (nI rec)), (14, .int (nI act)), (13, .int v), (12, .int (nI i)), (11, .ref uo), (10, .ref (ay 8)), (9, .ref (ay 7)), (8, .ref (ay 6)), (7, .ref (ay 5)), (6, .ref (ay 4)), (5, .ref (ay 3)), (4, .ref (ay 2)), (3, .ref (ay 1)), (2, .ref (ay 0)), (1, .ref xo), (0, .ref b)]) hx hb dL_law_362 hl (by decide) rfl (fun ls hl => ?_)
      refine lv_aload_n hx hb dL_law_364 rfl (lv_at hl 19 rfl) ?_
      refine lv_bipush (v := 16) hx hb dL_law_365 (by decide) ?_
      refine lv_iload hx hb dL_law_367 (lv_at hl 6 rfl) ?_
      refine lv_iadd hx hb dL_law_369 ?_
      refine lv_topc (y := nI (16 + sub)) (y_ad 16 sub) ?_
      refine lv_iload hx hb dL_law_370 (lv_at hl 0 rfl) ?_
      refine lv_if_eq (tgt := 403) hx hb dL_law_372 (by decide) (fun c372 => absurd c372 (by decide)) (fun c372 => ?_)
      refine lv_aload_n hx hb dL_law_375 rfl (lv_at hl 19 rfl) ?_
      refine lv_bipush (v := 16) hx hb dL_law_376 (by decide) ?_
      refine lv_iload hx hb dL_law_378 (lv_at hl 6 rfl) ?_
      refine lv_iadd hx hb dL_law_380 ?_
      refine lv_topc (y := nI (16 + sub)) (y_ad 16 sub) ?_
      refine yr_p (j := 16 + sub) hx hb hK hPy (by omega) dL_law_381 ?_
      refine lv_iload hx hb dL_law_382 (lv_at hl 1 rfl) ?_
      refine lv_if_eq (tgt := 394) hx hb dL_law_384 (by decide) (fun c384 => ?_) (fun c384 => absurd (by decide) c384)
      refine lv_iconst (v := 1) hx hb dL_law_394 (by decide) ?_
      refine lv_iload hx hb dL_law_395 (lv_at hl 5 rfl) ?_
      refine lv_ishl hx hb dL_law_397 ?_
      refine lv_ineg hx hb dL_law_398 ?_
      refine lv_iadd hx hb dL_law_399 ?_
      refine lv_goto (tgt := 410) hx hb dL_law_400 (by decide) ?_
      refine lv_topc (y := τ.2 1 (16 + sub) ^^^ bI pu) (add_xor_f (by omega) hB) ?_
      refine zw_p (j := 16 + sub) hx hb hK hPx hPy hPu A hS (by omega) dL_law_410 (fun H locs hPx hPy hPu hS => ?_)
      refine lv_iload hx hb dL_law_411 (lv_at hl 0 rfl) ?_
      refine lv_if_eq (tgt := 420) hx hb dL_law_413 (by decide) (fun c413 => absurd c413 (by decide)) (fun c413 => ?_)
      refine lv_iconst (v := 1) hx hb dL_law_416 (by decide) ?_
      refine lv_goto (tgt := 421) hx hb dL_law_417 (by decide) ?_
      refine lv_istore (lv' := [(19, .int 1), (22, .int 1), (21, .int 0), (20, .int 0), (18, .int st0), (17, .int (nI pu)), (16, .int (nI sub)), (15, .int (nI rec)), (14, .int (nI act)), (13, .int v), (12, .int (nI i)), (11, .ref uo), (10, .ref (ay 8)), (9, .ref (ay 7)), (8, .ref (ay 6)), (7, .ref (ay 5)), (6, .ref (ay 4)), (5, .ref (ay 3)), (4, .ref (ay 2)), (3, .ref (ay 1)), (2, .ref (ay 0)), (1, .ref xo), (0, .ref b)]) hx hb dL_law_421 hl (by decide) rfl (fun ls hl => ?_)
      have hC := St_cons hR hY hT htd hsub hpu false
      refine lv_aload_n hx hb dL_law_423 rfl (lv_at hl 21 rfl) ?_
      refine lv_iload hx hb dL_law_424 (lv_at hl 6 rfl) ?_
      refine lv_iload hx hb dL_law_426 (lv_at hl 5 rfl) ?_
      refine lv_iload hx hb dL_law_428 (lv_at hl 2 rfl) ?_
      refine lv_topc (y := b01 false) (rfl) ?_
      refine k_X0_consent D tI tZ tL xo ax σ sub (by omega) pu false np (R_x1 hR) (hn8) (by omega) ⟨hx, hb, hml, hown, hts⟩ gL_law_X0_consent ⟨Nat.le_of_ble_eq_true rfl, Nat.le_of_ble_eq_true rfl⟩ hl.1 hc0 (Nat.le_of_ble_eq_true rfl) (A_x A) hK hPx hS (A_xg A) dL_law_430 (fun H locs hPx hz hk hS => ?_)
      replace hPy := y_kept9 hPy (fun q h1 h2 => hk q h1 (A_yx A q h2))
      replace hPu := u_kept9 hPu (hk uo (u_lt9 hPu) (A_ux A))
      refine lv_topc (y := b01 true) (by rw [hC.1, hB]; rfl) ?_
      refine lv_ifeq_b (tgt := 440) hx hb dL_law_433 (by decide) (fun c433 => by cases c433) (fun c433 => ?_)
      refine lv_iconst (v := 1) hx hb dL_law_436 (by decide) ?_
      refine lv_goto (tgt := 441) hx hb dL_law_437 (by decide) ?_
      refine lv_istore (lv' := [(20, .int 1), (19, .int 1), (22, .int 1), (21, .int 0), (18, .int st0), (17, .int (nI pu)), (16, .int (nI sub)), (15, .int (nI rec)), (14, .int (nI act)), (13, .int v), (12, .int (nI i)), (11, .ref uo), (10, .ref (ay 8)), (9, .ref (ay 7)), (8, .ref (ay 6)), (7, .ref (ay 5)), (6, .ref (ay 4)), (5, .ref (ay 3)), (4, .ref (ay 2)), (3, .ref (ay 1)), (2, .ref (ay 0)), (1, .ref xo), (0, .ref b)]) hx hb dL_law_441 hl (by decide) rfl (fun ls hl => ?_)
      refine lv_goto (tgt := 1225) hx hb dL_law_443 (by decide) ?_
      exact W.widen (Nat.le_add_right _ _) (Nat.le_add_right _ _) (kk (x_consS σ sub pu false) (s_put τ 1 (16 + sub) (τ.2 1 (16 + sub) ^^^ bI pu)) υ 1 _ _ _ (hC.2.2 (by rw [hB]; decide)) hPx hPy hPu hS (lv_sub hl [0, 1, 10, 11, 12, 13, 14, 15, 16, 17, 18, 19, 20, 21, 22] rfl))
  · refine lv_iconst (v := 1) hx hb dL_law_333 (by decide) ?_
    refine lv_goto (tgt := 338) hx hb dL_law_334 (by decide) ?_
    refine lv_istore (lv' := [(21, .int 1), (20, .int 0), (19, .int 0), (18, .int st0), (17, .int (nI pu)), (16, .int (nI sub)), (15, .int (nI rec)), (14, .int (nI act)), (13, .int v), (12, .int (nI i)), (11, .ref uo), (10, .ref (ay 8)), (9, .ref (ay 7)), (8, .ref (ay 6)), (7, .ref (ay 5)), (6, .ref (ay 4)), (5, .ref (ay 3)), (4, .ref (ay 2)), (3, .ref (ay 1)), (2, .ref (ay 0)), (1, .ref xo), (0, .ref b)]) hx hb dL_law_338 hl (by decide) rfl (fun ls hl => ?_)
    refine lv_aload_n hx hb dL_law_340 rfl (lv_at hl 18 rfl) ?_
    refine lv_bipush (v := 16) hx hb dL_law_341 (by decide) ?_
    refine lv_iload hx hb dL_law_343 (lv_at hl 5 rfl) ?_
    refine lv_iadd hx hb dL_law_345 ?_
    refine lv_topc (y := nI (16 + sub)) (y_ad 16 sub) ?_
    refine yr_p (j := 16 + sub) hx hb hK hPy (by omega) dL_law_346 ?_
    refine lv_iload hx hb dL_law_347 (lv_at hl 4 rfl) ?_
    refine k_L_has (τ.2 1 (16 + sub)) pu (by omega) ⟨hx, hb, hml, hown, hts⟩ gL_law_L_has ⟨Nat.le_of_ble_eq_true rfl, Nat.le_of_ble_eq_true rfl⟩ hl.1 hc0 (Nat.le_of_ble_eq_true rfl) dL_law_349 ?_
    refine lv_iload hx hb dL_law_352 (lv_at hl 0 rfl) ?_
    refine lv_icmp_eq (tgt := 361) hx hb dL_law_354 (by decide) (fun c354 => ?_) (fun c354 => ?_)
    · have hB : bt (τ.2 1 (16 + sub)) pu = true := b01_inj.mp c354
      refine lv_iconst (v := 0) hx hb dL_law_361 (by decide) ?_
      refine lv_istore (lv' := [(22, .int 0), (21, .int 1), (20, .int 0), (19, .int 0), (18, .int st0), (17, .int (nI pu)), (16, .int (nI sub)), (15, .int (nI rec)), (14, .int (nI act)), (13, .int v), (12, .int (nI i)), (11, .ref uo), (10, .ref (ay 8)), (9, .ref (ay 7)), (8, .ref (ay 6)), (7, .ref (ay 5)), (6, .ref (ay 4)), (5, .ref (ay 3)), (4, .ref (ay 2)), (3, .ref (ay 1)), (2, .ref (ay 0)), (1, .ref xo), (0, .ref b)]) hx hb dL_law_362 hl (by decide) rfl (fun ls hl => ?_)
      refine lv_aload_n hx hb dL_law_364 rfl (lv_at hl 19 rfl) ?_
      refine lv_bipush (v := 16) hx hb dL_law_365 (by decide) ?_
      refine lv_iload hx hb dL_law_367 (lv_at hl 6 rfl) ?_
      refine lv_iadd hx hb dL_law_369 ?_
      refine lv_topc (y := nI (16 + sub)) (y_ad 16 sub) ?_
      refine lv_iload hx hb dL_law_370 (lv_at hl 0 rfl) ?_
      refine lv_if_eq (tgt := 403) hx hb dL_law_372 (by decide) (fun c372 => ?_) (fun c372 => absurd (by decide) c372)
      refine lv_aload_n hx hb dL_law_403 rfl (lv_at hl 19 rfl) ?_
      refine lv_bipush (v := 16) hx hb dL_law_404 (by decide) ?_
      refine lv_iload hx hb dL_law_406 (lv_at hl 6 rfl) ?_
      refine lv_iadd hx hb dL_law_408 ?_
      refine lv_topc (y := nI (16 + sub)) (y_ad 16 sub) ?_
      refine yr_p (j := 16 + sub) hx hb hK hPy (by omega) dL_law_409 ?_
      refine zw_p (j := 16 + sub) hx hb hK hPx hPy hPu A hS (by omega) dL_law_410 (fun H locs hPx hPy hPu hS => ?_)
      refine lv_iload hx hb dL_law_411 (lv_at hl 0 rfl) ?_
      refine lv_if_eq (tgt := 420) hx hb dL_law_413 (by decide) (fun c413 => ?_) (fun c413 => absurd (by decide) c413)
      refine lv_iconst (v := 0) hx hb dL_law_420 (by decide) ?_
      refine lv_istore (lv' := [(19, .int 0), (22, .int 0), (21, .int 1), (20, .int 0), (18, .int st0), (17, .int (nI pu)), (16, .int (nI sub)), (15, .int (nI rec)), (14, .int (nI act)), (13, .int v), (12, .int (nI i)), (11, .ref uo), (10, .ref (ay 8)), (9, .ref (ay 7)), (8, .ref (ay 6)), (7, .ref (ay 5)), (6, .ref (ay 4)), (5, .ref (ay 3)), (4, .ref (ay 2)), (3, .ref (ay 1)), (2, .ref (ay 0)), (1, .ref xo), (0, .ref b)]) hx hb dL_law_421 hl (by decide) rfl (fun ls hl => ?_)
      have hC := St_cons hR hY hT htd hsub hpu true
      refine lv_aload_n hx hb dL_law_423 rfl (lv_at hl 21 rfl) ?_
      refine lv_iload hx hb dL_law_424 (lv_at hl 6 rfl) ?_
      refine lv_iload hx hb dL_law_426 (lv_at hl 5 rfl) ?_
      refine lv_iload hx hb dL_law_428 (lv_at hl 2 rfl) ?_
      refine lv_topc (y := b01 true) (rfl) ?_
      refine k_X0_consent D tI tZ tL xo ax σ sub (by omega) pu true np (R_x1 hR) (hn8) (by omega) ⟨hx, hb, hml, hown, hts⟩ gL_law_X0_consent ⟨Nat.le_of_ble_eq_true rfl, Nat.le_of_ble_eq_true rfl⟩ hl.1 hc0 (Nat.le_of_ble_eq_true rfl) (A_x A) hK hPx hS (A_xg A) dL_law_430 (fun H locs hPx hz hk hS => ?_)
      replace hPy := y_kept9 hPy (fun q h1 h2 => hk q h1 (A_yx A q h2))
      replace hPu := u_kept9 hPu (hk uo (u_lt9 hPu) (A_ux A))
      refine lv_topc (y := b01 false) (by rw [hC.1, hB]; rfl) ?_
      refine lv_ifeq_b (tgt := 440) hx hb dL_law_433 (by decide) (fun c433 => ?_) (fun c433 => by cases c433)
      refine lv_iconst (v := 0) hx hb dL_law_440 (by decide) ?_
      refine lv_istore (lv' := [(20, .int 0), (19, .int 0), (22, .int 0), (21, .int 1), (18, .int st0), (17, .int (nI pu)), (16, .int (nI sub)), (15, .int (nI rec)), (14, .int (nI act)), (13, .int v), (12, .int (nI i)), (11, .ref uo), (10, .ref (ay 8)), (9, .ref (ay 7)), (8, .ref (ay 6)), (7, .ref (ay 5)), (6, .ref (ay 4)), (5, .ref (ay 3)), (4, .ref (ay 2)), (3, .ref (ay 1)), (2, .ref (ay 0)), (1, .ref xo), (0, .ref b)]) hx hb dL_law_441 hl (by decide) rfl (fun ls hl => ?_)
      refine lv_goto (tgt := 1225) hx hb dL_law_443 (by decide) ?_
      exact W.widen (Nat.le_add_right _ _) (Nat.le_add_right _ _) (kk (x_consS σ sub pu true) (s_put τ 1 (16 + sub) (τ.2 1 (16 + sub))) υ 0 _ _ _ (hC.2.1 (by rw [hB])) hPx hPy hPu hS (lv_sub hl [0, 1, 10, 11, 12, 13, 14, 15, 16, 17, 18, 19, 20, 21, 22] rfl))
    · have hB : bt (τ.2 1 (16 + sub)) pu = false := bl_f (fun z => c354 (by rw [z]; rfl))
      refine lv_iconst (v := 1) hx hb dL_law_357 (by decide) ?_
      refine lv_goto (tgt := 362) hx hb dL_law_358 (by decide) ?_
      refine lv_istore (lv' := [(22, .int 1), (21, .int 1), (20, .int 0), (19, .int 0), (18, .int st0), (17, .int (nI pu)), (16, .int (nI sub)), (15, .int (nI rec)), (14, .int (nI act)), (13, .int v), (12, .int (nI i)), (11, .ref uo), (10, .ref (ay 8)), (9, .ref (ay 7)), (8, .ref (ay 6)), (7, .ref (ay 5)), (6, .ref (ay 4)), (5, .ref (ay 3)), (4, .ref (ay 2)), (3, .ref (ay 1)), (2, .ref (ay 0)), (1, .ref xo), (0, .ref b)]) hx hb dL_law_362 hl (by decide) rfl (fun ls hl => ?_)
      refine lv_aload_n hx hb dL_law_364 rfl (lv_at hl 19 rfl) ?_
      refine lv_bipush (v := 16) hx hb dL_law_365 (by decide) ?_
      refine lv_iload hx hb dL_law_367 (lv_at hl 6 rfl) ?_
      refine lv_iadd hx hb dL_law_369 ?_
      refine lv_topc (y := nI (16 + sub)) (y_ad 16 sub) ?_
      refine lv_iload hx hb dL_law_370 (lv_at hl 0 rfl) ?_
      refine lv_if_eq (tgt := 403) hx hb dL_law_372 (by decide) (fun c372 => absurd c372 (by decide)) (fun c372 => ?_)
      refine lv_aload_n hx hb dL_law_375 rfl (lv_at hl 19 rfl) ?_
      refine lv_bipush (v := 16) hx hb dL_law_376 (by decide) ?_
      refine lv_iload hx hb dL_law_378 (lv_at hl 6 rfl) ?_
      refine lv_iadd hx hb dL_law_380 ?_
      refine lv_topc (y := nI (16 + sub)) (y_ad 16 sub) ?_
      refine yr_p (j := 16 + sub) hx hb hK hPy (by omega) dL_law_381 ?_
      refine lv_iload hx hb dL_law_382 (lv_at hl 1 rfl) ?_
      refine lv_if_eq (tgt := 394) hx hb dL_law_384 (by decide) (fun c384 => absurd c384 (by decide)) (fun c384 => ?_)
      refine lv_iconst (v := 1) hx hb dL_law_387 (by decide) ?_
      refine lv_iload hx hb dL_law_388 (lv_at hl 5 rfl) ?_
      refine lv_ishl hx hb dL_law_390 ?_
      refine lv_goto (tgt := 399) hx hb dL_law_391 (by decide) ?_
      refine lv_iadd hx hb dL_law_399 ?_
      refine lv_goto (tgt := 410) hx hb dL_law_400 (by decide) ?_
      refine lv_topc (y := τ.2 1 (16 + sub) ^^^ bI pu) (add_xor_t (by omega) hB) ?_
      refine zw_p (j := 16 + sub) hx hb hK hPx hPy hPu A hS (by omega) dL_law_410 (fun H locs hPx hPy hPu hS => ?_)
      refine lv_iload hx hb dL_law_411 (lv_at hl 0 rfl) ?_
      refine lv_if_eq (tgt := 420) hx hb dL_law_413 (by decide) (fun c413 => absurd c413 (by decide)) (fun c413 => ?_)
      refine lv_iconst (v := 1) hx hb dL_law_416 (by decide) ?_
      refine lv_goto (tgt := 421) hx hb dL_law_417 (by decide) ?_
      refine lv_istore (lv' := [(19, .int 1), (22, .int 1), (21, .int 1), (20, .int 0), (18, .int st0), (17, .int (nI pu)), (16, .int (nI sub)), (15, .int (nI rec)), (14, .int (nI act)), (13, .int v), (12, .int (nI i)), (11, .ref uo), (10, .ref (ay 8)), (9, .ref (ay 7)), (8, .ref (ay 6)), (7, .ref (ay 5)), (6, .ref (ay 4)), (5, .ref (ay 3)), (4, .ref (ay 2)), (3, .ref (ay 1)), (2, .ref (ay 0)), (1, .ref xo), (0, .ref b)]) hx hb dL_law_421 hl (by decide) rfl (fun ls hl => ?_)
      have hC := St_cons hR hY hT htd hsub hpu true
      refine lv_aload_n hx hb dL_law_423 rfl (lv_at hl 21 rfl) ?_
      refine lv_iload hx hb dL_law_424 (lv_at hl 6 rfl) ?_
      refine lv_iload hx hb dL_law_426 (lv_at hl 5 rfl) ?_
      refine lv_iload hx hb dL_law_428 (lv_at hl 2 rfl) ?_
      refine lv_topc (y := b01 true) (rfl) ?_
      refine k_X0_consent D tI tZ tL xo ax σ sub (by omega) pu true np (R_x1 hR) (hn8) (by omega) ⟨hx, hb, hml, hown, hts⟩ gL_law_X0_consent ⟨Nat.le_of_ble_eq_true rfl, Nat.le_of_ble_eq_true rfl⟩ hl.1 hc0 (Nat.le_of_ble_eq_true rfl) (A_x A) hK hPx hS (A_xg A) dL_law_430 (fun H locs hPx hz hk hS => ?_)
      replace hPy := y_kept9 hPy (fun q h1 h2 => hk q h1 (A_yx A q h2))
      replace hPu := u_kept9 hPu (hk uo (u_lt9 hPu) (A_ux A))
      refine lv_topc (y := b01 true) (by rw [hC.1, hB]; rfl) ?_
      refine lv_ifeq_b (tgt := 440) hx hb dL_law_433 (by decide) (fun c433 => by cases c433) (fun c433 => ?_)
      refine lv_iconst (v := 1) hx hb dL_law_436 (by decide) ?_
      refine lv_goto (tgt := 441) hx hb dL_law_437 (by decide) ?_
      refine lv_istore (lv' := [(20, .int 1), (19, .int 1), (22, .int 1), (21, .int 1), (18, .int st0), (17, .int (nI pu)), (16, .int (nI sub)), (15, .int (nI rec)), (14, .int (nI act)), (13, .int v), (12, .int (nI i)), (11, .ref uo), (10, .ref (ay 8)), (9, .ref (ay 7)), (8, .ref (ay 6)), (7, .ref (ay 5)), (6, .ref (ay 4)), (5, .ref (ay 3)), (4, .ref (ay 2)), (3, .ref (ay 1)), (2, .ref (ay 0)), (1, .ref xo), (0, .ref b)]) hx hb dL_law_441 hl (by decide) rfl (fun ls hl => ?_)
      refine lv_goto (tgt := 1225) hx hb dL_law_443 (by decide) ?_
      exact W.widen (Nat.le_add_right _ _) (Nat.le_add_right _ _) (kk (x_consS σ sub pu true) (s_put τ 1 (16 + sub) (τ.2 1 (16 + sub) ^^^ bI pu)) υ 1 _ _ _ (hC.2.2 (by rw [hB]; decide)) hPx hPy hPu hS (lv_sub hl [0, 1, 10, 11, 12, 13, 14, 15, 16, 17, 18, 19, 20, 21, 22] rfl))

set_option maxHeartbeats 4000000 in
set_option maxRecDepth 100000 in
theorem lc_add (E : L_E p l s m meth c b L xs D tI tZ tL) (A : L_A s xo ax ay uo) (hR : RR σ μ td np nr) (hY : YY μ τ υ td np nr T) (hT : T < 110) (htd : td ≤ 4 * T) (hcap : cells + 1 ≤ room_1.cells ∧ slots + 6 ≤ room_1.slots) (v : Int32) (act rec sub pu st : Nat) (hrec : rec ≤ nr) (hsub : sub < 6) (hpu : pu < np) (hst : st < 2 ^ np) (hPx : va_P D vwCl (x_W tI tZ xo ax σ) H) (hPy : va_P D vwCl (y_W tI tZ 0 ay τ) H) (hPu : va_P D vwCl (u_W tL uo υ) H) (hS : va_S (L_g s) s.heap H locs) (hl : lv_has ls 23 [(20, .int 0), (19, .int 0), (18, .int (nI st)), (17, .int (nI pu)), (16, .int (nI sub)), (15, .int (nI rec)), (14, .int (nI act)), (13, .int v), (12, .int (nI i)), (11, .ref uo), (10, .ref (ay 8)), (9, .ref (ay 7)), (8, .ref (ay 6)), (7, .ref (ay 5)), (6, .ref (ay 4)), (5, .ref (ay 3)), (4, .ref (ay 2)), (3, .ref (ay 1)), (2, .ref (ay 0)), (1, .ref xo), (0, .ref b)]) (kk : ∀ (σ' τ' : ST) (υ' : Nat → Int64) (due : Int32) (H' : Heap) (locs' : List Loc) (ls' : Array Slot), ZZ σ' τ' υ' (T + 1) → va_P D vwCl (x_W tI tZ xo ax σ') H' → va_P D vwCl (y_W tI tZ 0 ay τ') H' → va_P D vwCl (u_W tL uo υ') H' → va_S (L_g s) s.heap H' locs' → lv_has ls' 23 (L_w b xo ay uo i due) → W p l e room_1 s m #[Value.ref b] below meth c H' locs' (cells + 1) (slots + 6) Q (F0 m 1225 ls' [])) : W p l e room_1 s m #[Value.ref b] below meth c H locs cells slots Q (F0 m 453 ls []) := by
  obtain ⟨hx, hb, hml, hown, hts, hX, hbl, hK, hE, hlf, hL⟩ := E
  have hn30 := R_nr hR
  have hn8 := R_np hR
  have hc0 : cells ≤ room_1.cells ∧ slots ≤ room_1.slots := ⟨by have := hcap.1; omega, by have := hcap.2; omega⟩
  refine lv_iload hx hb dL_law_453 (lv_at hl 2 rfl) ?_
  refine lv_if_ne (tgt := 463) hx hb dL_law_455 (by decide) (fun c455 => ?_) (fun c455 => ?_)
  · refine lv_aload_n hx hb dL_law_463 rfl (lv_at hl 18 rfl) ?_
    refine lv_iconst (v := 2) hx hb dL_law_464 (by decide) ?_
    refine lv_topc (y := nI 2) rfl ?_
    refine yr_q (j := 2) hx hb hK hPy (by omega) dL_law_465 ?_
    refine lv_bipush (v := 30) hx hb dL_law_466 (by decide) ?_
    refine lv_icmp_eq (tgt := 488) hx hb dL_law_468 (by decide) (fun c468 => ?_) (fun c468 => ?_)
    · refine lv_bipush (v := (-3)) hx hb dL_law_488 (by decide) ?_
      refine lv_goto (tgt := 514) hx hb dL_law_490 (by decide) ?_
      refine lv_istore (lv' := [(19, .int (-3)), (20, .int 0), (18, .int (nI st)), (17, .int (nI pu)), (16, .int (nI sub)), (15, .int (nI rec)), (14, .int (nI act)), (13, .int v), (12, .int (nI i)), (11, .ref uo), (10, .ref (ay 8)), (9, .ref (ay 7)), (8, .ref (ay 6)), (7, .ref (ay 5)), (6, .ref (ay 4)), (5, .ref (ay 3)), (4, .ref (ay 2)), (3, .ref (ay 1)), (2, .ref (ay 0)), (1, .ref xo), (0, .ref b)]) hx hb dL_law_514 hl (by decide) rfl (fun ls hl => ?_)
      refine lv_aload_n hx hb dL_law_516 rfl (lv_at hl 19 rfl) ?_
      refine lv_iconst (v := 1) hx hb dL_law_517 (by decide) ?_
      refine lv_iload hx hb dL_law_518 (lv_at hl 4 rfl) ?_
      refine lv_iload hx hb dL_law_520 (lv_at hl 2 rfl) ?_
      obtain ⟨code, val, σ', hxo, hv9, hZ⟩ := St_addN hR hY hT htd hsub hst c455 (Or.inl c468)
      refine k_L_calls_add D tI tZ tL xo ax σ (nI sub) (nI st) code val σ' hxo hlf (A_x A) ⟨hx, hb, hml, hown, hts⟩ gL_law_L_calls ⟨Nat.le_of_ble_eq_true rfl, Nat.le_of_ble_eq_true rfl⟩ hl.1 hcap (Nat.le_of_ble_eq_true rfl) hK hPx (w_Emv hE hS) hS (A_xg A) dL_law_522 (fun H locs hPx hz hk hS => ?_)
      replace hPy := y_kept9 hPy (fun q h1 h2 => hk q h1 (A_yx A q h2))
      replace hPu := u_kept9 hPu (hk uo (u_lt9 hPu) (A_ux A))
      refine lv_topc (y := (-3)) hv9 ?_
      refine lv_istore (lv' := [(20, .int (-3)), (19, .int (-3)), (18, .int (nI st)), (17, .int (nI pu)), (16, .int (nI sub)), (15, .int (nI rec)), (14, .int (nI act)), (13, .int v), (12, .int (nI i)), (11, .ref uo), (10, .ref (ay 8)), (9, .ref (ay 7)), (8, .ref (ay 6)), (7, .ref (ay 5)), (6, .ref (ay 4)), (5, .ref (ay 3)), (4, .ref (ay 2)), (3, .ref (ay 1)), (2, .ref (ay 0)), (1, .ref xo), (0, .ref b)]) hx hb dL_law_525 hl (by decide) rfl (fun ls hl => ?_)
      refine lv_goto (tgt := 1225) hx hb dL_law_527 (by decide) ?_
      exact kk σ' τ υ (-3) _ _ _ hZ hPx hPy hPu hS (lv_sub hl [0, 1, 8, 9, 10, 11, 12, 13, 14, 15, 16, 17, 18, 19, 20] rfl)
    · have h30 := nr_30 hR hY c468
      refine lv_iload hx hb dL_law_471 (lv_at hl 2 rfl) ?_
      refine lv_iconst (v := 1) hx hb dL_law_473 (by decide) ?_
      refine lv_iload hx hb dL_law_474 (lv_at hl 4 rfl) ?_
      refine lv_ishl hx hb dL_law_476 ?_
      refine lv_aload_n hx hb dL_law_477 rfl (lv_at hl 18 rfl) ?_
      refine lv_iconst (v := 0) hx hb dL_law_478 (by decide) ?_
      refine lv_topc (y := nI 0) rfl ?_
      refine yr_q (j := 0) hx hb hK hPy (by omega) dL_law_479 ?_
      refine lv_aload_n hx hb dL_law_480 rfl (lv_at hl 18 rfl) ?_
      refine lv_aload_n hx hb dL_law_481 rfl (lv_at hl 17 rfl) ?_
      refine k_L_isOpen D tI tZ tL 0 ay τ (nI st) (1 <<< ((nI sub) &&& 31)) (τ.2 0 0) np (Y_q1 hY) (hn8) ⟨hx, hb, hml, hown, hts⟩ gL_law_L_isOpen ⟨Nat.le_of_ble_eq_true rfl, Nat.le_of_ble_eq_true rfl⟩ hl.1 hc0 (Nat.le_of_ble_eq_true rfl) hK hPy dL_law_482 ?_
      refine lv_ifne_b (tgt := 493) hx hb dL_law_485 (by decide) (fun c485 => ?_) (fun c485 => ?_)
      · refine lv_iconst (v := 1) hx hb dL_law_493 (by decide) ?_
        refine lv_iload hx hb dL_law_494 (lv_at hl 4 rfl) ?_
        refine lv_ishl hx hb dL_law_496 ?_
        refine lv_iload hx hb dL_law_497 (lv_at hl 2 rfl) ?_
        refine lv_iconst (v := (-1)) hx hb dL_law_499 (by decide) ?_
        refine lv_aload_n hx hb dL_law_500 rfl (lv_at hl 18 rfl) ?_
        refine lv_aload hx hb dL_law_501 (lv_at hl 16 rfl) ?_
        refine lv_aload hx hb dL_law_503 (lv_at hl 15 rfl) ?_
        refine lv_aload hx hb dL_law_505 (lv_at hl 14 rfl) ?_
        refine lv_aload hx hb dL_law_507 (lv_at hl 13 rfl) ?_
        refine lv_aload hx hb dL_law_509 (lv_at hl 12 rfl) ?_
        refine k_L_lay_r D tI tZ tL 0 ay τ (1 <<< ((nI sub) &&& 31)) (nI st) nr (Y_q2 hY) (by omega) ⟨hx, hb, hml, hown, hts⟩ gL_law_L_lay ⟨Nat.le_of_ble_eq_true rfl, Nat.le_of_ble_eq_true rfl⟩ hl.1 hc0 (Nat.le_of_ble_eq_true rfl) (A_y A) hK hPy hS (A_yg A) dL_law_511 (fun H locs hPy hz hk hS => ?_)
        replace hPx := x_kept9 hPx (fun q h1 h2 => hk q h1 (A_xy A q h2))
        replace hPu := u_kept9 hPu (hk uo (u_lt9 hPu) (A_uy A))
        refine lv_istore (lv' := [(19, .int (nI nr)), (20, .int 0), (18, .int (nI st)), (17, .int (nI pu)), (16, .int (nI sub)), (15, .int (nI rec)), (14, .int (nI act)), (13, .int v), (12, .int (nI i)), (11, .ref uo), (10, .ref (ay 8)), (9, .ref (ay 7)), (8, .ref (ay 6)), (7, .ref (ay 5)), (6, .ref (ay 4)), (5, .ref (ay 3)), (4, .ref (ay 2)), (3, .ref (ay 1)), (2, .ref (ay 0)), (1, .ref xo), (0, .ref b)]) hx hb dL_law_514 hl (by decide) rfl (fun ls hl => ?_)
        refine lv_aload_n hx hb dL_law_516 rfl (lv_at hl 19 rfl) ?_
        refine lv_iconst (v := 1) hx hb dL_law_517 (by decide) ?_
        refine lv_iload hx hb dL_law_518 (lv_at hl 4 rfl) ?_
        refine lv_iload hx hb dL_law_520 (lv_at hl 2 rfl) ?_
        obtain ⟨code, val, σ', hxo, hv9, hZ⟩ := St_add hR hY hT htd hsub hst c455 h30 c485
        refine k_L_calls_add D tI tZ tL xo ax σ (nI sub) (nI st) code val σ' hxo hlf (A_x A) ⟨hx, hb, hml, hown, hts⟩ gL_law_L_calls ⟨Nat.le_of_ble_eq_true rfl, Nat.le_of_ble_eq_true rfl⟩ hl.1 hcap (Nat.le_of_ble_eq_true rfl) hK hPx (w_Emv hE hS) hS (A_xg A) dL_law_522 (fun H locs hPx hz hk hS => ?_)
        replace hPy := y_kept9 hPy (fun q h1 h2 => hk q h1 (A_yx A q h2))
        replace hPu := u_kept9 hPu (hk uo (u_lt9 hPu) (A_ux A))
        refine lv_topc (y := (nI nr)) hv9 ?_
        refine lv_istore (lv' := [(20, .int (nI nr)), (19, .int (nI nr)), (18, .int (nI st)), (17, .int (nI pu)), (16, .int (nI sub)), (15, .int (nI rec)), (14, .int (nI act)), (13, .int v), (12, .int (nI i)), (11, .ref uo), (10, .ref (ay 8)), (9, .ref (ay 7)), (8, .ref (ay 6)), (7, .ref (ay 5)), (6, .ref (ay 4)), (5, .ref (ay 3)), (4, .ref (ay 2)), (3, .ref (ay 1)), (2, .ref (ay 0)), (1, .ref xo), (0, .ref b)]) hx hb dL_law_525 hl (by decide) rfl (fun ls hl => ?_)
        refine lv_goto (tgt := 1225) hx hb dL_law_527 (by decide) ?_
        exact kk σ' (y_layR τ nr (1 <<< ((nI sub) &&& 31)) (nI st)) υ (nI nr) _ _ _ hZ hPx hPy hPu hS (lv_sub hl [0, 1, 8, 9, 10, 11, 12, 13, 14, 15, 16, 17, 18, 19, 20] rfl)
      · refine lv_bipush (v := (-3)) hx hb dL_law_488 (by decide) ?_
        refine lv_goto (tgt := 514) hx hb dL_law_490 (by decide) ?_
        refine lv_istore (lv' := [(19, .int (-3)), (20, .int 0), (18, .int (nI st)), (17, .int (nI pu)), (16, .int (nI sub)), (15, .int (nI rec)), (14, .int (nI act)), (13, .int v), (12, .int (nI i)), (11, .ref uo), (10, .ref (ay 8)), (9, .ref (ay 7)), (8, .ref (ay 6)), (7, .ref (ay 5)), (6, .ref (ay 4)), (5, .ref (ay 3)), (4, .ref (ay 2)), (3, .ref (ay 1)), (2, .ref (ay 0)), (1, .ref xo), (0, .ref b)]) hx hb dL_law_514 hl (by decide) rfl (fun ls hl => ?_)
        refine lv_aload_n hx hb dL_law_516 rfl (lv_at hl 19 rfl) ?_
        refine lv_iconst (v := 1) hx hb dL_law_517 (by decide) ?_
        refine lv_iload hx hb dL_law_518 (lv_at hl 4 rfl) ?_
        refine lv_iload hx hb dL_law_520 (lv_at hl 2 rfl) ?_
        obtain ⟨code, val, σ', hxo, hv9, hZ⟩ := St_addN hR hY hT htd hsub hst c455 (Or.inr c485)
        refine k_L_calls_add D tI tZ tL xo ax σ (nI sub) (nI st) code val σ' hxo hlf (A_x A) ⟨hx, hb, hml, hown, hts⟩ gL_law_L_calls ⟨Nat.le_of_ble_eq_true rfl, Nat.le_of_ble_eq_true rfl⟩ hl.1 hcap (Nat.le_of_ble_eq_true rfl) hK hPx (w_Emv hE hS) hS (A_xg A) dL_law_522 (fun H locs hPx hz hk hS => ?_)
        replace hPy := y_kept9 hPy (fun q h1 h2 => hk q h1 (A_yx A q h2))
        replace hPu := u_kept9 hPu (hk uo (u_lt9 hPu) (A_ux A))
        refine lv_topc (y := (-3)) hv9 ?_
        refine lv_istore (lv' := [(20, .int (-3)), (19, .int (-3)), (18, .int (nI st)), (17, .int (nI pu)), (16, .int (nI sub)), (15, .int (nI rec)), (14, .int (nI act)), (13, .int v), (12, .int (nI i)), (11, .ref uo), (10, .ref (ay 8)), (9, .ref (ay 7)), (8, .ref (ay 6)), (7, .ref (ay 5)), (6, .ref (ay 4)), (5, .ref (ay 3)), (4, .ref (ay 2)), (3, .ref (ay 1)), (2, .ref (ay 0)), (1, .ref xo), (0, .ref b)]) hx hb dL_law_525 hl (by decide) rfl (fun ls hl => ?_)
        refine lv_goto (tgt := 1225) hx hb dL_law_527 (by decide) ?_
        exact kk σ' τ υ (-3) _ _ _ hZ hPx hPy hPu hS (lv_sub hl [0, 1, 8, 9, 10, 11, 12, 13, 14, 15, 16, 17, 18, 19, 20] rfl)
  · refine lv_bipush (v := (-2)) hx hb dL_law_458 (by decide) ?_
    refine lv_goto (tgt := 514) hx hb dL_law_460 (by decide) ?_
    refine lv_istore (lv' := [(19, .int (-2)), (20, .int 0), (18, .int (nI st)), (17, .int (nI pu)), (16, .int (nI sub)), (15, .int (nI rec)), (14, .int (nI act)), (13, .int v), (12, .int (nI i)), (11, .ref uo), (10, .ref (ay 8)), (9, .ref (ay 7)), (8, .ref (ay 6)), (7, .ref (ay 5)), (6, .ref (ay 4)), (5, .ref (ay 3)), (4, .ref (ay 2)), (3, .ref (ay 1)), (2, .ref (ay 0)), (1, .ref xo), (0, .ref b)]) hx hb dL_law_514 hl (by decide) rfl (fun ls hl => ?_)
    refine lv_aload_n hx hb dL_law_516 rfl (lv_at hl 19 rfl) ?_
    refine lv_iconst (v := 1) hx hb dL_law_517 (by decide) ?_
    refine lv_iload hx hb dL_law_518 (lv_at hl 4 rfl) ?_
    refine lv_iload hx hb dL_law_520 (lv_at hl 2 rfl) ?_
    obtain ⟨code, val, σ', hxo, hv9, hZ⟩ := St_add0 hR hY hT htd hsub hst c455
    refine k_L_calls_add D tI tZ tL xo ax σ (nI sub) (nI st) code val σ' hxo hlf (A_x A) ⟨hx, hb, hml, hown, hts⟩ gL_law_L_calls ⟨Nat.le_of_ble_eq_true rfl, Nat.le_of_ble_eq_true rfl⟩ hl.1 hcap (Nat.le_of_ble_eq_true rfl) hK hPx (w_Emv hE hS) hS (A_xg A) dL_law_522 (fun H locs hPx hz hk hS => ?_)
    replace hPy := y_kept9 hPy (fun q h1 h2 => hk q h1 (A_yx A q h2))
    replace hPu := u_kept9 hPu (hk uo (u_lt9 hPu) (A_ux A))
    refine lv_topc (y := (-2)) hv9 ?_
    refine lv_istore (lv' := [(20, .int (-2)), (19, .int (-2)), (18, .int (nI st)), (17, .int (nI pu)), (16, .int (nI sub)), (15, .int (nI rec)), (14, .int (nI act)), (13, .int v), (12, .int (nI i)), (11, .ref uo), (10, .ref (ay 8)), (9, .ref (ay 7)), (8, .ref (ay 6)), (7, .ref (ay 5)), (6, .ref (ay 4)), (5, .ref (ay 3)), (4, .ref (ay 2)), (3, .ref (ay 1)), (2, .ref (ay 0)), (1, .ref xo), (0, .ref b)]) hx hb dL_law_525 hl (by decide) rfl (fun ls hl => ?_)
    refine lv_goto (tgt := 1225) hx hb dL_law_527 (by decide) ?_
    exact kk σ' τ υ (-2) _ _ _ hZ hPx hPy hPu hS (lv_sub hl [0, 1, 8, 9, 10, 11, 12, 13, 14, 15, 16, 17, 18, 19, 20] rfl)

end LC
