/-! ===== the law's calls ===== -/
section LC
variable {p : Program} {l : Launch} {e : Env} {s : State} {m : MethodId} {below : List Frame} {meth : Method} {c : Code} {H : Heap} {locs : List Loc} {cells slots : Nat} {Q : State → Prop} {ls : Array Slot} {D : va_G} {tI tZ tL : ClassId} {hx hm o b L i : Nat} {xs : Nat → Int32} {ax am : Nat → Nat} {σ τ : ST} {td np nr : Nat}
theorem lb_upd {f : Nat → Int64} {v : Int64} : (if (0 : Nat) = 0 then vp_updL f 0 v else f) (0 : Int32).toNatClampNeg = v := by
  rw [if_pos rfl, show (0 : Int32).toNatClampNeg = 0 by decide]
  simp [vp_updL]
theorem er_n (h : RR σ τ td np nr) (hf : m_fo τ.2 nr nr = none) : x_erA σ nr = -1 ∧ x_erS σ nr = σ := by
  unfold x_erA x_erS
  rw [find_eq h nr (Nat.le_refl _), hf]
  exact ⟨rfl, rfl⟩
theorem er_s (h : RR σ τ td np nr) {j : Nat} (hf : m_fo τ.2 nr nr = some j) : x_erA σ nr = nI j ∧ RR (x_erS σ nr) (s_put (s_set τ 0 0) 12 j 2) td np nr := by
  have hf2 : x_find σ nr nr = some j := by rw [find_eq h nr (Nat.le_refl _), hf]
  have hk := find_kept nr hf2
  unfold x_erA x_erS
  rw [hf2]
  exact ⟨rfl, RR_mv (RR_thr h 0) hk.1 hk.2⟩

theorem x_code_addPurpose {σ σ' : ST} {a1 : Int32} {a2 : Bool} {code : Nat} {val : Int32} (hout : x_out_addPurpose σ a1 a2 code val σ') : code = 0 ∨ ¬ nI code = 0 := by
  rcases hout with ⟨v, hv, g, rfl, rfl, rfl, rfl⟩ | ⟨v, g, hv0, hv1, hfull, rfl, rfl, rfl, rfl⟩ | ⟨v, g, hv0, hv1, np, hnp, hlt8, rfl, rfl, rfl, rfl, rfl⟩
  · first | exact Or.inl rfl | exact Or.inr (by decide)
  · first | exact Or.inl rfl | exact Or.inr (by decide)
  · first | exact Or.inl rfl | exact Or.inr (by decide)
set_option maxHeartbeats 4000000 in
set_option maxRecDepth 100000 in
theorem lc_addPurpose (E : L_E p l s m meth c b L xs D tI tZ tL) (A : L_A s hx ax hm am o) (hR : RR σ τ td np nr) (htd : td ≤ 999000) (hcap : cells + 1 ≤ room_1.cells ∧ slots + 6 ≤ room_1.slots) (hi : i + 3 < L) (hS : L_S s D tI tZ tL hx ax hm am o σ τ H locs) (hl : lv_has ls 7 (L_v b hx hm o i)) (kk : ∀ (σ' τ' : ST) (td' np' nr' : Nat) (H' : Heap) (locs' : List Loc) (ls' : Array Slot), td' ≤ td + 1000 → RR σ' τ' td' np' nr' → L_S s D tI tZ tL hx ax hm am o σ' τ' H' locs' → lv_has ls' 7 (L_v b hx hm o i) → W p l e room_1 s m #[Value.ref b] below meth c H' locs' (cells + 1) (slots + 6) Q (F0 m 1674 ls' [])) : W p l e room_1 s m #[Value.ref b] below meth c H locs cells slots Q (F0 m 168 ls []) := by
  obtain ⟨hex, hb, hml, hown, hts, hX, hbl, hK, hE, hlf, hL⟩ := E
  have S : CallFix p m c cL_law 7 s #[Value.ref b] wsL_law RL := ⟨hex, hb, hml, hown, hts⟩
  obtain ⟨f, hPx, hPm, hPo, hS⟩ := hS
  obtain ⟨code, val, σ', τ', hxo, hmo, hc0, td', np', nr', htd', hR'⟩ := P_addPurpose hR (xs (i + 1)) (!decide (xs (i + 2) = 0))
  have hcode := x_code_addPurpose hxo
  refine lv_aload_n hex hb dL_law_168 rfl (lv_at hl 3 rfl) ?_
  refine lb_arg (k := 1) hex hb hX hbl hL hS (lv_at hl 4 rfl) (lv_at hl 0 rfl) (by decide) (by omega) dL_law_169 dL_law_170 dL_law_172 dL_law_173 dL_law_174 ?_
  refine lb_arg (k := 2) hex hb hX hbl hL hS (lv_at hl 4 rfl) (lv_at hl 0 rfl) (by decide) (by omega) dL_law_175 dL_law_176 dL_law_178 dL_law_179 dL_law_180 ?_
  refine lb_bool hex hb dL_law_181 dL_law_184 dL_law_185 dL_law_188 ?_
  refine lv_aload_n hex hb dL_law_189 rfl (lv_at hl 1 rfl) ?_
  refine k_L_addPurpose D tI tZ tL hx ax σ o f (xs (i + 1)) (!decide (xs (i + 2) = 0)) code val σ' hxo hlf A.1 A.2.2.1 S gL_law_L_addPurpose ⟨Nat.le_of_ble_eq_true rfl, Nat.le_of_ble_eq_true rfl⟩ hl.1 hcap (Nat.le_of_ble_eq_true rfl) hK hPx hPo (w_Emv hE hS) hS (L_Aw A) dL_law_190 (fun H1 locs1 hw hz hk hS1 => ?_)
  replace hPm := m_kept9 hPm (fun q h1 h2 => hk q h1 (L_mw A q h2))
  obtain ⟨hPx, hPo⟩ := hw
  refine lv_istore (lv' := (5, .int (nI code)) :: L_v b hx hm o i) hex hb dL_law_193 hl (by decide) rfl (fun ls hl => ?_)
  refine lv_aload_n hex hb dL_law_195 rfl (lv_at hl 3 rfl) ?_
  refine lb_arg (k := 1) hex hb hX hbl hL hS1 (lv_at hl 5 rfl) (lv_at hl 1 rfl) (by decide) (by omega) dL_law_196 dL_law_197 dL_law_199 dL_law_200 dL_law_201 ?_
  refine lb_arg (k := 2) hex hb hX hbl hL hS1 (lv_at hl 5 rfl) (lv_at hl 1 rfl) (by decide) (by omega) dL_law_202 dL_law_203 dL_law_205 dL_law_206 dL_law_207 ?_
  refine lb_bool hex hb dL_law_208 dL_law_211 dL_law_212 dL_law_215 ?_
  refine km_addPurpose D tI tZ tL hm am τ (xs (i + 1)) (!decide (xs (i + 2) = 0)) val τ' hmo S gL_law_X1_addPurpose ⟨Nat.le_of_ble_eq_true rfl, Nat.le_of_ble_eq_true rfl⟩ hl.1 hcap (Nat.le_of_ble_eq_true rfl) A.2.1 hK hPm hS1 A.2.2.2.2.2.2.1 dL_law_216 (fun H2 locs2 hPm hz2 hk2 hS2 => ?_)
  replace hPx := x_kept9 hPx (fun q h1 h2 => hk2 q h1 (L_xm A q h2))
  replace hPo := o_kept hPo (hk2 o (o_lt hPo) A.2.2.2.1)
  refine lv_istore (lv' := (6, .int (val)) :: (5, .int (nI code)) :: L_v b hx hm o i) hex hb dL_law_219 hl (by decide) rfl (fun ls hl => ?_)
  refine lv_aload_n hex hb dL_law_221 rfl (lv_at hl 4 rfl) ?_
  refine k_X1_thrown D tI tZ tL hm am τ' S gL_law_X1_thrown ⟨Nat.le_of_ble_eq_true rfl, Nat.le_of_ble_eq_true rfl⟩ hl.1 hcap (Nat.le_of_ble_eq_true rfl) A.2.1 hK hPm hS2 A.2.2.2.2.2.2.1 dL_law_222 (fun H3 locs3 hPm hz3 hk3 hS3 => ?_)
  replace hPx := x_kept9 hPx (fun q h1 h2 => hk3 q h1 (L_xm A q h2))
  replace hPo := o_kept hPo (hk3 o (o_lt hPo) A.2.2.2.1)
  refine lv_iload hex hb dL_law_225 (lv_at hl 1 rfl) ?_
  refine lv_icmp_eq (tgt := 232) hex hb dL_law_227 (by decide) (fun _ => ?_) (fun hne => absurd hc0 hne)
  refine lv_iload hex hb dL_law_232 (lv_at hl 1 rfl) ?_
  refine lv_if_ne (tgt := 249) hex hb dL_law_234 (by decide) (fun _ => ?_) (fun h0 => ?_)
  · refine lv_goto (tgt := 1674) hex hb dL_law_249 (by decide) ?_
    exact kk σ' τ' td' np' nr' _ _ _ htd' hR' ⟨_, hPx, hPm, hPo, hS3⟩ (lv_sub hl [2, 3, 4, 5, 6] rfl)
  · have hcd : code = 0 := hcode.elim (fun h => h) (fun h => absurd h0 h)
    subst hcd
    refine lv_aload_n hex hb dL_law_237 rfl (lv_at hl 3 rfl) ?_
    refine lv_iconst (v := 0) hex hb dL_law_238 (by decide) ?_
    refine va_lald hex hb hK hPo 0 2 rfl rfl (vp_in_nI (n := 0) (by decide) (by decide)) dL_law_239 ?_
    refine lv_iload hex hb dL_law_240 (lv_at hl 0 rfl) ?_
    refine lv_i2l hex hb dL_law_242 rfl ?_
    refine lb_lcmp (lb_upd) hex hb dL_law_243 ?_
    refine lv_if_eq (tgt := 249) hex hb dL_law_244 (by decide) (fun _ => ?_) (fun h => absurd rfl h)
    refine lv_goto (tgt := 1674) hex hb dL_law_249 (by decide) ?_
    exact kk σ' τ' td' np' nr' _ _ _ htd' hR' ⟨_, hPx, hPm, hPo, hS3⟩ (lv_sub hl [2, 3, 4, 5, 6] rfl)
theorem x_code_setRetention {σ σ' : ST} {a1 : Int32} {a2 : Int32} {code : Nat} {val : Int32} (hout : x_out_setRetention σ a1 a2 code val σ') : code = 0 ∨ ¬ nI code = 0 := by
  rcases hout with ⟨v, hv, w, rfl, rfl, rfl, rfl⟩ | ⟨q, np, hnp, hn8, hq, v, hv, rfl, rfl, rfl, rfl⟩ | ⟨q, v, np, hnp, hn8, hq, hv0, hv1, rfl, rfl, rfl, rfl, rfl⟩
  · first | exact Or.inl rfl | exact Or.inr (by decide)
  · first | exact Or.inl rfl | exact Or.inr (by decide)
  · first | exact Or.inl rfl | exact Or.inr (by decide)
set_option maxHeartbeats 4000000 in
set_option maxRecDepth 100000 in
theorem lc_setRetention (E : L_E p l s m meth c b L xs D tI tZ tL) (A : L_A s hx ax hm am o) (hR : RR σ τ td np nr) (htd : td ≤ 999000) (hcap : cells + 1 ≤ room_1.cells ∧ slots + 6 ≤ room_1.slots) (hi : i + 3 < L) (hS : L_S s D tI tZ tL hx ax hm am o σ τ H locs) (hl : lv_has ls 7 (L_v b hx hm o i)) (kk : ∀ (σ' τ' : ST) (td' np' nr' : Nat) (H' : Heap) (locs' : List Loc) (ls' : Array Slot), td' ≤ td + 1000 → RR σ' τ' td' np' nr' → L_S s D tI tZ tL hx ax hm am o σ' τ' H' locs' → lv_has ls' 7 (L_v b hx hm o i) → W p l e room_1 s m #[Value.ref b] below meth c H' locs' (cells + 1) (slots + 6) Q (F0 m 1674 ls' [])) : W p l e room_1 s m #[Value.ref b] below meth c H locs cells slots Q (F0 m 252 ls []) := by
  obtain ⟨hex, hb, hml, hown, hts, hX, hbl, hK, hE, hlf, hL⟩ := E
  have S : CallFix p m c cL_law 7 s #[Value.ref b] wsL_law RL := ⟨hex, hb, hml, hown, hts⟩
  obtain ⟨f, hPx, hPm, hPo, hS⟩ := hS
  obtain ⟨code, val, σ', τ', hxo, hmo, hc0, td', np', nr', htd', hR'⟩ := P_setRetention hR (xs (i + 1)) (xs (i + 2))
  have hcode := x_code_setRetention hxo
  refine lv_aload_n hex hb dL_law_252 rfl (lv_at hl 3 rfl) ?_
  refine lb_arg (k := 1) hex hb hX hbl hL hS (lv_at hl 4 rfl) (lv_at hl 0 rfl) (by decide) (by omega) dL_law_253 dL_law_254 dL_law_256 dL_law_257 dL_law_258 ?_
  refine lb_arg (k := 2) hex hb hX hbl hL hS (lv_at hl 4 rfl) (lv_at hl 0 rfl) (by decide) (by omega) dL_law_259 dL_law_260 dL_law_262 dL_law_263 dL_law_264 ?_
  refine lv_aload_n hex hb dL_law_265 rfl (lv_at hl 1 rfl) ?_
  refine k_L_setRetention D tI tZ tL hx ax σ o f (xs (i + 1)) (xs (i + 2)) code val σ' hxo hlf A.1 A.2.2.1 S gL_law_L_setRetention ⟨Nat.le_of_ble_eq_true rfl, Nat.le_of_ble_eq_true rfl⟩ hl.1 hcap (Nat.le_of_ble_eq_true rfl) hK hPx hPo (w_Emv hE hS) hS (L_Aw A) dL_law_266 (fun H1 locs1 hw hz hk hS1 => ?_)
  replace hPm := m_kept9 hPm (fun q h1 h2 => hk q h1 (L_mw A q h2))
  obtain ⟨hPx, hPo⟩ := hw
  refine lv_istore (lv' := (5, .int (nI code)) :: L_v b hx hm o i) hex hb dL_law_269 hl (by decide) rfl (fun ls hl => ?_)
  refine lv_aload_n hex hb dL_law_271 rfl (lv_at hl 3 rfl) ?_
  refine lb_arg (k := 1) hex hb hX hbl hL hS1 (lv_at hl 5 rfl) (lv_at hl 1 rfl) (by decide) (by omega) dL_law_272 dL_law_273 dL_law_275 dL_law_276 dL_law_277 ?_
  refine lb_arg (k := 2) hex hb hX hbl hL hS1 (lv_at hl 5 rfl) (lv_at hl 1 rfl) (by decide) (by omega) dL_law_278 dL_law_279 dL_law_281 dL_law_282 dL_law_283 ?_
  refine km_setRetention D tI tZ tL hm am τ (xs (i + 1)) (xs (i + 2)) val τ' hmo S gL_law_X1_setRetention ⟨Nat.le_of_ble_eq_true rfl, Nat.le_of_ble_eq_true rfl⟩ hl.1 hcap (Nat.le_of_ble_eq_true rfl) A.2.1 hK hPm hS1 A.2.2.2.2.2.2.1 dL_law_284 (fun H2 locs2 hPm hz2 hk2 hS2 => ?_)
  replace hPx := x_kept9 hPx (fun q h1 h2 => hk2 q h1 (L_xm A q h2))
  replace hPo := o_kept hPo (hk2 o (o_lt hPo) A.2.2.2.1)
  refine lv_istore (lv' := (6, .int (val)) :: (5, .int (nI code)) :: L_v b hx hm o i) hex hb dL_law_287 hl (by decide) rfl (fun ls hl => ?_)
  refine lv_aload_n hex hb dL_law_289 rfl (lv_at hl 4 rfl) ?_
  refine k_X1_thrown D tI tZ tL hm am τ' S gL_law_X1_thrown ⟨Nat.le_of_ble_eq_true rfl, Nat.le_of_ble_eq_true rfl⟩ hl.1 hcap (Nat.le_of_ble_eq_true rfl) A.2.1 hK hPm hS2 A.2.2.2.2.2.2.1 dL_law_290 (fun H3 locs3 hPm hz3 hk3 hS3 => ?_)
  replace hPx := x_kept9 hPx (fun q h1 h2 => hk3 q h1 (L_xm A q h2))
  replace hPo := o_kept hPo (hk3 o (o_lt hPo) A.2.2.2.1)
  refine lv_iload hex hb dL_law_293 (lv_at hl 1 rfl) ?_
  refine lv_icmp_eq (tgt := 300) hex hb dL_law_295 (by decide) (fun _ => ?_) (fun hne => absurd hc0 hne)
  refine lv_iload hex hb dL_law_300 (lv_at hl 1 rfl) ?_
  refine lv_if_ne (tgt := 317) hex hb dL_law_302 (by decide) (fun _ => ?_) (fun h0 => ?_)
  · refine lv_goto (tgt := 1674) hex hb dL_law_317 (by decide) ?_
    exact kk σ' τ' td' np' nr' _ _ _ htd' hR' ⟨_, hPx, hPm, hPo, hS3⟩ (lv_sub hl [2, 3, 4, 5, 6] rfl)
  · have hcd : code = 0 := hcode.elim (fun h => h) (fun h => absurd h0 h)
    subst hcd
    refine lv_aload_n hex hb dL_law_305 rfl (lv_at hl 3 rfl) ?_
    refine lv_iconst (v := 0) hex hb dL_law_306 (by decide) ?_
    refine va_lald hex hb hK hPo 0 2 rfl rfl (vp_in_nI (n := 0) (by decide) (by decide)) dL_law_307 ?_
    refine lv_iload hex hb dL_law_308 (lv_at hl 0 rfl) ?_
    refine lv_i2l hex hb dL_law_310 rfl ?_
    refine lb_lcmp (lb_upd) hex hb dL_law_311 ?_
    refine lv_if_eq (tgt := 317) hex hb dL_law_312 (by decide) (fun _ => ?_) (fun h => absurd rfl h)
    refine lv_goto (tgt := 1674) hex hb dL_law_317 (by decide) ?_
    exact kk σ' τ' td' np' nr' _ _ _ htd' hR' ⟨_, hPx, hPm, hPo, hS3⟩ (lv_sub hl [2, 3, 4, 5, 6] rfl)
theorem x_code_consent {σ σ' : ST} {a1 : Int32} {a2 : Int32} {a3 : Bool} {code : Nat} {val : Bool} (hout : x_out_consent σ a1 a2 a3 code val σ') : code = 0 ∨ ¬ nI code = 0 := by
  rcases hout with ⟨v, hv, w, g, rfl, rfl, rfl, rfl, rfl⟩ | ⟨j, hj12, v, hv, g, rfl, rfl, rfl, rfl, rfl⟩ | ⟨j, hj12, q, g, np, hnp, hn8, hq, rfl, rfl, rfl, rfl, rfl, rfl⟩
  · first | exact Or.inl rfl | exact Or.inr (by decide)
  · first | exact Or.inl rfl | exact Or.inr (by decide)
  · first | exact Or.inl rfl | exact Or.inr (by decide)
set_option maxHeartbeats 4000000 in
set_option maxRecDepth 100000 in
theorem lc_consent (E : L_E p l s m meth c b L xs D tI tZ tL) (A : L_A s hx ax hm am o) (hR : RR σ τ td np nr) (htd : td ≤ 999000) (hcap : cells + 1 ≤ room_1.cells ∧ slots + 6 ≤ room_1.slots) (hi : i + 3 < L) (hS : L_S s D tI tZ tL hx ax hm am o σ τ H locs) (hl : lv_has ls 7 (L_v b hx hm o i)) (kk : ∀ (σ' τ' : ST) (td' np' nr' : Nat) (H' : Heap) (locs' : List Loc) (ls' : Array Slot), td' ≤ td + 1000 → RR σ' τ' td' np' nr' → L_S s D tI tZ tL hx ax hm am o σ' τ' H' locs' → lv_has ls' 7 (L_v b hx hm o i) → W p l e room_1 s m #[Value.ref b] below meth c H' locs' (cells + 1) (slots + 6) Q (F0 m 1674 ls' [])) : W p l e room_1 s m #[Value.ref b] below meth c H locs cells slots Q (F0 m 320 ls []) := by
  obtain ⟨hex, hb, hml, hown, hts, hX, hbl, hK, hE, hlf, hL⟩ := E
  have S : CallFix p m c cL_law 7 s #[Value.ref b] wsL_law RL := ⟨hex, hb, hml, hown, hts⟩
  obtain ⟨f, hPx, hPm, hPo, hS⟩ := hS
  obtain ⟨code, val, σ', τ', hxo, hmo, hc0, td', np', nr', htd', hR'⟩ := P_consent hR (xs (i + 1)) (xs (i + 2)) (!decide (xs (i + 3) = 0))
  have hcode := x_code_consent hxo
  refine lv_aload_n hex hb dL_law_320 rfl (lv_at hl 3 rfl) ?_
  refine lb_arg (k := 1) hex hb hX hbl hL hS (lv_at hl 4 rfl) (lv_at hl 0 rfl) (by decide) (by omega) dL_law_321 dL_law_322 dL_law_324 dL_law_325 dL_law_326 ?_
  refine lb_arg (k := 2) hex hb hX hbl hL hS (lv_at hl 4 rfl) (lv_at hl 0 rfl) (by decide) (by omega) dL_law_327 dL_law_328 dL_law_330 dL_law_331 dL_law_332 ?_
  refine lb_arg (k := 3) hex hb hX hbl hL hS (lv_at hl 4 rfl) (lv_at hl 0 rfl) (by decide) (by omega) dL_law_333 dL_law_334 dL_law_336 dL_law_337 dL_law_338 ?_
  refine lb_bool hex hb dL_law_339 dL_law_342 dL_law_343 dL_law_346 ?_
  refine lv_aload_n hex hb dL_law_347 rfl (lv_at hl 1 rfl) ?_
  refine k_L_consent D tI tZ tL hx ax σ o f (xs (i + 1)) (xs (i + 2)) (!decide (xs (i + 3) = 0)) code val σ' hxo hlf A.1 A.2.2.1 S gL_law_L_consent ⟨Nat.le_of_ble_eq_true rfl, Nat.le_of_ble_eq_true rfl⟩ hl.1 hcap (Nat.le_of_ble_eq_true rfl) hK hPx hPo (w_Emv hE hS) hS (L_Aw A) dL_law_348 (fun H1 locs1 hw hz hk hS1 => ?_)
  replace hPm := m_kept9 hPm (fun q h1 h2 => hk q h1 (L_mw A q h2))
  obtain ⟨hPx, hPo⟩ := hw
  refine lv_istore (lv' := (5, .int (nI code)) :: L_v b hx hm o i) hex hb dL_law_351 hl (by decide) rfl (fun ls hl => ?_)
  refine lv_aload_n hex hb dL_law_353 rfl (lv_at hl 3 rfl) ?_
  refine lb_arg (k := 1) hex hb hX hbl hL hS1 (lv_at hl 5 rfl) (lv_at hl 1 rfl) (by decide) (by omega) dL_law_354 dL_law_355 dL_law_357 dL_law_358 dL_law_359 ?_
  refine lb_arg (k := 2) hex hb hX hbl hL hS1 (lv_at hl 5 rfl) (lv_at hl 1 rfl) (by decide) (by omega) dL_law_360 dL_law_361 dL_law_363 dL_law_364 dL_law_365 ?_
  refine lb_arg (k := 3) hex hb hX hbl hL hS1 (lv_at hl 5 rfl) (lv_at hl 1 rfl) (by decide) (by omega) dL_law_366 dL_law_367 dL_law_369 dL_law_370 dL_law_371 ?_
  refine lb_bool hex hb dL_law_372 dL_law_375 dL_law_376 dL_law_379 ?_
  refine km_consent D tI tZ tL hm am τ (xs (i + 1)) (xs (i + 2)) (!decide (xs (i + 3) = 0)) val τ' hmo S gL_law_X1_consent ⟨Nat.le_of_ble_eq_true rfl, Nat.le_of_ble_eq_true rfl⟩ hl.1 hcap (Nat.le_of_ble_eq_true rfl) A.2.1 hK hPm hS1 A.2.2.2.2.2.2.1 dL_law_380 (fun H2 locs2 hPm hz2 hk2 hS2 => ?_)
  replace hPx := x_kept9 hPx (fun q h1 h2 => hk2 q h1 (L_xm A q h2))
  replace hPo := o_kept hPo (hk2 o (o_lt hPo) A.2.2.2.1)
  refine lv_istore (lv' := (6, .int (b01 val)) :: (5, .int (nI code)) :: L_v b hx hm o i) hex hb dL_law_383 hl (by decide) rfl (fun ls hl => ?_)
  refine lv_aload_n hex hb dL_law_385 rfl (lv_at hl 4 rfl) ?_
  refine k_X1_thrown D tI tZ tL hm am τ' S gL_law_X1_thrown ⟨Nat.le_of_ble_eq_true rfl, Nat.le_of_ble_eq_true rfl⟩ hl.1 hcap (Nat.le_of_ble_eq_true rfl) A.2.1 hK hPm hS2 A.2.2.2.2.2.2.1 dL_law_386 (fun H3 locs3 hPm hz3 hk3 hS3 => ?_)
  replace hPx := x_kept9 hPx (fun q h1 h2 => hk3 q h1 (L_xm A q h2))
  replace hPo := o_kept hPo (hk3 o (o_lt hPo) A.2.2.2.1)
  refine lv_iload hex hb dL_law_389 (lv_at hl 1 rfl) ?_
  refine lv_icmp_eq (tgt := 396) hex hb dL_law_391 (by decide) (fun _ => ?_) (fun hne => absurd hc0 hne)
  refine lv_iload hex hb dL_law_396 (lv_at hl 1 rfl) ?_
  refine lv_if_ne (tgt := 420) hex hb dL_law_398 (by decide) (fun _ => ?_) (fun h0 => ?_)
  · refine lv_goto (tgt := 1674) hex hb dL_law_420 (by decide) ?_
    exact kk σ' τ' td' np' nr' _ _ _ htd' hR' ⟨_, hPx, hPm, hPo, hS3⟩ (lv_sub hl [2, 3, 4, 5, 6] rfl)
  · have hcd : code = 0 := hcode.elim (fun h => h) (fun h => absurd h0 h)
    subst hcd
    refine lv_aload_n hex hb dL_law_401 rfl (lv_at hl 3 rfl) ?_
    refine lv_iconst (v := 0) hex hb dL_law_402 (by decide) ?_
    refine va_lald hex hb hK hPo 0 2 rfl rfl (vp_in_nI (n := 0) (by decide) (by decide)) dL_law_403 ?_
    refine lv_iload hex hb dL_law_404 (lv_at hl 0 rfl) ?_
    cases val with
    | false =>
      refine lv_if_eq (tgt := 413) hex hb dL_law_406 (by decide) (fun _ => ?_) (fun h => absurd rfl h)
      refine lv_lconst (v := 0) hex hb dL_law_413 (by decide) ?_
      refine lb_lcmp (lb_upd) hex hb dL_law_414 ?_
      refine lv_if_eq (tgt := 420) hex hb dL_law_415 (by decide) (fun _ => ?_) (fun h => absurd rfl h)
      refine lv_goto (tgt := 1674) hex hb dL_law_420 (by decide) ?_
      exact kk σ' τ' td' np' nr' _ _ _ htd' hR' ⟨_, hPx, hPm, hPo, hS3⟩ (lv_sub hl [2, 3, 4, 5, 6] rfl)
    | true =>
      refine lv_if_eq (tgt := 413) hex hb dL_law_406 (by decide) (fun h => absurd h (by decide)) (fun _ => ?_)
      refine lv_lconst (v := 1) hex hb dL_law_409 (by decide) ?_
      refine lv_goto (tgt := 414) hex hb dL_law_410 (by decide) ?_
      refine lb_lcmp (lb_upd) hex hb dL_law_414 ?_
      refine lv_if_eq (tgt := 420) hex hb dL_law_415 (by decide) (fun _ => ?_) (fun h => absurd rfl h)
      refine lv_goto (tgt := 1674) hex hb dL_law_420 (by decide) ?_
      exact kk σ' τ' td' np' nr' _ _ _ htd' hR' ⟨_, hPx, hPm, hPo, hS3⟩ (lv_sub hl [2, 3, 4, 5, 6] rfl)
theorem x_code_consents {σ σ' : ST} {a1 : Int32} {code : Nat} {val : Int32} (hout : x_out_consents σ a1 code val σ') : code = 0 ∨ ¬ nI code = 0 := by
  rcases hout with ⟨v, hv, rfl, rfl, rfl⟩ | ⟨j, hj12, rfl, rfl, rfl, rfl⟩
  · first | exact Or.inl rfl | exact Or.inr (by decide)
  · first | exact Or.inl rfl | exact Or.inr (by decide)
set_option maxHeartbeats 4000000 in
set_option maxRecDepth 100000 in
theorem lc_consents (E : L_E p l s m meth c b L xs D tI tZ tL) (A : L_A s hx ax hm am o) (hR : RR σ τ td np nr) (htd : td ≤ 999000) (hcap : cells + 1 ≤ room_1.cells ∧ slots + 6 ≤ room_1.slots) (hi : i + 3 < L) (hS : L_S s D tI tZ tL hx ax hm am o σ τ H locs) (hl : lv_has ls 7 (L_v b hx hm o i)) (kk : ∀ (σ' τ' : ST) (td' np' nr' : Nat) (H' : Heap) (locs' : List Loc) (ls' : Array Slot), td' ≤ td + 1000 → RR σ' τ' td' np' nr' → L_S s D tI tZ tL hx ax hm am o σ' τ' H' locs' → lv_has ls' 7 (L_v b hx hm o i) → W p l e room_1 s m #[Value.ref b] below meth c H' locs' (cells + 1) (slots + 6) Q (F0 m 1674 ls' [])) : W p l e room_1 s m #[Value.ref b] below meth c H locs cells slots Q (F0 m 423 ls []) := by
  obtain ⟨hex, hb, hml, hown, hts, hX, hbl, hK, hE, hlf, hL⟩ := E
  have S : CallFix p m c cL_law 7 s #[Value.ref b] wsL_law RL := ⟨hex, hb, hml, hown, hts⟩
  obtain ⟨f, hPx, hPm, hPo, hS⟩ := hS
  obtain ⟨code, val, σ', τ', hxo, hmo, hc0, td', np', nr', htd', hR'⟩ := P_consents hR (xs (i + 1))
  have hcode := x_code_consents hxo
  refine lv_aload_n hex hb dL_law_423 rfl (lv_at hl 3 rfl) ?_
  refine lb_arg (k := 1) hex hb hX hbl hL hS (lv_at hl 4 rfl) (lv_at hl 0 rfl) (by decide) (by omega) dL_law_424 dL_law_425 dL_law_427 dL_law_428 dL_law_429 ?_
  refine lv_aload_n hex hb dL_law_430 rfl (lv_at hl 1 rfl) ?_
  refine k_L_consents D tI tZ tL hx ax σ o f (xs (i + 1)) code val σ' hxo hlf A.1 A.2.2.1 S gL_law_L_consents ⟨Nat.le_of_ble_eq_true rfl, Nat.le_of_ble_eq_true rfl⟩ hl.1 hcap (Nat.le_of_ble_eq_true rfl) hK hPx hPo (w_Emv hE hS) hS (L_Aw A) dL_law_431 (fun H1 locs1 hw hz hk hS1 => ?_)
  replace hPm := m_kept9 hPm (fun q h1 h2 => hk q h1 (L_mw A q h2))
  obtain ⟨hPx, hPo⟩ := hw
  refine lv_istore (lv' := (5, .int (nI code)) :: L_v b hx hm o i) hex hb dL_law_434 hl (by decide) rfl (fun ls hl => ?_)
  refine lv_aload_n hex hb dL_law_436 rfl (lv_at hl 3 rfl) ?_
  refine lb_arg (k := 1) hex hb hX hbl hL hS1 (lv_at hl 5 rfl) (lv_at hl 1 rfl) (by decide) (by omega) dL_law_437 dL_law_438 dL_law_440 dL_law_441 dL_law_442 ?_
  refine km_consents D tI tZ tL hm am τ (xs (i + 1)) val τ' hmo S gL_law_X1_consents ⟨Nat.le_of_ble_eq_true rfl, Nat.le_of_ble_eq_true rfl⟩ hl.1 hcap (Nat.le_of_ble_eq_true rfl) A.2.1 hK hPm hS1 A.2.2.2.2.2.2.1 dL_law_443 (fun H2 locs2 hPm hz2 hk2 hS2 => ?_)
  replace hPx := x_kept9 hPx (fun q h1 h2 => hk2 q h1 (L_xm A q h2))
  replace hPo := o_kept hPo (hk2 o (o_lt hPo) A.2.2.2.1)
  refine lv_istore (lv' := (6, .int (val)) :: (5, .int (nI code)) :: L_v b hx hm o i) hex hb dL_law_446 hl (by decide) rfl (fun ls hl => ?_)
  refine lv_aload_n hex hb dL_law_448 rfl (lv_at hl 4 rfl) ?_
  refine k_X1_thrown D tI tZ tL hm am τ' S gL_law_X1_thrown ⟨Nat.le_of_ble_eq_true rfl, Nat.le_of_ble_eq_true rfl⟩ hl.1 hcap (Nat.le_of_ble_eq_true rfl) A.2.1 hK hPm hS2 A.2.2.2.2.2.2.1 dL_law_449 (fun H3 locs3 hPm hz3 hk3 hS3 => ?_)
  replace hPx := x_kept9 hPx (fun q h1 h2 => hk3 q h1 (L_xm A q h2))
  replace hPo := o_kept hPo (hk3 o (o_lt hPo) A.2.2.2.1)
  refine lv_iload hex hb dL_law_452 (lv_at hl 1 rfl) ?_
  refine lv_icmp_eq (tgt := 459) hex hb dL_law_454 (by decide) (fun _ => ?_) (fun hne => absurd hc0 hne)
  refine lv_iload hex hb dL_law_459 (lv_at hl 1 rfl) ?_
  refine lv_if_ne (tgt := 476) hex hb dL_law_461 (by decide) (fun _ => ?_) (fun h0 => ?_)
  · refine lv_goto (tgt := 1674) hex hb dL_law_476 (by decide) ?_
    exact kk σ' τ' td' np' nr' _ _ _ htd' hR' ⟨_, hPx, hPm, hPo, hS3⟩ (lv_sub hl [2, 3, 4, 5, 6] rfl)
  · have hcd : code = 0 := hcode.elim (fun h => h) (fun h => absurd h0 h)
    subst hcd
    refine lv_aload_n hex hb dL_law_464 rfl (lv_at hl 3 rfl) ?_
    refine lv_iconst (v := 0) hex hb dL_law_465 (by decide) ?_
    refine va_lald hex hb hK hPo 0 2 rfl rfl (vp_in_nI (n := 0) (by decide) (by decide)) dL_law_466 ?_
    refine lv_iload hex hb dL_law_467 (lv_at hl 0 rfl) ?_
    refine lv_i2l hex hb dL_law_469 rfl ?_
    refine lb_lcmp (lb_upd) hex hb dL_law_470 ?_
    refine lv_if_eq (tgt := 476) hex hb dL_law_471 (by decide) (fun _ => ?_) (fun h => absurd rfl h)
    refine lv_goto (tgt := 1674) hex hb dL_law_476 (by decide) ?_
    exact kk σ' τ' td' np' nr' _ _ _ htd' hR' ⟨_, hPx, hPm, hPo, hS3⟩ (lv_sub hl [2, 3, 4, 5, 6] rfl)
theorem x_code_daysWithConsent {σ σ' : ST} {a1 : Int32} {a2 : Int32} {code : Nat} {val : Int32} (hout : x_out_daysWithConsent σ a1 a2 code val σ') : code = 0 ∨ ¬ nI code = 0 := by
  rcases hout with ⟨v, hv, w, rfl, rfl, rfl, rfl⟩ | ⟨j, hj12, v, hv, rfl, rfl, rfl, rfl⟩ | ⟨j, hj12, q, np, hnp, hn8, hq, rfl, rfl, rfl, rfl, rfl⟩
  · first | exact Or.inl rfl | exact Or.inr (by decide)
  · first | exact Or.inl rfl | exact Or.inr (by decide)
  · first | exact Or.inl rfl | exact Or.inr (by decide)
set_option maxHeartbeats 4000000 in
set_option maxRecDepth 100000 in
theorem lc_daysWithConsent (E : L_E p l s m meth c b L xs D tI tZ tL) (A : L_A s hx ax hm am o) (hR : RR σ τ td np nr) (htd : td ≤ 999000) (hcap : cells + 1 ≤ room_1.cells ∧ slots + 6 ≤ room_1.slots) (hi : i + 3 < L) (hS : L_S s D tI tZ tL hx ax hm am o σ τ H locs) (hl : lv_has ls 7 (L_v b hx hm o i)) (kk : ∀ (σ' τ' : ST) (td' np' nr' : Nat) (H' : Heap) (locs' : List Loc) (ls' : Array Slot), td' ≤ td + 1000 → RR σ' τ' td' np' nr' → L_S s D tI tZ tL hx ax hm am o σ' τ' H' locs' → lv_has ls' 7 (L_v b hx hm o i) → W p l e room_1 s m #[Value.ref b] below meth c H' locs' (cells + 1) (slots + 6) Q (F0 m 1674 ls' [])) : W p l e room_1 s m #[Value.ref b] below meth c H locs cells slots Q (F0 m 479 ls []) := by
  obtain ⟨hex, hb, hml, hown, hts, hX, hbl, hK, hE, hlf, hL⟩ := E
  have S : CallFix p m c cL_law 7 s #[Value.ref b] wsL_law RL := ⟨hex, hb, hml, hown, hts⟩
  obtain ⟨f, hPx, hPm, hPo, hS⟩ := hS
  obtain ⟨code, val, σ', τ', hxo, hmo, hc0, td', np', nr', htd', hR'⟩ := P_daysWithConsent hR (xs (i + 1)) (xs (i + 2))
  have hcode := x_code_daysWithConsent hxo
  refine lv_aload_n hex hb dL_law_479 rfl (lv_at hl 3 rfl) ?_
  refine lb_arg (k := 1) hex hb hX hbl hL hS (lv_at hl 4 rfl) (lv_at hl 0 rfl) (by decide) (by omega) dL_law_480 dL_law_481 dL_law_483 dL_law_484 dL_law_485 ?_
  refine lb_arg (k := 2) hex hb hX hbl hL hS (lv_at hl 4 rfl) (lv_at hl 0 rfl) (by decide) (by omega) dL_law_486 dL_law_487 dL_law_489 dL_law_490 dL_law_491 ?_
  refine lv_aload_n hex hb dL_law_492 rfl (lv_at hl 1 rfl) ?_
  refine k_L_daysWithConsent D tI tZ tL hx ax σ o f (xs (i + 1)) (xs (i + 2)) code val σ' hxo hlf A.1 A.2.2.1 S gL_law_L_daysWithConsent ⟨Nat.le_of_ble_eq_true rfl, Nat.le_of_ble_eq_true rfl⟩ hl.1 hcap (Nat.le_of_ble_eq_true rfl) hK hPx hPo (w_Emv hE hS) hS (L_Aw A) dL_law_493 (fun H1 locs1 hw hz hk hS1 => ?_)
  replace hPm := m_kept9 hPm (fun q h1 h2 => hk q h1 (L_mw A q h2))
  obtain ⟨hPx, hPo⟩ := hw
  refine lv_istore (lv' := (5, .int (nI code)) :: L_v b hx hm o i) hex hb dL_law_496 hl (by decide) rfl (fun ls hl => ?_)
  refine lv_aload_n hex hb dL_law_498 rfl (lv_at hl 3 rfl) ?_
  refine lb_arg (k := 1) hex hb hX hbl hL hS1 (lv_at hl 5 rfl) (lv_at hl 1 rfl) (by decide) (by omega) dL_law_499 dL_law_500 dL_law_502 dL_law_503 dL_law_504 ?_
  refine lb_arg (k := 2) hex hb hX hbl hL hS1 (lv_at hl 5 rfl) (lv_at hl 1 rfl) (by decide) (by omega) dL_law_505 dL_law_506 dL_law_508 dL_law_509 dL_law_510 ?_
  refine km_daysWithConsent D tI tZ tL hm am τ (xs (i + 1)) (xs (i + 2)) val τ' hmo S gL_law_X1_daysWithConsent ⟨Nat.le_of_ble_eq_true rfl, Nat.le_of_ble_eq_true rfl⟩ hl.1 hcap (Nat.le_of_ble_eq_true rfl) A.2.1 hK hPm hS1 A.2.2.2.2.2.2.1 dL_law_511 (fun H2 locs2 hPm hz2 hk2 hS2 => ?_)
  replace hPx := x_kept9 hPx (fun q h1 h2 => hk2 q h1 (L_xm A q h2))
  replace hPo := o_kept hPo (hk2 o (o_lt hPo) A.2.2.2.1)
  refine lv_istore (lv' := (6, .int (val)) :: (5, .int (nI code)) :: L_v b hx hm o i) hex hb dL_law_514 hl (by decide) rfl (fun ls hl => ?_)
  refine lv_aload_n hex hb dL_law_516 rfl (lv_at hl 4 rfl) ?_
  refine k_X1_thrown D tI tZ tL hm am τ' S gL_law_X1_thrown ⟨Nat.le_of_ble_eq_true rfl, Nat.le_of_ble_eq_true rfl⟩ hl.1 hcap (Nat.le_of_ble_eq_true rfl) A.2.1 hK hPm hS2 A.2.2.2.2.2.2.1 dL_law_517 (fun H3 locs3 hPm hz3 hk3 hS3 => ?_)
  replace hPx := x_kept9 hPx (fun q h1 h2 => hk3 q h1 (L_xm A q h2))
  replace hPo := o_kept hPo (hk3 o (o_lt hPo) A.2.2.2.1)
  refine lv_iload hex hb dL_law_520 (lv_at hl 1 rfl) ?_
  refine lv_icmp_eq (tgt := 527) hex hb dL_law_522 (by decide) (fun _ => ?_) (fun hne => absurd hc0 hne)
  refine lv_iload hex hb dL_law_527 (lv_at hl 1 rfl) ?_
  refine lv_if_ne (tgt := 544) hex hb dL_law_529 (by decide) (fun _ => ?_) (fun h0 => ?_)
  · refine lv_goto (tgt := 1674) hex hb dL_law_544 (by decide) ?_
    exact kk σ' τ' td' np' nr' _ _ _ htd' hR' ⟨_, hPx, hPm, hPo, hS3⟩ (lv_sub hl [2, 3, 4, 5, 6] rfl)
  · have hcd : code = 0 := hcode.elim (fun h => h) (fun h => absurd h0 h)
    subst hcd
    refine lv_aload_n hex hb dL_law_532 rfl (lv_at hl 3 rfl) ?_
    refine lv_iconst (v := 0) hex hb dL_law_533 (by decide) ?_
    refine va_lald hex hb hK hPo 0 2 rfl rfl (vp_in_nI (n := 0) (by decide) (by decide)) dL_law_534 ?_
    refine lv_iload hex hb dL_law_535 (lv_at hl 0 rfl) ?_
    refine lv_i2l hex hb dL_law_537 rfl ?_
    refine lb_lcmp (lb_upd) hex hb dL_law_538 ?_
    refine lv_if_eq (tgt := 544) hex hb dL_law_539 (by decide) (fun _ => ?_) (fun h => absurd rfl h)
    refine lv_goto (tgt := 1674) hex hb dL_law_544 (by decide) ?_
    exact kk σ' τ' td' np' nr' _ _ _ htd' hR' ⟨_, hPx, hPm, hPo, hS3⟩ (lv_sub hl [2, 3, 4, 5, 6] rfl)
theorem x_code_add {σ σ' : ST} {a1 : Int32} {a2 : Int32} {code : Nat} {val : Int32} (hout : x_out_add σ a1 a2 code val σ') : code = 0 ∨ ¬ nI code = 0 := by
  rcases hout with ⟨v, hv, P, rfl, rfl, rfl, rfl⟩ | ⟨j, hj12, P, np, hnp, hn8, hq1, rfl, rfl, rfl, rfl⟩ | ⟨j, hj12, P, np, hnp, hn8, hq1, hq2, rfl, rfl, rfl, rfl⟩ | ⟨j, hj12, P, np, hnp, hn8, nr, hnr, hn30, hq1, hq2, hbad, rfl, rfl, rfl, rfl⟩ | ⟨j, hj12, P, nr, hnr, hr30, np, hnp, hn8, hq1, hq2, hop, rfl, rfl, rfl, rfl, rfl⟩
  · first | exact Or.inl rfl | exact Or.inr (by decide)
  · first | exact Or.inl rfl | exact Or.inr (by decide)
  · first | exact Or.inl rfl | exact Or.inr (by decide)
  · first | exact Or.inl rfl | exact Or.inr (by decide)
  · first | exact Or.inl rfl | exact Or.inr (by decide)
set_option maxHeartbeats 4000000 in
set_option maxRecDepth 100000 in
theorem lc_add (E : L_E p l s m meth c b L xs D tI tZ tL) (A : L_A s hx ax hm am o) (hR : RR σ τ td np nr) (htd : td ≤ 999000) (hcap : cells + 1 ≤ room_1.cells ∧ slots + 6 ≤ room_1.slots) (hi : i + 3 < L) (hS : L_S s D tI tZ tL hx ax hm am o σ τ H locs) (hl : lv_has ls 7 (L_v b hx hm o i)) (kk : ∀ (σ' τ' : ST) (td' np' nr' : Nat) (H' : Heap) (locs' : List Loc) (ls' : Array Slot), td' ≤ td + 1000 → RR σ' τ' td' np' nr' → L_S s D tI tZ tL hx ax hm am o σ' τ' H' locs' → lv_has ls' 7 (L_v b hx hm o i) → W p l e room_1 s m #[Value.ref b] below meth c H' locs' (cells + 1) (slots + 6) Q (F0 m 1674 ls' [])) : W p l e room_1 s m #[Value.ref b] below meth c H locs cells slots Q (F0 m 547 ls []) := by
  obtain ⟨hex, hb, hml, hown, hts, hX, hbl, hK, hE, hlf, hL⟩ := E
  have S : CallFix p m c cL_law 7 s #[Value.ref b] wsL_law RL := ⟨hex, hb, hml, hown, hts⟩
  obtain ⟨f, hPx, hPm, hPo, hS⟩ := hS
  obtain ⟨code, val, σ', τ', hxo, hmo, hc0, td', np', nr', htd', hR'⟩ := P_add hR (xs (i + 1)) (xs (i + 2))
  have hcode := x_code_add hxo
  refine lv_aload_n hex hb dL_law_547 rfl (lv_at hl 3 rfl) ?_
  refine lb_arg (k := 1) hex hb hX hbl hL hS (lv_at hl 4 rfl) (lv_at hl 0 rfl) (by decide) (by omega) dL_law_548 dL_law_549 dL_law_551 dL_law_552 dL_law_553 ?_
  refine lb_arg (k := 2) hex hb hX hbl hL hS (lv_at hl 4 rfl) (lv_at hl 0 rfl) (by decide) (by omega) dL_law_554 dL_law_555 dL_law_557 dL_law_558 dL_law_559 ?_
  refine lv_aload_n hex hb dL_law_560 rfl (lv_at hl 1 rfl) ?_
  refine k_L_add D tI tZ tL hx ax σ o f (xs (i + 1)) (xs (i + 2)) code val σ' hxo hlf A.1 A.2.2.1 S gL_law_L_add ⟨Nat.le_of_ble_eq_true rfl, Nat.le_of_ble_eq_true rfl⟩ hl.1 hcap (Nat.le_of_ble_eq_true rfl) hK hPx hPo (w_Emv hE hS) hS (L_Aw A) dL_law_561 (fun H1 locs1 hw hz hk hS1 => ?_)
  replace hPm := m_kept9 hPm (fun q h1 h2 => hk q h1 (L_mw A q h2))
  obtain ⟨hPx, hPo⟩ := hw
  refine lv_istore (lv' := (5, .int (nI code)) :: L_v b hx hm o i) hex hb dL_law_564 hl (by decide) rfl (fun ls hl => ?_)
  refine lv_aload_n hex hb dL_law_566 rfl (lv_at hl 3 rfl) ?_
  refine lb_arg (k := 1) hex hb hX hbl hL hS1 (lv_at hl 5 rfl) (lv_at hl 1 rfl) (by decide) (by omega) dL_law_567 dL_law_568 dL_law_570 dL_law_571 dL_law_572 ?_
  refine lb_arg (k := 2) hex hb hX hbl hL hS1 (lv_at hl 5 rfl) (lv_at hl 1 rfl) (by decide) (by omega) dL_law_573 dL_law_574 dL_law_576 dL_law_577 dL_law_578 ?_
  refine km_add D tI tZ tL hm am τ (xs (i + 1)) (xs (i + 2)) val τ' hmo S gL_law_X1_add ⟨Nat.le_of_ble_eq_true rfl, Nat.le_of_ble_eq_true rfl⟩ hl.1 hcap (Nat.le_of_ble_eq_true rfl) A.2.1 hK hPm hS1 A.2.2.2.2.2.2.1 dL_law_579 (fun H2 locs2 hPm hz2 hk2 hS2 => ?_)
  replace hPx := x_kept9 hPx (fun q h1 h2 => hk2 q h1 (L_xm A q h2))
  replace hPo := o_kept hPo (hk2 o (o_lt hPo) A.2.2.2.1)
  refine lv_istore (lv' := (6, .int (val)) :: (5, .int (nI code)) :: L_v b hx hm o i) hex hb dL_law_582 hl (by decide) rfl (fun ls hl => ?_)
  refine lv_aload_n hex hb dL_law_584 rfl (lv_at hl 4 rfl) ?_
  refine k_X1_thrown D tI tZ tL hm am τ' S gL_law_X1_thrown ⟨Nat.le_of_ble_eq_true rfl, Nat.le_of_ble_eq_true rfl⟩ hl.1 hcap (Nat.le_of_ble_eq_true rfl) A.2.1 hK hPm hS2 A.2.2.2.2.2.2.1 dL_law_585 (fun H3 locs3 hPm hz3 hk3 hS3 => ?_)
  replace hPx := x_kept9 hPx (fun q h1 h2 => hk3 q h1 (L_xm A q h2))
  replace hPo := o_kept hPo (hk3 o (o_lt hPo) A.2.2.2.1)
  refine lv_iload hex hb dL_law_588 (lv_at hl 1 rfl) ?_
  refine lv_icmp_eq (tgt := 595) hex hb dL_law_590 (by decide) (fun _ => ?_) (fun hne => absurd hc0 hne)
  refine lv_iload hex hb dL_law_595 (lv_at hl 1 rfl) ?_
  refine lv_if_ne (tgt := 612) hex hb dL_law_597 (by decide) (fun _ => ?_) (fun h0 => ?_)
  · refine lv_goto (tgt := 1674) hex hb dL_law_612 (by decide) ?_
    exact kk σ' τ' td' np' nr' _ _ _ htd' hR' ⟨_, hPx, hPm, hPo, hS3⟩ (lv_sub hl [2, 3, 4, 5, 6] rfl)
  · have hcd : code = 0 := hcode.elim (fun h => h) (fun h => absurd h0 h)
    subst hcd
    refine lv_aload_n hex hb dL_law_600 rfl (lv_at hl 3 rfl) ?_
    refine lv_iconst (v := 0) hex hb dL_law_601 (by decide) ?_
    refine va_lald hex hb hK hPo 0 2 rfl rfl (vp_in_nI (n := 0) (by decide) (by decide)) dL_law_602 ?_
    refine lv_iload hex hb dL_law_603 (lv_at hl 0 rfl) ?_
    refine lv_i2l hex hb dL_law_605 rfl ?_
    refine lb_lcmp (lb_upd) hex hb dL_law_606 ?_
    refine lv_if_eq (tgt := 612) hex hb dL_law_607 (by decide) (fun _ => ?_) (fun h => absurd rfl h)
    refine lv_goto (tgt := 1674) hex hb dL_law_612 (by decide) ?_
    exact kk σ' τ' td' np' nr' _ _ _ htd' hR' ⟨_, hPx, hPm, hPo, hS3⟩ (lv_sub hl [2, 3, 4, 5, 6] rfl)
theorem x_code_derive {σ σ' : ST} {a1 : Int32} {a2 : Int32} {code : Nat} {val : Int32} (hout : x_out_derive σ a1 a2 code val σ') : code = 0 ∨ ¬ nI code = 0 := by
  rcases hout with ⟨v, hv, P, rfl, rfl, rfl, rfl⟩ | ⟨r, nr, hnr, hn30, hrn, P, np, hnp, hn8, hq1, rfl, rfl, rfl, rfl⟩ | ⟨r, nr, hnr, hn30, hrn, P, np, hnp, hn8, hq1, hq2, rfl, rfl, rfl, rfl⟩ | ⟨r, nr, hnr, hn30, hrn, P, np, hnp, hn8, hq1, hq2, hpr, rfl, rfl, rfl, rfl⟩ | ⟨r, nr, hnr, hn30, hrn, P, np, hnp, hn8, hq1, hq2, hpr, hbad, rfl, rfl, rfl, rfl⟩ | ⟨r, P, nr, hnr, hr30, hrn, np, hnp, hn8, hq1, hq2, hpr, hop, rfl, rfl, rfl, rfl, rfl⟩
  · first | exact Or.inl rfl | exact Or.inr (by decide)
  · first | exact Or.inl rfl | exact Or.inr (by decide)
  · first | exact Or.inl rfl | exact Or.inr (by decide)
  · first | exact Or.inl rfl | exact Or.inr (by decide)
  · first | exact Or.inl rfl | exact Or.inr (by decide)
  · first | exact Or.inl rfl | exact Or.inr (by decide)
set_option maxHeartbeats 4000000 in
set_option maxRecDepth 100000 in
theorem lc_derive (E : L_E p l s m meth c b L xs D tI tZ tL) (A : L_A s hx ax hm am o) (hR : RR σ τ td np nr) (htd : td ≤ 999000) (hcap : cells + 1 ≤ room_1.cells ∧ slots + 6 ≤ room_1.slots) (hi : i + 3 < L) (hS : L_S s D tI tZ tL hx ax hm am o σ τ H locs) (hl : lv_has ls 7 (L_v b hx hm o i)) (kk : ∀ (σ' τ' : ST) (td' np' nr' : Nat) (H' : Heap) (locs' : List Loc) (ls' : Array Slot), td' ≤ td + 1000 → RR σ' τ' td' np' nr' → L_S s D tI tZ tL hx ax hm am o σ' τ' H' locs' → lv_has ls' 7 (L_v b hx hm o i) → W p l e room_1 s m #[Value.ref b] below meth c H' locs' (cells + 1) (slots + 6) Q (F0 m 1674 ls' [])) : W p l e room_1 s m #[Value.ref b] below meth c H locs cells slots Q (F0 m 615 ls []) := by
  obtain ⟨hex, hb, hml, hown, hts, hX, hbl, hK, hE, hlf, hL⟩ := E
  have S : CallFix p m c cL_law 7 s #[Value.ref b] wsL_law RL := ⟨hex, hb, hml, hown, hts⟩
  obtain ⟨f, hPx, hPm, hPo, hS⟩ := hS
  obtain ⟨code, val, σ', τ', hxo, hmo, hc0, td', np', nr', htd', hR'⟩ := P_derive hR (xs (i + 1)) (xs (i + 2))
  have hcode := x_code_derive hxo
  refine lv_aload_n hex hb dL_law_615 rfl (lv_at hl 3 rfl) ?_
  refine lb_arg (k := 1) hex hb hX hbl hL hS (lv_at hl 4 rfl) (lv_at hl 0 rfl) (by decide) (by omega) dL_law_616 dL_law_617 dL_law_619 dL_law_620 dL_law_621 ?_
  refine lb_arg (k := 2) hex hb hX hbl hL hS (lv_at hl 4 rfl) (lv_at hl 0 rfl) (by decide) (by omega) dL_law_622 dL_law_623 dL_law_625 dL_law_626 dL_law_627 ?_
  refine lv_aload_n hex hb dL_law_628 rfl (lv_at hl 1 rfl) ?_
  refine k_L_derive D tI tZ tL hx ax σ o f (xs (i + 1)) (xs (i + 2)) code val σ' hxo hlf A.1 A.2.2.1 S gL_law_L_derive ⟨Nat.le_of_ble_eq_true rfl, Nat.le_of_ble_eq_true rfl⟩ hl.1 hcap (Nat.le_of_ble_eq_true rfl) hK hPx hPo (w_Emv hE hS) hS (L_Aw A) dL_law_629 (fun H1 locs1 hw hz hk hS1 => ?_)
  replace hPm := m_kept9 hPm (fun q h1 h2 => hk q h1 (L_mw A q h2))
  obtain ⟨hPx, hPo⟩ := hw
  refine lv_istore (lv' := (5, .int (nI code)) :: L_v b hx hm o i) hex hb dL_law_632 hl (by decide) rfl (fun ls hl => ?_)
  refine lv_aload_n hex hb dL_law_634 rfl (lv_at hl 3 rfl) ?_
  refine lb_arg (k := 1) hex hb hX hbl hL hS1 (lv_at hl 5 rfl) (lv_at hl 1 rfl) (by decide) (by omega) dL_law_635 dL_law_636 dL_law_638 dL_law_639 dL_law_640 ?_
  refine lb_arg (k := 2) hex hb hX hbl hL hS1 (lv_at hl 5 rfl) (lv_at hl 1 rfl) (by decide) (by omega) dL_law_641 dL_law_642 dL_law_644 dL_law_645 dL_law_646 ?_
  refine km_derive D tI tZ tL hm am τ (xs (i + 1)) (xs (i + 2)) val τ' hmo S gL_law_X1_derive ⟨Nat.le_of_ble_eq_true rfl, Nat.le_of_ble_eq_true rfl⟩ hl.1 hcap (Nat.le_of_ble_eq_true rfl) A.2.1 hK hPm hS1 A.2.2.2.2.2.2.1 dL_law_647 (fun H2 locs2 hPm hz2 hk2 hS2 => ?_)
  replace hPx := x_kept9 hPx (fun q h1 h2 => hk2 q h1 (L_xm A q h2))
  replace hPo := o_kept hPo (hk2 o (o_lt hPo) A.2.2.2.1)
  refine lv_istore (lv' := (6, .int (val)) :: (5, .int (nI code)) :: L_v b hx hm o i) hex hb dL_law_650 hl (by decide) rfl (fun ls hl => ?_)
  refine lv_aload_n hex hb dL_law_652 rfl (lv_at hl 4 rfl) ?_
  refine k_X1_thrown D tI tZ tL hm am τ' S gL_law_X1_thrown ⟨Nat.le_of_ble_eq_true rfl, Nat.le_of_ble_eq_true rfl⟩ hl.1 hcap (Nat.le_of_ble_eq_true rfl) A.2.1 hK hPm hS2 A.2.2.2.2.2.2.1 dL_law_653 (fun H3 locs3 hPm hz3 hk3 hS3 => ?_)
  replace hPx := x_kept9 hPx (fun q h1 h2 => hk3 q h1 (L_xm A q h2))
  replace hPo := o_kept hPo (hk3 o (o_lt hPo) A.2.2.2.1)
  refine lv_iload hex hb dL_law_656 (lv_at hl 1 rfl) ?_
  refine lv_icmp_eq (tgt := 663) hex hb dL_law_658 (by decide) (fun _ => ?_) (fun hne => absurd hc0 hne)
  refine lv_iload hex hb dL_law_663 (lv_at hl 1 rfl) ?_
  refine lv_if_ne (tgt := 680) hex hb dL_law_665 (by decide) (fun _ => ?_) (fun h0 => ?_)
  · refine lv_goto (tgt := 1674) hex hb dL_law_680 (by decide) ?_
    exact kk σ' τ' td' np' nr' _ _ _ htd' hR' ⟨_, hPx, hPm, hPo, hS3⟩ (lv_sub hl [2, 3, 4, 5, 6] rfl)
  · have hcd : code = 0 := hcode.elim (fun h => h) (fun h => absurd h0 h)
    subst hcd
    refine lv_aload_n hex hb dL_law_668 rfl (lv_at hl 3 rfl) ?_
    refine lv_iconst (v := 0) hex hb dL_law_669 (by decide) ?_
    refine va_lald hex hb hK hPo 0 2 rfl rfl (vp_in_nI (n := 0) (by decide) (by decide)) dL_law_670 ?_
    refine lv_iload hex hb dL_law_671 (lv_at hl 0 rfl) ?_
    refine lv_i2l hex hb dL_law_673 rfl ?_
    refine lb_lcmp (lb_upd) hex hb dL_law_674 ?_
    refine lv_if_eq (tgt := 680) hex hb dL_law_675 (by decide) (fun _ => ?_) (fun h => absurd rfl h)
    refine lv_goto (tgt := 1674) hex hb dL_law_680 (by decide) ?_
    exact kk σ' τ' td' np' nr' _ _ _ htd' hR' ⟨_, hPx, hPm, hPo, hS3⟩ (lv_sub hl [2, 3, 4, 5, 6] rfl)
theorem x_code_addSource {σ σ' : ST} {a1 : Int32} {a2 : Int32} {code : Nat} {val : Int32} (hout : x_out_addSource σ a1 a2 code val σ') : code = 0 ∨ ¬ nI code = 0 := by
  rcases hout with ⟨v, hv, w, rfl, rfl, rfl, rfl⟩ | ⟨r, nr, hnr, hn30, hrn, v, hv, rfl, rfl, rfl, rfl⟩ | ⟨r, sr, nr, hnr, hn30, hrn, hsn, hsr, rfl, rfl, rfl, rfl⟩ | ⟨r, sr, nr, hnr, hn30, hrn, hsn, hsr, hso, rfl, rfl, rfl, rfl⟩ | ⟨r, sr, nr, hnr, hn30, hrn, hsn, hsr, hso, hrt, rfl, rfl, rfl, rfl⟩ | ⟨r, sr, nr, hnr, hn30, hrn, hsn, hsr, hso, hrt, hpr, rfl, rfl, rfl, rfl⟩ | ⟨r, sr, nr, hnr, hn30, hrn, hsn, hsr, hso, hrt, hp1, hp2, rfl, rfl, rfl, rfl, rfl⟩
  · first | exact Or.inl rfl | exact Or.inr (by decide)
  · first | exact Or.inl rfl | exact Or.inr (by decide)
  · first | exact Or.inl rfl | exact Or.inr (by decide)
  · first | exact Or.inl rfl | exact Or.inr (by decide)
  · first | exact Or.inl rfl | exact Or.inr (by decide)
  · first | exact Or.inl rfl | exact Or.inr (by decide)
  · first | exact Or.inl rfl | exact Or.inr (by decide)
set_option maxHeartbeats 4000000 in
set_option maxRecDepth 100000 in
theorem lc_addSource (E : L_E p l s m meth c b L xs D tI tZ tL) (A : L_A s hx ax hm am o) (hR : RR σ τ td np nr) (htd : td ≤ 999000) (hcap : cells + 1 ≤ room_1.cells ∧ slots + 6 ≤ room_1.slots) (hi : i + 3 < L) (hS : L_S s D tI tZ tL hx ax hm am o σ τ H locs) (hl : lv_has ls 7 (L_v b hx hm o i)) (kk : ∀ (σ' τ' : ST) (td' np' nr' : Nat) (H' : Heap) (locs' : List Loc) (ls' : Array Slot), td' ≤ td + 1000 → RR σ' τ' td' np' nr' → L_S s D tI tZ tL hx ax hm am o σ' τ' H' locs' → lv_has ls' 7 (L_v b hx hm o i) → W p l e room_1 s m #[Value.ref b] below meth c H' locs' (cells + 1) (slots + 6) Q (F0 m 1674 ls' [])) : W p l e room_1 s m #[Value.ref b] below meth c H locs cells slots Q (F0 m 683 ls []) := by
  obtain ⟨hex, hb, hml, hown, hts, hX, hbl, hK, hE, hlf, hL⟩ := E
  have S : CallFix p m c cL_law 7 s #[Value.ref b] wsL_law RL := ⟨hex, hb, hml, hown, hts⟩
  obtain ⟨f, hPx, hPm, hPo, hS⟩ := hS
  obtain ⟨code, val, σ', τ', hxo, hmo, hc0, td', np', nr', htd', hR'⟩ := P_addSource hR (xs (i + 1)) (xs (i + 2))
  have hcode := x_code_addSource hxo
  refine lv_aload_n hex hb dL_law_683 rfl (lv_at hl 3 rfl) ?_
  refine lb_arg (k := 1) hex hb hX hbl hL hS (lv_at hl 4 rfl) (lv_at hl 0 rfl) (by decide) (by omega) dL_law_684 dL_law_685 dL_law_687 dL_law_688 dL_law_689 ?_
  refine lb_arg (k := 2) hex hb hX hbl hL hS (lv_at hl 4 rfl) (lv_at hl 0 rfl) (by decide) (by omega) dL_law_690 dL_law_691 dL_law_693 dL_law_694 dL_law_695 ?_
  refine lv_aload_n hex hb dL_law_696 rfl (lv_at hl 1 rfl) ?_
  refine k_L_addSource D tI tZ tL hx ax σ o f (xs (i + 1)) (xs (i + 2)) code val σ' hxo hlf A.1 A.2.2.1 S gL_law_L_addSource ⟨Nat.le_of_ble_eq_true rfl, Nat.le_of_ble_eq_true rfl⟩ hl.1 hcap (Nat.le_of_ble_eq_true rfl) hK hPx hPo (w_Emv hE hS) hS (L_Aw A) dL_law_697 (fun H1 locs1 hw hz hk hS1 => ?_)
  replace hPm := m_kept9 hPm (fun q h1 h2 => hk q h1 (L_mw A q h2))
  obtain ⟨hPx, hPo⟩ := hw
  refine lv_istore (lv' := (5, .int (nI code)) :: L_v b hx hm o i) hex hb dL_law_700 hl (by decide) rfl (fun ls hl => ?_)
  refine lv_aload_n hex hb dL_law_702 rfl (lv_at hl 3 rfl) ?_
  refine lb_arg (k := 1) hex hb hX hbl hL hS1 (lv_at hl 5 rfl) (lv_at hl 1 rfl) (by decide) (by omega) dL_law_703 dL_law_704 dL_law_706 dL_law_707 dL_law_708 ?_
  refine lb_arg (k := 2) hex hb hX hbl hL hS1 (lv_at hl 5 rfl) (lv_at hl 1 rfl) (by decide) (by omega) dL_law_709 dL_law_710 dL_law_712 dL_law_713 dL_law_714 ?_
  refine km_addSource D tI tZ tL hm am τ (xs (i + 1)) (xs (i + 2)) val τ' hmo S gL_law_X1_addSource ⟨Nat.le_of_ble_eq_true rfl, Nat.le_of_ble_eq_true rfl⟩ hl.1 hcap (Nat.le_of_ble_eq_true rfl) A.2.1 hK hPm hS1 A.2.2.2.2.2.2.1 dL_law_715 (fun H2 locs2 hPm hz2 hk2 hS2 => ?_)
  replace hPx := x_kept9 hPx (fun q h1 h2 => hk2 q h1 (L_xm A q h2))
  replace hPo := o_kept hPo (hk2 o (o_lt hPo) A.2.2.2.1)
  refine lv_istore (lv' := (6, .int (val)) :: (5, .int (nI code)) :: L_v b hx hm o i) hex hb dL_law_718 hl (by decide) rfl (fun ls hl => ?_)
  refine lv_aload_n hex hb dL_law_720 rfl (lv_at hl 4 rfl) ?_
  refine k_X1_thrown D tI tZ tL hm am τ' S gL_law_X1_thrown ⟨Nat.le_of_ble_eq_true rfl, Nat.le_of_ble_eq_true rfl⟩ hl.1 hcap (Nat.le_of_ble_eq_true rfl) A.2.1 hK hPm hS2 A.2.2.2.2.2.2.1 dL_law_721 (fun H3 locs3 hPm hz3 hk3 hS3 => ?_)
  replace hPx := x_kept9 hPx (fun q h1 h2 => hk3 q h1 (L_xm A q h2))
  replace hPo := o_kept hPo (hk3 o (o_lt hPo) A.2.2.2.1)
  refine lv_iload hex hb dL_law_724 (lv_at hl 1 rfl) ?_
  refine lv_icmp_eq (tgt := 731) hex hb dL_law_726 (by decide) (fun _ => ?_) (fun hne => absurd hc0 hne)
  refine lv_iload hex hb dL_law_731 (lv_at hl 1 rfl) ?_
  refine lv_if_ne (tgt := 748) hex hb dL_law_733 (by decide) (fun _ => ?_) (fun h0 => ?_)
  · refine lv_goto (tgt := 1674) hex hb dL_law_748 (by decide) ?_
    exact kk σ' τ' td' np' nr' _ _ _ htd' hR' ⟨_, hPx, hPm, hPo, hS3⟩ (lv_sub hl [2, 3, 4, 5, 6] rfl)
  · have hcd : code = 0 := hcode.elim (fun h => h) (fun h => absurd h0 h)
    subst hcd
    refine lv_aload_n hex hb dL_law_736 rfl (lv_at hl 3 rfl) ?_
    refine lv_iconst (v := 0) hex hb dL_law_737 (by decide) ?_
    refine va_lald hex hb hK hPo 0 2 rfl rfl (vp_in_nI (n := 0) (by decide) (by decide)) dL_law_738 ?_
    refine lv_iload hex hb dL_law_739 (lv_at hl 0 rfl) ?_
    refine lv_i2l hex hb dL_law_741 rfl ?_
    refine lb_lcmp (lb_upd) hex hb dL_law_742 ?_
    refine lv_if_eq (tgt := 748) hex hb dL_law_743 (by decide) (fun _ => ?_) (fun h => absurd rfl h)
    refine lv_goto (tgt := 1674) hex hb dL_law_748 (by decide) ?_
    exact kk σ' τ' td' np' nr' _ _ _ htd' hR' ⟨_, hPx, hPm, hPo, hS3⟩ (lv_sub hl [2, 3, 4, 5, 6] rfl)
end LC
