section LC
variable {p : Program} {l : Launch} {e : Env} {s : State} {m : MethodId} {below : List Frame} {meth : Method} {c : Code} {H : Heap} {locs : List Loc} {cells slots : Nat} {Q : State → Prop} {ls : Array Slot} {D : va_G} {tI tZ tL : ClassId} {hx hm o b L i : Nat} {xs : Nat → Int32} {ax am : Nat → Nat} {σ τ : ST} {td np nr : Nat}

theorem x_code_passDays {σ σ' : ST} {a1 : Int32} {code : Nat} {val : Int32} (hout : x_out_passDays σ a1 code val σ') : code = 0 ∨ ¬ nI code = 0 := by
  rcases hout with ⟨v, hv, rfl, rfl, rfl⟩ | ⟨dd, hd1, hd2, np, hnp, hn8, nr, hnr, hn30, rfl, rfl, rfl, rfl⟩
  · first | exact Or.inl rfl | exact Or.inr (by decide)
  · first | exact Or.inl rfl | exact Or.inr (by decide)
set_option maxHeartbeats 4000000 in
set_option maxRecDepth 100000 in
theorem lc_passDays (E : L_E p l s m meth c b L xs D tI tZ tL) (A : L_A s hx ax hm am o) (hR : RR σ τ td np nr) (htd : td ≤ 999000) (hcap : cells + 1 ≤ room_1.cells ∧ slots + 6 ≤ room_1.slots) (hi : i + 3 < L) (hS : L_S s D tI tZ tL hx ax hm am o σ τ H locs) (hl : lv_has ls 7 (L_v b hx hm o i)) (kk : ∀ (σ' τ' : ST) (td' np' nr' : Nat) (H' : Heap) (locs' : List Loc) (ls' : Array Slot), td' ≤ td + 1000 → RR σ' τ' td' np' nr' → L_S s D tI tZ tL hx ax hm am o σ' τ' H' locs' → lv_has ls' 7 (L_v b hx hm o i) → W p l e room_1 s m #[Value.ref b] below meth c H' locs' (cells + 1) (slots + 6) Q (F0 m 1674 ls' [])) : W p l e room_1 s m #[Value.ref b] below meth c H locs cells slots Q (F0 m 1192 ls []) := by
  obtain ⟨hex, hb, hml, hown, hts, hX, hbl, hK, hE, hlf, hL⟩ := E
  have S : CallFix p m c cL_law 7 s #[Value.ref b] wsL_law RL := ⟨hex, hb, hml, hown, hts⟩
  obtain ⟨f, hPx, hPm, hPo, hS⟩ := hS
  obtain ⟨code, val, σ', τ', hxo, hmo, hc0, td', np', nr', htd', hR'⟩ := P_passDays hR htd (xs (i + 1))
  have hcode := x_code_passDays hxo
  refine lv_aload_n hex hb dL_law_1192 rfl (lv_at hl 3 rfl) ?_
  refine lb_arg (k := 1) hex hb hX hbl hL hS (lv_at hl 4 rfl) (lv_at hl 0 rfl) (by decide) (by omega) dL_law_1193 dL_law_1194 dL_law_1196 dL_law_1197 dL_law_1198 ?_
  refine lv_aload_n hex hb dL_law_1199 rfl (lv_at hl 1 rfl) ?_
  refine k_L_passDays D tI tZ tL hx ax σ o f (xs (i + 1)) code val σ' hxo hlf A.1 A.2.2.1 S gL_law_L_passDays ⟨Nat.le_of_ble_eq_true rfl, Nat.le_of_ble_eq_true rfl⟩ hl.1 hcap (Nat.le_of_ble_eq_true rfl) hK hPx hPo (w_Emv hE hS) hS (L_Aw A) dL_law_1200 (fun H1 locs1 hw hz hk hS1 => ?_)
  replace hPm := m_kept9 hPm (fun q h1 h2 => hk q h1 (L_mw A q h2))
  obtain ⟨hPx, hPo⟩ := hw
  refine lv_istore (lv' := (5, .int (nI code)) :: L_v b hx hm o i) hex hb dL_law_1203 hl (by decide) rfl (fun ls hl => ?_)
  refine lv_aload_n hex hb dL_law_1205 rfl (lv_at hl 3 rfl) ?_
  refine lb_arg (k := 1) hex hb hX hbl hL hS1 (lv_at hl 5 rfl) (lv_at hl 1 rfl) (by decide) (by omega) dL_law_1206 dL_law_1207 dL_law_1209 dL_law_1210 dL_law_1211 ?_
  refine km_passDays D tI tZ tL hm am τ (xs (i + 1)) val τ' hmo S gL_law_X1_passDays ⟨Nat.le_of_ble_eq_true rfl, Nat.le_of_ble_eq_true rfl⟩ hl.1 hcap (Nat.le_of_ble_eq_true rfl) A.2.1 hK hPm hS1 A.2.2.2.2.2.2.1 dL_law_1212 (fun H2 locs2 hPm hz2 hk2 hS2 => ?_)
  replace hPx := x_kept9 hPx (fun q h1 h2 => hk2 q h1 (L_xm A q h2))
  replace hPo := o_kept hPo (hk2 o (o_lt hPo) A.2.2.2.1)
  refine lv_istore (lv' := (6, .int (val)) :: (5, .int (nI code)) :: L_v b hx hm o i) hex hb dL_law_1215 hl (by decide) rfl (fun ls hl => ?_)
  refine lv_aload_n hex hb dL_law_1217 rfl (lv_at hl 4 rfl) ?_
  refine k_X1_thrown D tI tZ tL hm am τ' S gL_law_X1_thrown ⟨Nat.le_of_ble_eq_true rfl, Nat.le_of_ble_eq_true rfl⟩ hl.1 hcap (Nat.le_of_ble_eq_true rfl) A.2.1 hK hPm hS2 A.2.2.2.2.2.2.1 dL_law_1218 (fun H3 locs3 hPm hz3 hk3 hS3 => ?_)
  replace hPx := x_kept9 hPx (fun q h1 h2 => hk3 q h1 (L_xm A q h2))
  replace hPo := o_kept hPo (hk3 o (o_lt hPo) A.2.2.2.1)
  refine lv_iload hex hb dL_law_1221 (lv_at hl 1 rfl) ?_
  refine lv_icmp_eq (tgt := 1228) hex hb dL_law_1223 (by decide) (fun _ => ?_) (fun hne => absurd hc0 hne)
  refine lv_iload hex hb dL_law_1228 (lv_at hl 1 rfl) ?_
  refine lv_if_ne (tgt := 1245) hex hb dL_law_1230 (by decide) (fun _ => ?_) (fun h0 => ?_)
  · refine lv_goto (tgt := 1674) hex hb dL_law_1245 (by decide) ?_
    exact kk σ' τ' td' np' nr' _ _ _ htd' hR' ⟨_, hPx, hPm, hPo, hS3⟩ (lv_sub hl [2, 3, 4, 5, 6] rfl)
  · have hcd : code = 0 := hcode.elim (fun h => h) (fun h => absurd h0 h)
    subst hcd
    refine lv_aload_n hex hb dL_law_1233 rfl (lv_at hl 3 rfl) ?_
    refine lv_iconst (v := 0) hex hb dL_law_1234 (by decide) ?_
    refine va_lald hex hb hK hPo 0 2 rfl rfl (vp_in_nI (n := 0) (by decide) (by decide)) dL_law_1235 ?_
    refine lv_iload hex hb dL_law_1236 (lv_at hl 0 rfl) ?_
    refine lv_i2l hex hb dL_law_1238 rfl ?_
    refine lb_lcmp (lb_upd) hex hb dL_law_1239 ?_
    refine lv_if_eq (tgt := 1245) hex hb dL_law_1240 (by decide) (fun _ => ?_) (fun h => absurd rfl h)
    refine lv_goto (tgt := 1674) hex hb dL_law_1245 (by decide) ?_
    exact kk σ' τ' td' np' nr' _ _ _ htd' hR' ⟨_, hPx, hPm, hPo, hS3⟩ (lv_sub hl [2, 3, 4, 5, 6] rfl)
set_option maxHeartbeats 4000000 in
set_option maxRecDepth 100000 in
theorem lc_day (E : L_E p l s m meth c b L xs D tI tZ tL) (A : L_A s hx ax hm am o) (hR : RR σ τ td np nr) (htd : td ≤ 999000) (hcap : cells + 1 ≤ room_1.cells ∧ slots + 6 ≤ room_1.slots) (hi : i + 3 < L) (hS : L_S s D tI tZ tL hx ax hm am o σ τ H locs) (hl : lv_has ls 7 (L_v b hx hm o i)) (kk : ∀ (σ' τ' : ST) (td' np' nr' : Nat) (H' : Heap) (locs' : List Loc) (ls' : Array Slot), td' ≤ td + 1000 → RR σ' τ' td' np' nr' → L_S s D tI tZ tL hx ax hm am o σ' τ' H' locs' → lv_has ls' 7 (L_v b hx hm o i) → W p l e room_1 s m #[Value.ref b] below meth c H' locs' (cells + 1) (slots + 6) Q (F0 m 1674 ls' [])) : W p l e room_1 s m #[Value.ref b] below meth c H locs cells slots Q (F0 m 1248 ls []) := by
  obtain ⟨hex, hb, hml, hown, hts, hX, hbl, hK, hE, hlf, hL⟩ := E
  have S : CallFix p m c cL_law 7 s #[Value.ref b] wsL_law RL := ⟨hex, hb, hml, hown, hts⟩
  obtain ⟨f, hPx, hPm, hPo, hS⟩ := hS
  have hn30 := R_nr hR
  have hn8 := R_np hR
  refine lv_aload_n hex hb dL_law_1248 rfl (lv_at hl 3 rfl) ?_
  refine k_X0_day D tI tZ tL hx ax σ  S gL_law_X0_day ⟨Nat.le_of_ble_eq_true rfl, Nat.le_of_ble_eq_true rfl⟩ hl.1 ⟨by have := hcap.1; omega, by have := hcap.2; omega⟩ (Nat.le_of_ble_eq_true rfl) hK hPx dL_law_1249 ?_
  refine lv_aload_n hex hb dL_law_1252 rfl (lv_at hl 2 rfl) ?_
  refine k_X1_day D tI tZ tL hm am τ  S gL_law_X1_day ⟨Nat.le_of_ble_eq_true rfl, Nat.le_of_ble_eq_true rfl⟩ hl.1 ⟨by have := hcap.1; omega, by have := hcap.2; omega⟩ (Nat.le_of_ble_eq_true rfl) A.2.1 hK hPm hS A.2.2.2.2.2.2.1 dL_law_1253 (fun H2 locs2 hPm hz2 hk2 hS2 => ?_)
  replace hPx := x_kept9 hPx (fun q h1 h2 => hk2 q h1 (L_xm A q h2))
  replace hPo := o_kept hPo (hk2 o (o_lt hPo) A.2.2.2.1)
  refine lv_icmp_eq (tgt := 1674) hex hb dL_law_1256 (by decide) (fun _ => ?_) (fun hne => absurd ((R_x0 hR).trans (R_t1 hR).symm) hne)
  exact W.widen (Nat.le_add_right _ _) (Nat.le_add_right _ _) (kk _ _ td np nr _ _ _ (by omega) (RR_thr hR 0) ⟨_, hPx, hPm, hPo, hS2⟩ hl)
set_option maxHeartbeats 4000000 in
set_option maxRecDepth 100000 in
theorem lc_nextEnd (E : L_E p l s m meth c b L xs D tI tZ tL) (A : L_A s hx ax hm am o) (hR : RR σ τ td np nr) (htd : td ≤ 999000) (hcap : cells + 1 ≤ room_1.cells ∧ slots + 6 ≤ room_1.slots) (hi : i + 3 < L) (hS : L_S s D tI tZ tL hx ax hm am o σ τ H locs) (hl : lv_has ls 7 (L_v b hx hm o i)) (kk : ∀ (σ' τ' : ST) (td' np' nr' : Nat) (H' : Heap) (locs' : List Loc) (ls' : Array Slot), td' ≤ td + 1000 → RR σ' τ' td' np' nr' → L_S s D tI tZ tL hx ax hm am o σ' τ' H' locs' → lv_has ls' 7 (L_v b hx hm o i) → W p l e room_1 s m #[Value.ref b] below meth c H' locs' (cells + 1) (slots + 6) Q (F0 m 1674 ls' [])) : W p l e room_1 s m #[Value.ref b] below meth c H locs cells slots Q (F0 m 1261 ls []) := by
  obtain ⟨hex, hb, hml, hown, hts, hX, hbl, hK, hE, hlf, hL⟩ := E
  have S : CallFix p m c cL_law 7 s #[Value.ref b] wsL_law RL := ⟨hex, hb, hml, hown, hts⟩
  obtain ⟨f, hPx, hPm, hPo, hS⟩ := hS
  have hn30 := R_nr hR
  have hn8 := R_np hR
  refine lv_aload_n hex hb dL_law_1261 rfl (lv_at hl 3 rfl) ?_
  refine k_X0_nextEnd D tI tZ tL hx ax σ np (R_x1 hR) hn8 nr (R_x6 hR) hn30 S gL_law_X0_nextEnd ⟨Nat.le_of_ble_eq_true rfl, Nat.le_of_ble_eq_true rfl⟩ hl.1 ⟨by have := hcap.1; omega, by have := hcap.2; omega⟩ (Nat.le_of_ble_eq_true rfl) hK hPx dL_law_1262 ?_
  refine lv_aload_n hex hb dL_law_1265 rfl (lv_at hl 2 rfl) ?_
  refine k_X1_nextEnd D tI tZ tL hm am τ np (R_t2 hR) hn8 nr (R_t7 hR) hn30 S gL_law_X1_nextEnd ⟨Nat.le_of_ble_eq_true rfl, Nat.le_of_ble_eq_true rfl⟩ hl.1 ⟨by have := hcap.1; omega, by have := hcap.2; omega⟩ (Nat.le_of_ble_eq_true rfl) A.2.1 hK hPm hS A.2.2.2.2.2.2.1 dL_law_1266 (fun H2 locs2 hPm hz2 hk2 hS2 => ?_)
  replace hPx := x_kept9 hPx (fun q h1 h2 => hk2 q h1 (L_xm A q h2))
  replace hPo := o_kept hPo (hk2 o (o_lt hPo) A.2.2.2.1)
  refine lv_icmp_eq (tgt := 1674) hex hb dL_law_1269 (by decide) (fun _ => ?_) (fun hne => absurd (nend_eq hR nr (Nat.le_refl _)) hne)
  exact W.widen (Nat.le_add_right _ _) (Nat.le_add_right _ _) (kk _ _ td np nr _ _ _ (by omega) (RR_thr hR 0) ⟨_, hPx, hPm, hPo, hS2⟩ hl)
theorem x_code_hold {σ σ' : ST} {a1 : Int32} {a2 : Int32} {code : Nat} {val : Int32} (hout : x_out_hold σ a1 a2 code val σ') : code = 0 ∨ ¬ nI code = 0 := by
  rcases hout with ⟨v, hv, w, rfl, rfl, rfl, rfl⟩ | ⟨i, hi6, v, hv, rfl, rfl, rfl, rfl⟩ | ⟨i, r, nr, hnr, hn30, hrn, hi6, her, rfl, rfl, rfl, rfl⟩ | ⟨i, r, nr, hnr, hn30, hrn, hi6, her, hho, rfl, rfl, rfl, rfl⟩ | ⟨i, r, nr, hnr, hn30, hrn, hi6, her, hho, rfl, rfl, rfl, rfl, rfl⟩
  · first | exact Or.inl rfl | exact Or.inr (by decide)
  · first | exact Or.inl rfl | exact Or.inr (by decide)
  · first | exact Or.inl rfl | exact Or.inr (by decide)
  · first | exact Or.inl rfl | exact Or.inr (by decide)
  · first | exact Or.inl rfl | exact Or.inr (by decide)
set_option maxHeartbeats 4000000 in
set_option maxRecDepth 100000 in
theorem lc_hold (E : L_E p l s m meth c b L xs D tI tZ tL) (A : L_A s hx ax hm am o) (hR : RR σ τ td np nr) (htd : td ≤ 999000) (hcap : cells + 1 ≤ room_1.cells ∧ slots + 6 ≤ room_1.slots) (hi : i + 3 < L) (hS : L_S s D tI tZ tL hx ax hm am o σ τ H locs) (hl : lv_has ls 7 (L_v b hx hm o i)) (kk : ∀ (σ' τ' : ST) (td' np' nr' : Nat) (H' : Heap) (locs' : List Loc) (ls' : Array Slot), td' ≤ td + 1000 → RR σ' τ' td' np' nr' → L_S s D tI tZ tL hx ax hm am o σ' τ' H' locs' → lv_has ls' 7 (L_v b hx hm o i) → W p l e room_1 s m #[Value.ref b] below meth c H' locs' (cells + 1) (slots + 6) Q (F0 m 1674 ls' [])) : W p l e room_1 s m #[Value.ref b] below meth c H locs cells slots Q (F0 m 1274 ls []) := by
  obtain ⟨hex, hb, hml, hown, hts, hX, hbl, hK, hE, hlf, hL⟩ := E
  have S : CallFix p m c cL_law 7 s #[Value.ref b] wsL_law RL := ⟨hex, hb, hml, hown, hts⟩
  obtain ⟨f, hPx, hPm, hPo, hS⟩ := hS
  obtain ⟨code, val, σ', τ', hxo, hmo, hc0, td', np', nr', htd', hR'⟩ := P_hold hR (xs (i + 1)) (xs (i + 2))
  have hcode := x_code_hold hxo
  refine lv_aload_n hex hb dL_law_1274 rfl (lv_at hl 3 rfl) ?_
  refine lb_arg (k := 1) hex hb hX hbl hL hS (lv_at hl 4 rfl) (lv_at hl 0 rfl) (by decide) (by omega) dL_law_1275 dL_law_1276 dL_law_1278 dL_law_1279 dL_law_1280 ?_
  refine lb_arg (k := 2) hex hb hX hbl hL hS (lv_at hl 4 rfl) (lv_at hl 0 rfl) (by decide) (by omega) dL_law_1281 dL_law_1282 dL_law_1284 dL_law_1285 dL_law_1286 ?_
  refine lv_aload_n hex hb dL_law_1287 rfl (lv_at hl 1 rfl) ?_
  refine k_L_hold D tI tZ tL hx ax σ o f (xs (i + 1)) (xs (i + 2)) code val σ' hxo hlf A.1 A.2.2.1 S gL_law_L_hold ⟨Nat.le_of_ble_eq_true rfl, Nat.le_of_ble_eq_true rfl⟩ hl.1 hcap (Nat.le_of_ble_eq_true rfl) hK hPx hPo (w_Emv hE hS) hS (L_Aw A) dL_law_1288 (fun H1 locs1 hw hz hk hS1 => ?_)
  replace hPm := m_kept9 hPm (fun q h1 h2 => hk q h1 (L_mw A q h2))
  obtain ⟨hPx, hPo⟩ := hw
  refine lv_istore (lv' := (5, .int (nI code)) :: L_v b hx hm o i) hex hb dL_law_1291 hl (by decide) rfl (fun ls hl => ?_)
  refine lv_aload_n hex hb dL_law_1293 rfl (lv_at hl 3 rfl) ?_
  refine lb_arg (k := 1) hex hb hX hbl hL hS1 (lv_at hl 5 rfl) (lv_at hl 1 rfl) (by decide) (by omega) dL_law_1294 dL_law_1295 dL_law_1297 dL_law_1298 dL_law_1299 ?_
  refine lb_arg (k := 2) hex hb hX hbl hL hS1 (lv_at hl 5 rfl) (lv_at hl 1 rfl) (by decide) (by omega) dL_law_1300 dL_law_1301 dL_law_1303 dL_law_1304 dL_law_1305 ?_
  refine km_hold D tI tZ tL hm am τ (xs (i + 1)) (xs (i + 2)) val τ' hmo S gL_law_X1_hold ⟨Nat.le_of_ble_eq_true rfl, Nat.le_of_ble_eq_true rfl⟩ hl.1 hcap (Nat.le_of_ble_eq_true rfl) A.2.1 hK hPm hS1 A.2.2.2.2.2.2.1 dL_law_1306 (fun H2 locs2 hPm hz2 hk2 hS2 => ?_)
  replace hPx := x_kept9 hPx (fun q h1 h2 => hk2 q h1 (L_xm A q h2))
  replace hPo := o_kept hPo (hk2 o (o_lt hPo) A.2.2.2.1)
  refine lv_istore (lv' := (6, .int (val)) :: (5, .int (nI code)) :: L_v b hx hm o i) hex hb dL_law_1309 hl (by decide) rfl (fun ls hl => ?_)
  refine lv_aload_n hex hb dL_law_1311 rfl (lv_at hl 4 rfl) ?_
  refine k_X1_thrown D tI tZ tL hm am τ' S gL_law_X1_thrown ⟨Nat.le_of_ble_eq_true rfl, Nat.le_of_ble_eq_true rfl⟩ hl.1 hcap (Nat.le_of_ble_eq_true rfl) A.2.1 hK hPm hS2 A.2.2.2.2.2.2.1 dL_law_1312 (fun H3 locs3 hPm hz3 hk3 hS3 => ?_)
  replace hPx := x_kept9 hPx (fun q h1 h2 => hk3 q h1 (L_xm A q h2))
  replace hPo := o_kept hPo (hk3 o (o_lt hPo) A.2.2.2.1)
  refine lv_iload hex hb dL_law_1315 (lv_at hl 1 rfl) ?_
  refine lv_icmp_eq (tgt := 1322) hex hb dL_law_1317 (by decide) (fun _ => ?_) (fun hne => absurd hc0 hne)
  refine lv_iload hex hb dL_law_1322 (lv_at hl 1 rfl) ?_
  refine lv_if_ne (tgt := 1339) hex hb dL_law_1324 (by decide) (fun _ => ?_) (fun h0 => ?_)
  · refine lv_goto (tgt := 1674) hex hb dL_law_1339 (by decide) ?_
    exact kk σ' τ' td' np' nr' _ _ _ htd' hR' ⟨_, hPx, hPm, hPo, hS3⟩ (lv_sub hl [2, 3, 4, 5, 6] rfl)
  · have hcd : code = 0 := hcode.elim (fun h => h) (fun h => absurd h0 h)
    subst hcd
    refine lv_aload_n hex hb dL_law_1327 rfl (lv_at hl 3 rfl) ?_
    refine lv_iconst (v := 0) hex hb dL_law_1328 (by decide) ?_
    refine va_lald hex hb hK hPo 0 2 rfl rfl (vp_in_nI (n := 0) (by decide) (by decide)) dL_law_1329 ?_
    refine lv_iload hex hb dL_law_1330 (lv_at hl 0 rfl) ?_
    refine lv_i2l hex hb dL_law_1332 rfl ?_
    refine lb_lcmp (lb_upd) hex hb dL_law_1333 ?_
    refine lv_if_eq (tgt := 1339) hex hb dL_law_1334 (by decide) (fun _ => ?_) (fun h => absurd rfl h)
    refine lv_goto (tgt := 1674) hex hb dL_law_1339 (by decide) ?_
    exact kk σ' τ' td' np' nr' _ _ _ htd' hR' ⟨_, hPx, hPm, hPo, hS3⟩ (lv_sub hl [2, 3, 4, 5, 6] rfl)
theorem x_code_close {σ σ' : ST} {a1 : Int32} {code : Nat} {val : Int32} (hout : x_out_close σ a1 code val σ') : code = 0 ∨ ¬ nI code = 0 := by
  rcases hout with ⟨v, hv, rfl, rfl, rfl⟩ | ⟨i, hi6, rfl, rfl, rfl, rfl⟩
  · first | exact Or.inl rfl | exact Or.inr (by decide)
  · first | exact Or.inl rfl | exact Or.inr (by decide)
set_option maxHeartbeats 4000000 in
set_option maxRecDepth 100000 in
theorem lc_close (E : L_E p l s m meth c b L xs D tI tZ tL) (A : L_A s hx ax hm am o) (hR : RR σ τ td np nr) (htd : td ≤ 999000) (hcap : cells + 1 ≤ room_1.cells ∧ slots + 6 ≤ room_1.slots) (hi : i + 3 < L) (hS : L_S s D tI tZ tL hx ax hm am o σ τ H locs) (hl : lv_has ls 7 (L_v b hx hm o i)) (kk : ∀ (σ' τ' : ST) (td' np' nr' : Nat) (H' : Heap) (locs' : List Loc) (ls' : Array Slot), td' ≤ td + 1000 → RR σ' τ' td' np' nr' → L_S s D tI tZ tL hx ax hm am o σ' τ' H' locs' → lv_has ls' 7 (L_v b hx hm o i) → W p l e room_1 s m #[Value.ref b] below meth c H' locs' (cells + 1) (slots + 6) Q (F0 m 1674 ls' [])) : W p l e room_1 s m #[Value.ref b] below meth c H locs cells slots Q (F0 m 1342 ls []) := by
  obtain ⟨hex, hb, hml, hown, hts, hX, hbl, hK, hE, hlf, hL⟩ := E
  have S : CallFix p m c cL_law 7 s #[Value.ref b] wsL_law RL := ⟨hex, hb, hml, hown, hts⟩
  obtain ⟨f, hPx, hPm, hPo, hS⟩ := hS
  obtain ⟨code, val, σ', τ', hxo, hmo, hc0, td', np', nr', htd', hR'⟩ := P_close hR (xs (i + 1))
  have hcode := x_code_close hxo
  refine lv_aload_n hex hb dL_law_1342 rfl (lv_at hl 3 rfl) ?_
  refine lb_arg (k := 1) hex hb hX hbl hL hS (lv_at hl 4 rfl) (lv_at hl 0 rfl) (by decide) (by omega) dL_law_1343 dL_law_1344 dL_law_1346 dL_law_1347 dL_law_1348 ?_
  refine lv_aload_n hex hb dL_law_1349 rfl (lv_at hl 1 rfl) ?_
  refine k_L_close D tI tZ tL hx ax σ o f (xs (i + 1)) code val σ' hxo hlf A.1 A.2.2.1 S gL_law_L_close ⟨Nat.le_of_ble_eq_true rfl, Nat.le_of_ble_eq_true rfl⟩ hl.1 hcap (Nat.le_of_ble_eq_true rfl) hK hPx hPo (w_Emv hE hS) hS (L_Aw A) dL_law_1350 (fun H1 locs1 hw hz hk hS1 => ?_)
  replace hPm := m_kept9 hPm (fun q h1 h2 => hk q h1 (L_mw A q h2))
  obtain ⟨hPx, hPo⟩ := hw
  refine lv_istore (lv' := (5, .int (nI code)) :: L_v b hx hm o i) hex hb dL_law_1353 hl (by decide) rfl (fun ls hl => ?_)
  refine lv_aload_n hex hb dL_law_1355 rfl (lv_at hl 3 rfl) ?_
  refine lb_arg (k := 1) hex hb hX hbl hL hS1 (lv_at hl 5 rfl) (lv_at hl 1 rfl) (by decide) (by omega) dL_law_1356 dL_law_1357 dL_law_1359 dL_law_1360 dL_law_1361 ?_
  refine km_close D tI tZ tL hm am τ (xs (i + 1)) val τ' hmo S gL_law_X1_close ⟨Nat.le_of_ble_eq_true rfl, Nat.le_of_ble_eq_true rfl⟩ hl.1 hcap (Nat.le_of_ble_eq_true rfl) A.2.1 hK hPm hS1 A.2.2.2.2.2.2.1 dL_law_1362 (fun H2 locs2 hPm hz2 hk2 hS2 => ?_)
  replace hPx := x_kept9 hPx (fun q h1 h2 => hk2 q h1 (L_xm A q h2))
  replace hPo := o_kept hPo (hk2 o (o_lt hPo) A.2.2.2.1)
  refine lv_istore (lv' := (6, .int (val)) :: (5, .int (nI code)) :: L_v b hx hm o i) hex hb dL_law_1365 hl (by decide) rfl (fun ls hl => ?_)
  refine lv_aload_n hex hb dL_law_1367 rfl (lv_at hl 4 rfl) ?_
  refine k_X1_thrown D tI tZ tL hm am τ' S gL_law_X1_thrown ⟨Nat.le_of_ble_eq_true rfl, Nat.le_of_ble_eq_true rfl⟩ hl.1 hcap (Nat.le_of_ble_eq_true rfl) A.2.1 hK hPm hS2 A.2.2.2.2.2.2.1 dL_law_1368 (fun H3 locs3 hPm hz3 hk3 hS3 => ?_)
  replace hPx := x_kept9 hPx (fun q h1 h2 => hk3 q h1 (L_xm A q h2))
  replace hPo := o_kept hPo (hk3 o (o_lt hPo) A.2.2.2.1)
  refine lv_iload hex hb dL_law_1371 (lv_at hl 1 rfl) ?_
  refine lv_icmp_eq (tgt := 1378) hex hb dL_law_1373 (by decide) (fun _ => ?_) (fun hne => absurd hc0 hne)
  refine lv_iload hex hb dL_law_1378 (lv_at hl 1 rfl) ?_
  refine lv_if_ne (tgt := 1395) hex hb dL_law_1380 (by decide) (fun _ => ?_) (fun h0 => ?_)
  · refine lv_goto (tgt := 1674) hex hb dL_law_1395 (by decide) ?_
    exact kk σ' τ' td' np' nr' _ _ _ htd' hR' ⟨_, hPx, hPm, hPo, hS3⟩ (lv_sub hl [2, 3, 4, 5, 6] rfl)
  · have hcd : code = 0 := hcode.elim (fun h => h) (fun h => absurd h0 h)
    subst hcd
    refine lv_aload_n hex hb dL_law_1383 rfl (lv_at hl 3 rfl) ?_
    refine lv_iconst (v := 0) hex hb dL_law_1384 (by decide) ?_
    refine va_lald hex hb hK hPo 0 2 rfl rfl (vp_in_nI (n := 0) (by decide) (by decide)) dL_law_1385 ?_
    refine lv_iload hex hb dL_law_1386 (lv_at hl 0 rfl) ?_
    refine lv_i2l hex hb dL_law_1388 rfl ?_
    refine lb_lcmp (lb_upd) hex hb dL_law_1389 ?_
    refine lv_if_eq (tgt := 1395) hex hb dL_law_1390 (by decide) (fun _ => ?_) (fun h => absurd rfl h)
    refine lv_goto (tgt := 1674) hex hb dL_law_1395 (by decide) ?_
    exact kk σ' τ' td' np' nr' _ _ _ htd' hR' ⟨_, hPx, hPm, hPo, hS3⟩ (lv_sub hl [2, 3, 4, 5, 6] rfl)
set_option maxHeartbeats 4000000 in
set_option maxRecDepth 100000 in
theorem lc_held (E : L_E p l s m meth c b L xs D tI tZ tL) (A : L_A s hx ax hm am o) (hR : RR σ τ td np nr) (htd : td ≤ 999000) (hcap : cells + 1 ≤ room_1.cells ∧ slots + 6 ≤ room_1.slots) (hi : i + 3 < L) (hS : L_S s D tI tZ tL hx ax hm am o σ τ H locs) (hl : lv_has ls 7 (L_v b hx hm o i)) (kk : ∀ (σ' τ' : ST) (td' np' nr' : Nat) (H' : Heap) (locs' : List Loc) (ls' : Array Slot), td' ≤ td + 1000 → RR σ' τ' td' np' nr' → L_S s D tI tZ tL hx ax hm am o σ' τ' H' locs' → lv_has ls' 7 (L_v b hx hm o i) → W p l e room_1 s m #[Value.ref b] below meth c H' locs' (cells + 1) (slots + 6) Q (F0 m 1674 ls' [])) : W p l e room_1 s m #[Value.ref b] below meth c H locs cells slots Q (F0 m 1398 ls []) := by
  obtain ⟨hex, hb, hml, hown, hts, hX, hbl, hK, hE, hlf, hL⟩ := E
  have S : CallFix p m c cL_law 7 s #[Value.ref b] wsL_law RL := ⟨hex, hb, hml, hown, hts⟩
  obtain ⟨f, hPx, hPm, hPo, hS⟩ := hS
  have hn30 := R_nr hR
  have hn8 := R_np hR
  refine lv_aload_n hex hb dL_law_1398 rfl (lv_at hl 3 rfl) ?_
  refine k_X0_held D tI tZ tL hx ax σ  S gL_law_X0_held ⟨Nat.le_of_ble_eq_true rfl, Nat.le_of_ble_eq_true rfl⟩ hl.1 ⟨by have := hcap.1; omega, by have := hcap.2; omega⟩ (Nat.le_of_ble_eq_true rfl) hK hPx dL_law_1399 ?_
  refine lv_aload_n hex hb dL_law_1402 rfl (lv_at hl 2 rfl) ?_
  refine k_X1_held D tI tZ tL hm am τ  S gL_law_X1_held ⟨Nat.le_of_ble_eq_true rfl, Nat.le_of_ble_eq_true rfl⟩ hl.1 ⟨by have := hcap.1; omega, by have := hcap.2; omega⟩ (Nat.le_of_ble_eq_true rfl) A.2.1 hK hPm hS A.2.2.2.2.2.2.1 dL_law_1403 (fun H2 locs2 hPm hz2 hk2 hS2 => ?_)
  replace hPx := x_kept9 hPx (fun q h1 h2 => hk2 q h1 (L_xm A q h2))
  replace hPo := o_kept hPo (hk2 o (o_lt hPo) A.2.2.2.1)
  refine lv_icmp_eq (tgt := 1674) hex hb dL_law_1406 (by decide) (fun _ => ?_) (fun hne => absurd (congrArg (fun z => x_held z 6) (R_rows hR).2.2.2.2.2) hne)
  exact W.widen (Nat.le_add_right _ _) (Nat.le_add_right _ _) (kk _ _ td np nr _ _ _ (by omega) (RR_thr hR 0) ⟨_, hPx, hPm, hPo, hS2⟩ hl)
theorem x_code_request {σ σ' : ST} {a1 : Int32} {code : Nat} {val : Int32} (hout : x_out_request σ a1 code val σ') : code = 0 ∨ ¬ nI code = 0 := by
  rcases hout with ⟨v, hv, rfl, rfl, rfl⟩ | ⟨j, hj12, nr, hnr, hn30, rfl, rfl, rfl, rfl⟩
  · first | exact Or.inl rfl | exact Or.inr (by decide)
  · first | exact Or.inl rfl | exact Or.inr (by decide)
set_option maxHeartbeats 4000000 in
set_option maxRecDepth 100000 in
theorem lc_request (E : L_E p l s m meth c b L xs D tI tZ tL) (A : L_A s hx ax hm am o) (hR : RR σ τ td np nr) (htd : td ≤ 999000) (hcap : cells + 1 ≤ room_1.cells ∧ slots + 6 ≤ room_1.slots) (hi : i + 3 < L) (hS : L_S s D tI tZ tL hx ax hm am o σ τ H locs) (hl : lv_has ls 7 (L_v b hx hm o i)) (kk : ∀ (σ' τ' : ST) (td' np' nr' : Nat) (H' : Heap) (locs' : List Loc) (ls' : Array Slot), td' ≤ td + 1000 → RR σ' τ' td' np' nr' → L_S s D tI tZ tL hx ax hm am o σ' τ' H' locs' → lv_has ls' 7 (L_v b hx hm o i) → W p l e room_1 s m #[Value.ref b] below meth c H' locs' (cells + 1) (slots + 6) Q (F0 m 1674 ls' [])) : W p l e room_1 s m #[Value.ref b] below meth c H locs cells slots Q (F0 m 1411 ls []) := by
  obtain ⟨hex, hb, hml, hown, hts, hX, hbl, hK, hE, hlf, hL⟩ := E
  have S : CallFix p m c cL_law 7 s #[Value.ref b] wsL_law RL := ⟨hex, hb, hml, hown, hts⟩
  obtain ⟨f, hPx, hPm, hPo, hS⟩ := hS
  obtain ⟨code, val, σ', τ', hxo, hmo, hc0, td', np', nr', htd', hR'⟩ := P_request hR (xs (i + 1))
  have hcode := x_code_request hxo
  refine lv_aload_n hex hb dL_law_1411 rfl (lv_at hl 3 rfl) ?_
  refine lb_arg (k := 1) hex hb hX hbl hL hS (lv_at hl 4 rfl) (lv_at hl 0 rfl) (by decide) (by omega) dL_law_1412 dL_law_1413 dL_law_1415 dL_law_1416 dL_law_1417 ?_
  refine lv_aload_n hex hb dL_law_1418 rfl (lv_at hl 1 rfl) ?_
  refine k_L_request D tI tZ tL hx ax σ o f (xs (i + 1)) code val σ' hxo hlf A.1 A.2.2.1 S gL_law_L_request ⟨Nat.le_of_ble_eq_true rfl, Nat.le_of_ble_eq_true rfl⟩ hl.1 hcap (Nat.le_of_ble_eq_true rfl) hK hPx hPo (w_Emv hE hS) hS (L_Aw A) dL_law_1419 (fun H1 locs1 hw hz hk hS1 => ?_)
  replace hPm := m_kept9 hPm (fun q h1 h2 => hk q h1 (L_mw A q h2))
  obtain ⟨hPx, hPo⟩ := hw
  refine lv_istore (lv' := (5, .int (nI code)) :: L_v b hx hm o i) hex hb dL_law_1422 hl (by decide) rfl (fun ls hl => ?_)
  refine lv_aload_n hex hb dL_law_1424 rfl (lv_at hl 3 rfl) ?_
  refine lb_arg (k := 1) hex hb hX hbl hL hS1 (lv_at hl 5 rfl) (lv_at hl 1 rfl) (by decide) (by omega) dL_law_1425 dL_law_1426 dL_law_1428 dL_law_1429 dL_law_1430 ?_
  refine km_request D tI tZ tL hm am τ (xs (i + 1)) val τ' hmo S gL_law_X1_request ⟨Nat.le_of_ble_eq_true rfl, Nat.le_of_ble_eq_true rfl⟩ hl.1 hcap (Nat.le_of_ble_eq_true rfl) A.2.1 hK hPm hS1 A.2.2.2.2.2.2.1 dL_law_1431 (fun H2 locs2 hPm hz2 hk2 hS2 => ?_)
  replace hPx := x_kept9 hPx (fun q h1 h2 => hk2 q h1 (L_xm A q h2))
  replace hPo := o_kept hPo (hk2 o (o_lt hPo) A.2.2.2.1)
  refine lv_istore (lv' := (6, .int (val)) :: (5, .int (nI code)) :: L_v b hx hm o i) hex hb dL_law_1434 hl (by decide) rfl (fun ls hl => ?_)
  refine lv_aload_n hex hb dL_law_1436 rfl (lv_at hl 4 rfl) ?_
  refine k_X1_thrown D tI tZ tL hm am τ' S gL_law_X1_thrown ⟨Nat.le_of_ble_eq_true rfl, Nat.le_of_ble_eq_true rfl⟩ hl.1 hcap (Nat.le_of_ble_eq_true rfl) A.2.1 hK hPm hS2 A.2.2.2.2.2.2.1 dL_law_1437 (fun H3 locs3 hPm hz3 hk3 hS3 => ?_)
  replace hPx := x_kept9 hPx (fun q h1 h2 => hk3 q h1 (L_xm A q h2))
  replace hPo := o_kept hPo (hk3 o (o_lt hPo) A.2.2.2.1)
  refine lv_iload hex hb dL_law_1440 (lv_at hl 1 rfl) ?_
  refine lv_icmp_eq (tgt := 1447) hex hb dL_law_1442 (by decide) (fun _ => ?_) (fun hne => absurd hc0 hne)
  refine lv_iload hex hb dL_law_1447 (lv_at hl 1 rfl) ?_
  refine lv_if_ne (tgt := 1464) hex hb dL_law_1449 (by decide) (fun _ => ?_) (fun h0 => ?_)
  · refine lv_goto (tgt := 1674) hex hb dL_law_1464 (by decide) ?_
    exact kk σ' τ' td' np' nr' _ _ _ htd' hR' ⟨_, hPx, hPm, hPo, hS3⟩ (lv_sub hl [2, 3, 4, 5, 6] rfl)
  · have hcd : code = 0 := hcode.elim (fun h => h) (fun h => absurd h0 h)
    subst hcd
    refine lv_aload_n hex hb dL_law_1452 rfl (lv_at hl 3 rfl) ?_
    refine lv_iconst (v := 0) hex hb dL_law_1453 (by decide) ?_
    refine va_lald hex hb hK hPo 0 2 rfl rfl (vp_in_nI (n := 0) (by decide) (by decide)) dL_law_1454 ?_
    refine lv_iload hex hb dL_law_1455 (lv_at hl 0 rfl) ?_
    refine lv_i2l hex hb dL_law_1457 rfl ?_
    refine lb_lcmp (lb_upd) hex hb dL_law_1458 ?_
    refine lv_if_eq (tgt := 1464) hex hb dL_law_1459 (by decide) (fun _ => ?_) (fun h => absurd rfl h)
    refine lv_goto (tgt := 1674) hex hb dL_law_1464 (by decide) ?_
    exact kk σ' τ' td' np' nr' _ _ _ htd' hR' ⟨_, hPx, hPm, hPo, hS3⟩ (lv_sub hl [2, 3, 4, 5, 6] rfl)
end LC
