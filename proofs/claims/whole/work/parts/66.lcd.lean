section LC
variable {p : Program} {l : Launch} {e : Env} {s : State} {m : MethodId} {below : List Frame} {meth : Method} {c : Code} {H : Heap} {locs : List Loc} {cells slots : Nat} {Q : State → Prop} {ls : Array Slot} {D : va_G} {tI tZ tL : ClassId} {hx hm o b L i : Nat} {xs : Nat → Int32} {ax am : Nat → Nat} {σ τ : ST} {td np nr : Nat}

theorem x_code_whyKept {σ σ' : ST} {a1 : Int32} {code : Nat} {val : Int32} (hout : x_out_whyKept σ a1 code val σ') : code = 0 ∨ ¬ nI code = 0 := by
  rcases hout with ⟨v, hv, rfl, rfl, rfl⟩ | ⟨r, nr, hnr, hn30, hrn, rfl, rfl, rfl, rfl⟩
  · first | exact Or.inl rfl | exact Or.inr (by decide)
  · first | exact Or.inl rfl | exact Or.inr (by decide)
set_option maxHeartbeats 4000000 in
set_option maxRecDepth 100000 in
theorem lc_whyKept (E : L_E p l s m meth c b L xs D tI tZ tL) (A : L_A s hx ax hm am o) (hR : RR σ τ td np nr) (htd : td ≤ 999000) (hcap : cells + 1 ≤ room_1.cells ∧ slots + 6 ≤ room_1.slots) (hi : i + 3 < L) (hS : L_S s D tI tZ tL hx ax hm am o σ τ H locs) (hl : lv_has ls 7 (L_v b hx hm o i)) (kk : ∀ (σ' τ' : ST) (td' np' nr' : Nat) (H' : Heap) (locs' : List Loc) (ls' : Array Slot), td' ≤ td + 1000 → RR σ' τ' td' np' nr' → L_S s D tI tZ tL hx ax hm am o σ' τ' H' locs' → lv_has ls' 7 (L_v b hx hm o i) → W p l e room_1 s m #[Value.ref b] below meth c H' locs' (cells + 1) (slots + 6) Q (F0 m 1674 ls' [])) : W p l e room_1 s m #[Value.ref b] below meth c H locs cells slots Q (F0 m 1467 ls []) := by
  obtain ⟨hex, hb, hml, hown, hts, hX, hbl, hK, hE, hlf, hL⟩ := E
  have S : CallFix p m c cL_law 7 s #[Value.ref b] wsL_law RL := ⟨hex, hb, hml, hown, hts⟩
  obtain ⟨f, hPx, hPm, hPo, hS⟩ := hS
  obtain ⟨code, val, σ', τ', hxo, hmo, hc0, td', np', nr', htd', hR'⟩ := P_whyKept hR (xs (i + 1))
  have hcode := x_code_whyKept hxo
  refine lv_aload_n hex hb dL_law_1467 rfl (lv_at hl 3 rfl) ?_
  refine lb_arg (k := 1) hex hb hX hbl hL hS (lv_at hl 4 rfl) (lv_at hl 0 rfl) (by decide) (by omega) dL_law_1468 dL_law_1469 dL_law_1471 dL_law_1472 dL_law_1473 ?_
  refine lv_aload_n hex hb dL_law_1474 rfl (lv_at hl 1 rfl) ?_
  refine k_L_whyKept D tI tZ tL hx ax σ o f (xs (i + 1)) code val σ' hxo hlf A.1 A.2.2.1 S gL_law_L_whyKept ⟨Nat.le_of_ble_eq_true rfl, Nat.le_of_ble_eq_true rfl⟩ hl.1 hcap (Nat.le_of_ble_eq_true rfl) hK hPx hPo (w_Emv hE hS) hS (L_Aw A) dL_law_1475 (fun H1 locs1 hw hz hk hS1 => ?_)
  replace hPm := m_kept9 hPm (fun q h1 h2 => hk q h1 (L_mw A q h2))
  obtain ⟨hPx, hPo⟩ := hw
  refine lv_istore (lv' := (5, .int (nI code)) :: L_v b hx hm o i) hex hb dL_law_1478 hl (by decide) rfl (fun ls hl => ?_)
  refine lv_aload_n hex hb dL_law_1480 rfl (lv_at hl 3 rfl) ?_
  refine lb_arg (k := 1) hex hb hX hbl hL hS1 (lv_at hl 5 rfl) (lv_at hl 1 rfl) (by decide) (by omega) dL_law_1481 dL_law_1482 dL_law_1484 dL_law_1485 dL_law_1486 ?_
  refine km_whyKept D tI tZ tL hm am τ (xs (i + 1)) val τ' hmo S gL_law_X1_whyKept ⟨Nat.le_of_ble_eq_true rfl, Nat.le_of_ble_eq_true rfl⟩ hl.1 hcap (Nat.le_of_ble_eq_true rfl) A.2.1 hK hPm hS1 A.2.2.2.2.2.2.1 dL_law_1487 (fun H2 locs2 hPm hz2 hk2 hS2 => ?_)
  replace hPx := x_kept9 hPx (fun q h1 h2 => hk2 q h1 (L_xm A q h2))
  replace hPo := o_kept hPo (hk2 o (o_lt hPo) A.2.2.2.1)
  refine lv_istore (lv' := (6, .int (val)) :: (5, .int (nI code)) :: L_v b hx hm o i) hex hb dL_law_1490 hl (by decide) rfl (fun ls hl => ?_)
  refine lv_aload_n hex hb dL_law_1492 rfl (lv_at hl 4 rfl) ?_
  refine k_X1_thrown D tI tZ tL hm am τ' S gL_law_X1_thrown ⟨Nat.le_of_ble_eq_true rfl, Nat.le_of_ble_eq_true rfl⟩ hl.1 hcap (Nat.le_of_ble_eq_true rfl) A.2.1 hK hPm hS2 A.2.2.2.2.2.2.1 dL_law_1493 (fun H3 locs3 hPm hz3 hk3 hS3 => ?_)
  replace hPx := x_kept9 hPx (fun q h1 h2 => hk3 q h1 (L_xm A q h2))
  replace hPo := o_kept hPo (hk3 o (o_lt hPo) A.2.2.2.1)
  refine lv_iload hex hb dL_law_1496 (lv_at hl 1 rfl) ?_
  refine lv_icmp_eq (tgt := 1503) hex hb dL_law_1498 (by decide) (fun _ => ?_) (fun hne => absurd hc0 hne)
  refine lv_iload hex hb dL_law_1503 (lv_at hl 1 rfl) ?_
  refine lv_if_ne (tgt := 1520) hex hb dL_law_1505 (by decide) (fun _ => ?_) (fun h0 => ?_)
  · refine lv_goto (tgt := 1674) hex hb dL_law_1520 (by decide) ?_
    exact kk σ' τ' td' np' nr' _ _ _ htd' hR' ⟨_, hPx, hPm, hPo, hS3⟩ (lv_sub hl [2, 3, 4, 5, 6] rfl)
  · have hcd : code = 0 := hcode.elim (fun h => h) (fun h => absurd h0 h)
    subst hcd
    refine lv_aload_n hex hb dL_law_1508 rfl (lv_at hl 3 rfl) ?_
    refine lv_iconst (v := 0) hex hb dL_law_1509 (by decide) ?_
    refine va_lald hex hb hK hPo 0 2 rfl rfl (vp_in_nI (n := 0) (by decide) (by decide)) dL_law_1510 ?_
    refine lv_iload hex hb dL_law_1511 (lv_at hl 0 rfl) ?_
    refine lv_i2l hex hb dL_law_1513 rfl ?_
    refine lb_lcmp (lb_upd) hex hb dL_law_1514 ?_
    refine lv_if_eq (tgt := 1520) hex hb dL_law_1515 (by decide) (fun _ => ?_) (fun h => absurd rfl h)
    refine lv_goto (tgt := 1674) hex hb dL_law_1520 (by decide) ?_
    exact kk σ' τ' td' np' nr' _ _ _ htd' hR' ⟨_, hPx, hPm, hPo, hS3⟩ (lv_sub hl [2, 3, 4, 5, 6] rfl)
set_option maxHeartbeats 4000000 in
set_option maxRecDepth 100000 in
theorem lc_erase (E : L_E p l s m meth c b L xs D tI tZ tL) (A : L_A s hx ax hm am o) (hR : RR σ τ td np nr) (htd : td ≤ 999000) (hcap : cells + 1 ≤ room_1.cells ∧ slots + 6 ≤ room_1.slots) (hi : i + 3 < L) (hS : L_S s D tI tZ tL hx ax hm am o σ τ H locs) (hl : lv_has ls 7 (L_v b hx hm o i)) (kk : ∀ (σ' τ' : ST) (td' np' nr' : Nat) (H' : Heap) (locs' : List Loc) (ls' : Array Slot), td' ≤ td + 1000 → RR σ' τ' td' np' nr' → L_S s D tI tZ tL hx ax hm am o σ' τ' H' locs' → lv_has ls' 7 (L_v b hx hm o i) → W p l e room_1 s m #[Value.ref b] below meth c H' locs' (cells + 1) (slots + 6) Q (F0 m 1674 ls' [])) : W p l e room_1 s m #[Value.ref b] below meth c H locs cells slots Q (F0 m 1523 ls []) := by
  obtain ⟨hex, hb, hml, hown, hts, hX, hbl, hK, hE, hlf, hL⟩ := E
  have S : CallFix p m c cL_law 7 s #[Value.ref b] wsL_law RL := ⟨hex, hb, hml, hown, hts⟩
  obtain ⟨f, hPx, hPm, hPo, hS⟩ := hS
  have hn30 := R_nr hR
  have hn8 := R_np hR
  refine lv_aload_n hex hb dL_law_1523 rfl (lv_at hl 3 rfl) ?_
  refine k_X0_erase D tI tZ tL hx ax σ nr (R_x6 hR) hn30 S gL_law_X0_erase ⟨Nat.le_of_ble_eq_true rfl, Nat.le_of_ble_eq_true rfl⟩ hl.1 ⟨by have := hcap.1; omega, by have := hcap.2; omega⟩ (Nat.le_of_ble_eq_true rfl) A.1 hK hPx hS A.2.2.2.2.2.1 dL_law_1524 (fun H1 locs1 hPx hz hk hS => ?_)
  replace hPm := m_kept9 hPm (fun q h1 h2 => hk q h1 (L_mx A q h2))
  replace hPo := o_kept hPo (hk o (o_lt hPo) A.2.2.1)
  refine lv_aload_n hex hb dL_law_1527 rfl (lv_at hl 2 rfl) ?_
  cases hfo : m_fo τ.2 nr nr with
  | none =>
    have he := er_n hR hfo
    refine k_X1_erase_n D tI tZ tL hm am τ nr (R_t7 hR) hn30 hfo S gL_law_X1_erase ⟨Nat.le_of_ble_eq_true rfl, Nat.le_of_ble_eq_true rfl⟩ hl.1 ⟨by have := hcap.1; omega, by have := hcap.2; omega⟩ (Nat.le_of_ble_eq_true rfl) A.2.1 hK hPm hS A.2.2.2.2.2.2.1 dL_law_1528 (fun H2 locs2 hPm hz2 hk2 hS2 => ?_)
    replace hPx := x_kept9 hPx (fun q h1 h2 => hk2 q h1 (L_xm A q h2))
    replace hPo := o_kept hPo (hk2 o (o_lt hPo) A.2.2.2.1)
    refine lv_icmp_eq (tgt := 1674) hex hb dL_law_1531 (by decide) (fun _ => ?_) (fun hne => absurd he.1 hne)
    exact W.widen (Nat.le_add_right _ _) (Nat.le_add_right _ _) (kk _ _ td np nr _ _ _ (by omega) (by rw [he.2]; exact RR_thr hR 0) ⟨_, hPx, hPm, hPo, hS2⟩ hl)
  | some j =>
    have he := er_s hR hfo
    refine k_X1_erase_s D tI tZ tL hm am τ nr (R_t7 hR) hn30 j hfo S gL_law_X1_erase ⟨Nat.le_of_ble_eq_true rfl, Nat.le_of_ble_eq_true rfl⟩ hl.1 ⟨by have := hcap.1; omega, by have := hcap.2; omega⟩ (Nat.le_of_ble_eq_true rfl) A.2.1 hK hPm hS A.2.2.2.2.2.2.1 dL_law_1528 (fun H2 locs2 hPm hz2 hk2 hS2 => ?_)
    replace hPx := x_kept9 hPx (fun q h1 h2 => hk2 q h1 (L_xm A q h2))
    replace hPo := o_kept hPo (hk2 o (o_lt hPo) A.2.2.2.1)
    refine lv_icmp_eq (tgt := 1674) hex hb dL_law_1531 (by decide) (fun _ => ?_) (fun hne => absurd he.1 hne)
    exact W.widen (Nat.le_add_right _ _) (Nat.le_add_right _ _) (kk _ _ td np nr _ _ _ (by omega) he.2 ⟨_, hPx, hPm, hPo, hS2⟩ hl)
set_option maxHeartbeats 4000000 in
set_option maxRecDepth 100000 in
theorem lc_eraseAll (E : L_E p l s m meth c b L xs D tI tZ tL) (A : L_A s hx ax hm am o) (hR : RR σ τ td np nr) (htd : td ≤ 999000) (hcap : cells + 1 ≤ room_1.cells ∧ slots + 6 ≤ room_1.slots) (hi : i + 3 < L) (hS : L_S s D tI tZ tL hx ax hm am o σ τ H locs) (hl : lv_has ls 7 (L_v b hx hm o i)) (kk : ∀ (σ' τ' : ST) (td' np' nr' : Nat) (H' : Heap) (locs' : List Loc) (ls' : Array Slot), td' ≤ td + 1000 → RR σ' τ' td' np' nr' → L_S s D tI tZ tL hx ax hm am o σ' τ' H' locs' → lv_has ls' 7 (L_v b hx hm o i) → W p l e room_1 s m #[Value.ref b] below meth c H' locs' (cells + 1) (slots + 6) Q (F0 m 1674 ls' [])) : W p l e room_1 s m #[Value.ref b] below meth c H locs cells slots Q (F0 m 1536 ls []) := by
  obtain ⟨hex, hb, hml, hown, hts, hX, hbl, hK, hE, hlf, hL⟩ := E
  have S : CallFix p m c cL_law 7 s #[Value.ref b] wsL_law RL := ⟨hex, hb, hml, hown, hts⟩
  obtain ⟨f, hPx, hPm, hPo, hS⟩ := hS
  have hn30 := R_nr hR
  have hn8 := R_np hR
  refine lv_aload_n hex hb dL_law_1536 rfl (lv_at hl 3 rfl) ?_
  refine k_X0_eraseAll D tI tZ tL hx ax σ nr (R_x6 hR) hn30 S gL_law_X0_eraseAll ⟨Nat.le_of_ble_eq_true rfl, Nat.le_of_ble_eq_true rfl⟩ hl.1 ⟨by have := hcap.1; omega, by have := hcap.2; omega⟩ (Nat.le_of_ble_eq_true rfl) A.1 hK hPx hS A.2.2.2.2.2.1 dL_law_1537 (fun H1 locs1 hPx hz hk hS => ?_)
  replace hPm := m_kept9 hPm (fun q h1 h2 => hk q h1 (L_mx A q h2))
  replace hPo := o_kept hPo (hk o (o_lt hPo) A.2.2.1)
  refine lv_aload_n hex hb dL_law_1540 rfl (lv_at hl 2 rfl) ?_
  obtain ⟨fuel, τ', hrun, hR', -⟩ := ea_all (td := td) (np := np) (nr := nr) nr σ (s_set τ 0 0) 0 (RR_thr hR 0) (Nat.le_refl _) (fun i h1 h2 => absurd h1 (by omega))
  refine k_X1_eraseAll D tI tZ tL hm am τ nr (R_t7 hR) hn30 fuel τ' (x_eaC nr nr σ 0) hrun S gL_law_X1_eraseAll ⟨Nat.le_of_ble_eq_true rfl, Nat.le_of_ble_eq_true rfl⟩ hl.1 ⟨by have := hcap.1; omega, by have := hcap.2; omega⟩ (Nat.le_of_ble_eq_true rfl) A.2.1 hK hPm hS A.2.2.2.2.2.2.1 dL_law_1541 (fun H2 locs2 hPm hz2 hk2 hS2 => ?_)
  replace hPx := x_kept9 hPx (fun q h1 h2 => hk2 q h1 (L_xm A q h2))
  replace hPo := o_kept hPo (hk2 o (o_lt hPo) A.2.2.2.1)
  refine lv_icmp_eq (tgt := 1674) hex hb dL_law_1544 (by decide) (fun _ => ?_) (fun hne => absurd rfl hne)
  exact W.widen (Nat.le_add_right _ _) (Nat.le_add_right _ _) (kk _ _ td np nr _ _ _ (by omega) hR' ⟨_, hPx, hPm, hPo, hS2⟩ hl)
theorem x_code_traces {σ σ' : ST} {a1 : Int32} {code : Nat} {val : Int32} (hout : x_out_traces σ a1 code val σ') : code = 0 ∨ ¬ nI code = 0 := by
  rcases hout with ⟨v, hv, rfl, rfl, rfl⟩ | ⟨j, hj12, nr, hnr, hn30, rfl, rfl, rfl, rfl⟩
  · first | exact Or.inl rfl | exact Or.inr (by decide)
  · first | exact Or.inl rfl | exact Or.inr (by decide)
set_option maxHeartbeats 4000000 in
set_option maxRecDepth 100000 in
theorem lc_traces (E : L_E p l s m meth c b L xs D tI tZ tL) (A : L_A s hx ax hm am o) (hR : RR σ τ td np nr) (htd : td ≤ 999000) (hcap : cells + 1 ≤ room_1.cells ∧ slots + 6 ≤ room_1.slots) (hi : i + 3 < L) (hS : L_S s D tI tZ tL hx ax hm am o σ τ H locs) (hl : lv_has ls 7 (L_v b hx hm o i)) (kk : ∀ (σ' τ' : ST) (td' np' nr' : Nat) (H' : Heap) (locs' : List Loc) (ls' : Array Slot), td' ≤ td + 1000 → RR σ' τ' td' np' nr' → L_S s D tI tZ tL hx ax hm am o σ' τ' H' locs' → lv_has ls' 7 (L_v b hx hm o i) → W p l e room_1 s m #[Value.ref b] below meth c H' locs' (cells + 1) (slots + 6) Q (F0 m 1674 ls' [])) : W p l e room_1 s m #[Value.ref b] below meth c H locs cells slots Q (F0 m 1549 ls []) := by
  obtain ⟨hex, hb, hml, hown, hts, hX, hbl, hK, hE, hlf, hL⟩ := E
  have S : CallFix p m c cL_law 7 s #[Value.ref b] wsL_law RL := ⟨hex, hb, hml, hown, hts⟩
  obtain ⟨f, hPx, hPm, hPo, hS⟩ := hS
  obtain ⟨code, val, σ', τ', hxo, hmo, hc0, td', np', nr', htd', hR'⟩ := P_traces hR (xs (i + 1))
  have hcode := x_code_traces hxo
  refine lv_aload_n hex hb dL_law_1549 rfl (lv_at hl 3 rfl) ?_
  refine lb_arg (k := 1) hex hb hX hbl hL hS (lv_at hl 4 rfl) (lv_at hl 0 rfl) (by decide) (by omega) dL_law_1550 dL_law_1551 dL_law_1553 dL_law_1554 dL_law_1555 ?_
  refine lv_aload_n hex hb dL_law_1556 rfl (lv_at hl 1 rfl) ?_
  refine k_L_traces D tI tZ tL hx ax σ o f (xs (i + 1)) code val σ' hxo hlf A.1 A.2.2.1 S gL_law_L_traces ⟨Nat.le_of_ble_eq_true rfl, Nat.le_of_ble_eq_true rfl⟩ hl.1 hcap (Nat.le_of_ble_eq_true rfl) hK hPx hPo (w_Emv hE hS) hS (L_Aw A) dL_law_1557 (fun H1 locs1 hw hz hk hS1 => ?_)
  replace hPm := m_kept9 hPm (fun q h1 h2 => hk q h1 (L_mw A q h2))
  obtain ⟨hPx, hPo⟩ := hw
  refine lv_istore (lv' := (5, .int (nI code)) :: L_v b hx hm o i) hex hb dL_law_1560 hl (by decide) rfl (fun ls hl => ?_)
  refine lv_aload_n hex hb dL_law_1562 rfl (lv_at hl 3 rfl) ?_
  refine lb_arg (k := 1) hex hb hX hbl hL hS1 (lv_at hl 5 rfl) (lv_at hl 1 rfl) (by decide) (by omega) dL_law_1563 dL_law_1564 dL_law_1566 dL_law_1567 dL_law_1568 ?_
  refine km_traces D tI tZ tL hm am τ (xs (i + 1)) val τ' hmo S gL_law_X1_traces ⟨Nat.le_of_ble_eq_true rfl, Nat.le_of_ble_eq_true rfl⟩ hl.1 hcap (Nat.le_of_ble_eq_true rfl) A.2.1 hK hPm hS1 A.2.2.2.2.2.2.1 dL_law_1569 (fun H2 locs2 hPm hz2 hk2 hS2 => ?_)
  replace hPx := x_kept9 hPx (fun q h1 h2 => hk2 q h1 (L_xm A q h2))
  replace hPo := o_kept hPo (hk2 o (o_lt hPo) A.2.2.2.1)
  refine lv_istore (lv' := (6, .int (val)) :: (5, .int (nI code)) :: L_v b hx hm o i) hex hb dL_law_1572 hl (by decide) rfl (fun ls hl => ?_)
  refine lv_aload_n hex hb dL_law_1574 rfl (lv_at hl 4 rfl) ?_
  refine k_X1_thrown D tI tZ tL hm am τ' S gL_law_X1_thrown ⟨Nat.le_of_ble_eq_true rfl, Nat.le_of_ble_eq_true rfl⟩ hl.1 hcap (Nat.le_of_ble_eq_true rfl) A.2.1 hK hPm hS2 A.2.2.2.2.2.2.1 dL_law_1575 (fun H3 locs3 hPm hz3 hk3 hS3 => ?_)
  replace hPx := x_kept9 hPx (fun q h1 h2 => hk3 q h1 (L_xm A q h2))
  replace hPo := o_kept hPo (hk3 o (o_lt hPo) A.2.2.2.1)
  refine lv_iload hex hb dL_law_1578 (lv_at hl 1 rfl) ?_
  refine lv_icmp_eq (tgt := 1585) hex hb dL_law_1580 (by decide) (fun _ => ?_) (fun hne => absurd hc0 hne)
  refine lv_iload hex hb dL_law_1585 (lv_at hl 1 rfl) ?_
  refine lv_if_ne (tgt := 1602) hex hb dL_law_1587 (by decide) (fun _ => ?_) (fun h0 => ?_)
  · refine lv_goto (tgt := 1674) hex hb dL_law_1602 (by decide) ?_
    exact kk σ' τ' td' np' nr' _ _ _ htd' hR' ⟨_, hPx, hPm, hPo, hS3⟩ (lv_sub hl [2, 3, 4, 5, 6] rfl)
  · have hcd : code = 0 := hcode.elim (fun h => h) (fun h => absurd h0 h)
    subst hcd
    refine lv_aload_n hex hb dL_law_1590 rfl (lv_at hl 3 rfl) ?_
    refine lv_iconst (v := 0) hex hb dL_law_1591 (by decide) ?_
    refine va_lald hex hb hK hPo 0 2 rfl rfl (vp_in_nI (n := 0) (by decide) (by decide)) dL_law_1592 ?_
    refine lv_iload hex hb dL_law_1593 (lv_at hl 0 rfl) ?_
    refine lv_i2l hex hb dL_law_1595 rfl ?_
    refine lb_lcmp (lb_upd) hex hb dL_law_1596 ?_
    refine lv_if_eq (tgt := 1602) hex hb dL_law_1597 (by decide) (fun _ => ?_) (fun h => absurd rfl h)
    refine lv_goto (tgt := 1674) hex hb dL_law_1602 (by decide) ?_
    exact kk σ' τ' td' np' nr' _ _ _ htd' hR' ⟨_, hPx, hPm, hPo, hS3⟩ (lv_sub hl [2, 3, 4, 5, 6] rfl)
theorem x_code_tracesFromRoots {σ σ' : ST} {a1 : Int32} {code : Nat} {val : Int32} (hout : x_out_tracesFromRoots σ a1 code val σ') : code = 0 ∨ ¬ nI code = 0 := by
  rcases hout with ⟨v, hv, rfl, rfl, rfl⟩ | ⟨j, hj12, nr, hnr, hn30, rfl, rfl, rfl, rfl⟩
  · first | exact Or.inl rfl | exact Or.inr (by decide)
  · first | exact Or.inl rfl | exact Or.inr (by decide)
set_option maxHeartbeats 4000000 in
set_option maxRecDepth 100000 in
theorem lc_tracesFromRoots (E : L_E p l s m meth c b L xs D tI tZ tL) (A : L_A s hx ax hm am o) (hR : RR σ τ td np nr) (htd : td ≤ 999000) (hcap : cells + 1 ≤ room_1.cells ∧ slots + 6 ≤ room_1.slots) (hi : i + 3 < L) (hS : L_S s D tI tZ tL hx ax hm am o σ τ H locs) (hl : lv_has ls 7 (L_v b hx hm o i)) (kk : ∀ (σ' τ' : ST) (td' np' nr' : Nat) (H' : Heap) (locs' : List Loc) (ls' : Array Slot), td' ≤ td + 1000 → RR σ' τ' td' np' nr' → L_S s D tI tZ tL hx ax hm am o σ' τ' H' locs' → lv_has ls' 7 (L_v b hx hm o i) → W p l e room_1 s m #[Value.ref b] below meth c H' locs' (cells + 1) (slots + 6) Q (F0 m 1674 ls' [])) : W p l e room_1 s m #[Value.ref b] below meth c H locs cells slots Q (F0 m 1605 ls []) := by
  obtain ⟨hex, hb, hml, hown, hts, hX, hbl, hK, hE, hlf, hL⟩ := E
  have S : CallFix p m c cL_law 7 s #[Value.ref b] wsL_law RL := ⟨hex, hb, hml, hown, hts⟩
  obtain ⟨f, hPx, hPm, hPo, hS⟩ := hS
  obtain ⟨code, val, σ', τ', hxo, hmo, hc0, td', np', nr', htd', hR'⟩ := P_tracesFromRoots hR (xs (i + 1))
  have hcode := x_code_tracesFromRoots hxo
  refine lv_aload_n hex hb dL_law_1605 rfl (lv_at hl 3 rfl) ?_
  refine lb_arg (k := 1) hex hb hX hbl hL hS (lv_at hl 4 rfl) (lv_at hl 0 rfl) (by decide) (by omega) dL_law_1606 dL_law_1607 dL_law_1609 dL_law_1610 dL_law_1611 ?_
  refine lv_aload_n hex hb dL_law_1612 rfl (lv_at hl 1 rfl) ?_
  refine k_L_tracesFromRoots D tI tZ tL hx ax σ o f (xs (i + 1)) code val σ' hxo hlf A.1 A.2.2.1 S gL_law_L_tracesFromRoots ⟨Nat.le_of_ble_eq_true rfl, Nat.le_of_ble_eq_true rfl⟩ hl.1 hcap (Nat.le_of_ble_eq_true rfl) hK hPx hPo (w_Emv hE hS) hS (L_Aw A) dL_law_1613 (fun H1 locs1 hw hz hk hS1 => ?_)
  replace hPm := m_kept9 hPm (fun q h1 h2 => hk q h1 (L_mw A q h2))
  obtain ⟨hPx, hPo⟩ := hw
  refine lv_istore (lv' := (5, .int (nI code)) :: L_v b hx hm o i) hex hb dL_law_1616 hl (by decide) rfl (fun ls hl => ?_)
  refine lv_aload_n hex hb dL_law_1618 rfl (lv_at hl 3 rfl) ?_
  refine lb_arg (k := 1) hex hb hX hbl hL hS1 (lv_at hl 5 rfl) (lv_at hl 1 rfl) (by decide) (by omega) dL_law_1619 dL_law_1620 dL_law_1622 dL_law_1623 dL_law_1624 ?_
  refine km_tracesFromRoots D tI tZ tL hm am τ (xs (i + 1)) val τ' hmo S gL_law_X1_tracesFromRoots ⟨Nat.le_of_ble_eq_true rfl, Nat.le_of_ble_eq_true rfl⟩ hl.1 hcap (Nat.le_of_ble_eq_true rfl) A.2.1 hK hPm hS1 A.2.2.2.2.2.2.1 dL_law_1625 (fun H2 locs2 hPm hz2 hk2 hS2 => ?_)
  replace hPx := x_kept9 hPx (fun q h1 h2 => hk2 q h1 (L_xm A q h2))
  replace hPo := o_kept hPo (hk2 o (o_lt hPo) A.2.2.2.1)
  refine lv_istore (lv' := (6, .int (val)) :: (5, .int (nI code)) :: L_v b hx hm o i) hex hb dL_law_1628 hl (by decide) rfl (fun ls hl => ?_)
  refine lv_aload_n hex hb dL_law_1630 rfl (lv_at hl 4 rfl) ?_
  refine k_X1_thrown D tI tZ tL hm am τ' S gL_law_X1_thrown ⟨Nat.le_of_ble_eq_true rfl, Nat.le_of_ble_eq_true rfl⟩ hl.1 hcap (Nat.le_of_ble_eq_true rfl) A.2.1 hK hPm hS2 A.2.2.2.2.2.2.1 dL_law_1631 (fun H3 locs3 hPm hz3 hk3 hS3 => ?_)
  replace hPx := x_kept9 hPx (fun q h1 h2 => hk3 q h1 (L_xm A q h2))
  replace hPo := o_kept hPo (hk3 o (o_lt hPo) A.2.2.2.1)
  refine lv_iload hex hb dL_law_1634 (lv_at hl 1 rfl) ?_
  refine lv_icmp_eq (tgt := 1641) hex hb dL_law_1636 (by decide) (fun _ => ?_) (fun hne => absurd hc0 hne)
  refine lv_iload hex hb dL_law_1641 (lv_at hl 1 rfl) ?_
  refine lv_if_ne (tgt := 1658) hex hb dL_law_1643 (by decide) (fun _ => ?_) (fun h0 => ?_)
  · refine lv_goto (tgt := 1674) hex hb dL_law_1658 (by decide) ?_
    exact kk σ' τ' td' np' nr' _ _ _ htd' hR' ⟨_, hPx, hPm, hPo, hS3⟩ (lv_sub hl [2, 3, 4, 5, 6] rfl)
  · have hcd : code = 0 := hcode.elim (fun h => h) (fun h => absurd h0 h)
    subst hcd
    refine lv_aload_n hex hb dL_law_1646 rfl (lv_at hl 3 rfl) ?_
    refine lv_iconst (v := 0) hex hb dL_law_1647 (by decide) ?_
    refine va_lald hex hb hK hPo 0 2 rfl rfl (vp_in_nI (n := 0) (by decide) (by decide)) dL_law_1648 ?_
    refine lv_iload hex hb dL_law_1649 (lv_at hl 0 rfl) ?_
    refine lv_i2l hex hb dL_law_1651 rfl ?_
    refine lb_lcmp (lb_upd) hex hb dL_law_1652 ?_
    refine lv_if_eq (tgt := 1658) hex hb dL_law_1653 (by decide) (fun _ => ?_) (fun h => absurd rfl h)
    refine lv_goto (tgt := 1674) hex hb dL_law_1658 (by decide) ?_
    exact kk σ' τ' td' np' nr' _ _ _ htd' hR' ⟨_, hPx, hPm, hPo, hS3⟩ (lv_sub hl [2, 3, 4, 5, 6] rfl)
set_option maxHeartbeats 4000000 in
set_option maxRecDepth 100000 in
theorem lc_due (E : L_E p l s m meth c b L xs D tI tZ tL) (A : L_A s hx ax hm am o) (hR : RR σ τ td np nr) (htd : td ≤ 999000) (hcap : cells + 1 ≤ room_1.cells ∧ slots + 6 ≤ room_1.slots) (hi : i + 3 < L) (hS : L_S s D tI tZ tL hx ax hm am o σ τ H locs) (hl : lv_has ls 7 (L_v b hx hm o i)) (kk : ∀ (σ' τ' : ST) (td' np' nr' : Nat) (H' : Heap) (locs' : List Loc) (ls' : Array Slot), td' ≤ td + 1000 → RR σ' τ' td' np' nr' → L_S s D tI tZ tL hx ax hm am o σ' τ' H' locs' → lv_has ls' 7 (L_v b hx hm o i) → W p l e room_1 s m #[Value.ref b] below meth c H' locs' (cells + 1) (slots + 6) Q (F0 m 1674 ls' [])) : W p l e room_1 s m #[Value.ref b] below meth c H locs cells slots Q (F0 m 1661 ls []) := by
  obtain ⟨hex, hb, hml, hown, hts, hX, hbl, hK, hE, hlf, hL⟩ := E
  have S : CallFix p m c cL_law 7 s #[Value.ref b] wsL_law RL := ⟨hex, hb, hml, hown, hts⟩
  obtain ⟨f, hPx, hPm, hPo, hS⟩ := hS
  have hn30 := R_nr hR
  have hn8 := R_np hR
  refine lv_aload_n hex hb dL_law_1661 rfl (lv_at hl 3 rfl) ?_
  refine k_X0_due D tI tZ tL hx ax σ np (R_x1 hR) hn8 nr (R_x6 hR) hn30 S gL_law_X0_due ⟨Nat.le_of_ble_eq_true rfl, Nat.le_of_ble_eq_true rfl⟩ hl.1 ⟨by have := hcap.1; omega, by have := hcap.2; omega⟩ (Nat.le_of_ble_eq_true rfl) hK hPx dL_law_1662 ?_
  refine lv_aload_n hex hb dL_law_1665 rfl (lv_at hl 2 rfl) ?_
  refine k_X1_due D tI tZ tL hm am τ np (R_t2 hR) hn8 nr (R_t7 hR) hn30 S gL_law_X1_due ⟨Nat.le_of_ble_eq_true rfl, Nat.le_of_ble_eq_true rfl⟩ hl.1 ⟨by have := hcap.1; omega, by have := hcap.2; omega⟩ (Nat.le_of_ble_eq_true rfl) A.2.1 hK hPm hS A.2.2.2.2.2.2.1 dL_law_1666 (fun H2 locs2 hPm hz2 hk2 hS2 => ?_)
  replace hPx := x_kept9 hPx (fun q h1 h2 => hk2 q h1 (L_xm A q h2))
  replace hPo := o_kept hPo (hk2 o (o_lt hPo) A.2.2.2.1)
  refine lv_icmp_eq (tgt := 1674) hex hb dL_law_1669 (by decide) (fun _ => ?_) (fun hne => absurd (due_eq hR nr (Nat.le_refl _)) hne)
  exact W.widen (Nat.le_add_right _ _) (Nat.le_add_right _ _) (kk _ _ td np nr _ _ _ (by omega) (RR_thr hR 0) ⟨_, hPx, hPm, hPo, hS2⟩ hl)
end LC
