section LC
variable {p : Program} {l : Launch} {e : Env} {s : State} {m : MethodId} {below : List Frame} {meth : Method} {c : Code} {H : Heap} {locs : List Loc} {cells slots : Nat} {Q : State → Prop} {ls : Array Slot} {D : va_G} {tI tZ tL : ClassId} {hx hm o b L i : Nat} {xs : Nat → Int32} {ax am : Nat → Nat} {σ τ : ST} {td np nr : Nat}

set_option maxHeartbeats 4000000 in
set_option maxRecDepth 100000 in
theorem lc_records (E : L_E p l s m meth c b L xs D tI tZ tL) (A : L_A s hx ax hm am o) (hR : RR σ τ td np nr) (htd : td ≤ 999000) (hcap : cells + 1 ≤ room_1.cells ∧ slots + 6 ≤ room_1.slots) (hi : i + 3 < L) (hS : L_S s D tI tZ tL hx ax hm am o σ τ H locs) (hl : lv_has ls 7 (L_v b hx hm o i)) (kk : ∀ (σ' τ' : ST) (td' np' nr' : Nat) (H' : Heap) (locs' : List Loc) (ls' : Array Slot), td' ≤ td + 1000 → RR σ' τ' td' np' nr' → L_S s D tI tZ tL hx ax hm am o σ' τ' H' locs' → lv_has ls' 7 (L_v b hx hm o i) → W p l e room_1 s m #[Value.ref b] below meth c H' locs' (cells + 1) (slots + 6) Q (F0 m 1674 ls' [])) : W p l e room_1 s m #[Value.ref b] below meth c H locs cells slots Q (F0 m 751 ls []) := by
  obtain ⟨hex, hb, hml, hown, hts, hX, hbl, hK, hE, hlf, hL⟩ := E
  have S : CallFix p m c cL_law 7 s #[Value.ref b] wsL_law RL := ⟨hex, hb, hml, hown, hts⟩
  obtain ⟨f, hPx, hPm, hPo, hS⟩ := hS
  have hn30 := R_nr hR
  have hn8 := R_np hR
  refine lv_aload_n hex hb dL_law_751 rfl (lv_at hl 3 rfl) ?_
  refine k_X0_records D tI tZ tL hx ax σ  S gL_law_X0_records ⟨Nat.le_of_ble_eq_true rfl, Nat.le_of_ble_eq_true rfl⟩ hl.1 ⟨by have := hcap.1; omega, by have := hcap.2; omega⟩ (Nat.le_of_ble_eq_true rfl) hK hPx dL_law_752 ?_
  refine lv_aload_n hex hb dL_law_755 rfl (lv_at hl 2 rfl) ?_
  refine k_X1_records D tI tZ tL hm am τ  S gL_law_X1_records ⟨Nat.le_of_ble_eq_true rfl, Nat.le_of_ble_eq_true rfl⟩ hl.1 ⟨by have := hcap.1; omega, by have := hcap.2; omega⟩ (Nat.le_of_ble_eq_true rfl) A.2.1 hK hPm hS A.2.2.2.2.2.2.1 dL_law_756 (fun H2 locs2 hPm hz2 hk2 hS2 => ?_)
  replace hPx := x_kept9 hPx (fun q h1 h2 => hk2 q h1 (L_xm A q h2))
  replace hPo := o_kept hPo (hk2 o (o_lt hPo) A.2.2.2.1)
  refine lv_icmp_eq (tgt := 1674) hex hb dL_law_759 (by decide) (fun _ => ?_) (fun hne => absurd ((R_x6 hR).trans (R_t7 hR).symm) hne)
  exact W.widen (Nat.le_add_right _ _) (Nat.le_add_right _ _) (kk _ _ td np nr _ _ _ (by omega) (RR_thr hR 0) ⟨_, hPx, hPm, hPo, hS2⟩ hl)
theorem x_code_stateOf {σ σ' : ST} {a1 : Int32} {code : Nat} {val : Int32} (hout : x_out_stateOf σ a1 code val σ') : code = 0 ∨ ¬ nI code = 0 := by
  rcases hout with ⟨v, hv, rfl, rfl, rfl⟩ | ⟨r, nr, hnr, hn30, hrn, rfl, rfl, rfl, rfl⟩
  · first | exact Or.inl rfl | exact Or.inr (by decide)
  · first | exact Or.inl rfl | exact Or.inr (by decide)
set_option maxHeartbeats 4000000 in
set_option maxRecDepth 100000 in
theorem lc_stateOf (E : L_E p l s m meth c b L xs D tI tZ tL) (A : L_A s hx ax hm am o) (hR : RR σ τ td np nr) (htd : td ≤ 999000) (hcap : cells + 1 ≤ room_1.cells ∧ slots + 6 ≤ room_1.slots) (hi : i + 3 < L) (hS : L_S s D tI tZ tL hx ax hm am o σ τ H locs) (hl : lv_has ls 7 (L_v b hx hm o i)) (kk : ∀ (σ' τ' : ST) (td' np' nr' : Nat) (H' : Heap) (locs' : List Loc) (ls' : Array Slot), td' ≤ td + 1000 → RR σ' τ' td' np' nr' → L_S s D tI tZ tL hx ax hm am o σ' τ' H' locs' → lv_has ls' 7 (L_v b hx hm o i) → W p l e room_1 s m #[Value.ref b] below meth c H' locs' (cells + 1) (slots + 6) Q (F0 m 1674 ls' [])) : W p l e room_1 s m #[Value.ref b] below meth c H locs cells slots Q (F0 m 764 ls []) := by
  obtain ⟨hex, hb, hml, hown, hts, hX, hbl, hK, hE, hlf, hL⟩ := E
  have S : CallFix p m c cL_law 7 s #[Value.ref b] wsL_law RL := ⟨hex, hb, hml, hown, hts⟩
  obtain ⟨f, hPx, hPm, hPo, hS⟩ := hS
  obtain ⟨code, val, σ', τ', hxo, hmo, hc0, td', np', nr', htd', hR'⟩ := P_stateOf hR (xs (i + 1))
  have hcode := x_code_stateOf hxo
  refine lv_aload_n hex hb dL_law_764 rfl (lv_at hl 3 rfl) ?_
  refine lb_arg (k := 1) hex hb hX hbl hL hS (lv_at hl 4 rfl) (lv_at hl 0 rfl) (by decide) (by omega) dL_law_765 dL_law_766 dL_law_768 dL_law_769 dL_law_770 ?_
  refine lv_aload_n hex hb dL_law_771 rfl (lv_at hl 1 rfl) ?_
  refine k_L_stateOf D tI tZ tL hx ax σ o f (xs (i + 1)) code val σ' hxo hlf A.1 A.2.2.1 S gL_law_L_stateOf ⟨Nat.le_of_ble_eq_true rfl, Nat.le_of_ble_eq_true rfl⟩ hl.1 hcap (Nat.le_of_ble_eq_true rfl) hK hPx hPo (w_Emv hE hS) hS (L_Aw A) dL_law_772 (fun H1 locs1 hw hz hk hS1 => ?_)
  replace hPm := m_kept9 hPm (fun q h1 h2 => hk q h1 (L_mw A q h2))
  obtain ⟨hPx, hPo⟩ := hw
  refine lv_istore (lv' := (5, .int (nI code)) :: L_v b hx hm o i) hex hb dL_law_775 hl (by decide) rfl (fun ls hl => ?_)
  refine lv_aload_n hex hb dL_law_777 rfl (lv_at hl 3 rfl) ?_
  refine lb_arg (k := 1) hex hb hX hbl hL hS1 (lv_at hl 5 rfl) (lv_at hl 1 rfl) (by decide) (by omega) dL_law_778 dL_law_779 dL_law_781 dL_law_782 dL_law_783 ?_
  refine km_stateOf D tI tZ tL hm am τ (xs (i + 1)) val τ' hmo S gL_law_X1_stateOf ⟨Nat.le_of_ble_eq_true rfl, Nat.le_of_ble_eq_true rfl⟩ hl.1 hcap (Nat.le_of_ble_eq_true rfl) A.2.1 hK hPm hS1 A.2.2.2.2.2.2.1 dL_law_784 (fun H2 locs2 hPm hz2 hk2 hS2 => ?_)
  replace hPx := x_kept9 hPx (fun q h1 h2 => hk2 q h1 (L_xm A q h2))
  replace hPo := o_kept hPo (hk2 o (o_lt hPo) A.2.2.2.1)
  refine lv_istore (lv' := (6, .int (val)) :: (5, .int (nI code)) :: L_v b hx hm o i) hex hb dL_law_787 hl (by decide) rfl (fun ls hl => ?_)
  refine lv_aload_n hex hb dL_law_789 rfl (lv_at hl 4 rfl) ?_
  refine k_X1_thrown D tI tZ tL hm am τ' S gL_law_X1_thrown ⟨Nat.le_of_ble_eq_true rfl, Nat.le_of_ble_eq_true rfl⟩ hl.1 hcap (Nat.le_of_ble_eq_true rfl) A.2.1 hK hPm hS2 A.2.2.2.2.2.2.1 dL_law_790 (fun H3 locs3 hPm hz3 hk3 hS3 => ?_)
  replace hPx := x_kept9 hPx (fun q h1 h2 => hk3 q h1 (L_xm A q h2))
  replace hPo := o_kept hPo (hk3 o (o_lt hPo) A.2.2.2.1)
  refine lv_iload hex hb dL_law_793 (lv_at hl 1 rfl) ?_
  refine lv_icmp_eq (tgt := 800) hex hb dL_law_795 (by decide) (fun _ => ?_) (fun hne => absurd hc0 hne)
  refine lv_iload hex hb dL_law_800 (lv_at hl 1 rfl) ?_
  refine lv_if_ne (tgt := 817) hex hb dL_law_802 (by decide) (fun _ => ?_) (fun h0 => ?_)
  · refine lv_goto (tgt := 1674) hex hb dL_law_817 (by decide) ?_
    exact kk σ' τ' td' np' nr' _ _ _ htd' hR' ⟨_, hPx, hPm, hPo, hS3⟩ (lv_sub hl [2, 3, 4, 5, 6] rfl)
  · have hcd : code = 0 := hcode.elim (fun h => h) (fun h => absurd h0 h)
    subst hcd
    refine lv_aload_n hex hb dL_law_805 rfl (lv_at hl 3 rfl) ?_
    refine lv_iconst (v := 0) hex hb dL_law_806 (by decide) ?_
    refine va_lald hex hb hK hPo 0 2 rfl rfl (vp_in_nI (n := 0) (by decide) (by decide)) dL_law_807 ?_
    refine lv_iload hex hb dL_law_808 (lv_at hl 0 rfl) ?_
    refine lv_i2l hex hb dL_law_810 rfl ?_
    refine lb_lcmp (lb_upd) hex hb dL_law_811 ?_
    refine lv_if_eq (tgt := 817) hex hb dL_law_812 (by decide) (fun _ => ?_) (fun h => absurd rfl h)
    refine lv_goto (tgt := 1674) hex hb dL_law_817 (by decide) ?_
    exact kk σ' τ' td' np' nr' _ _ _ htd' hR' ⟨_, hPx, hPm, hPo, hS3⟩ (lv_sub hl [2, 3, 4, 5, 6] rfl)
theorem x_code_subjectsOf {σ σ' : ST} {a1 : Int32} {code : Nat} {val : Int32} (hout : x_out_subjectsOf σ a1 code val σ') : code = 0 ∨ ¬ nI code = 0 := by
  rcases hout with ⟨v, hv, rfl, rfl, rfl⟩ | ⟨r, nr, hnr, hn30, hrn, rfl, rfl, rfl, rfl⟩
  · first | exact Or.inl rfl | exact Or.inr (by decide)
  · first | exact Or.inl rfl | exact Or.inr (by decide)
set_option maxHeartbeats 4000000 in
set_option maxRecDepth 100000 in
theorem lc_subjectsOf (E : L_E p l s m meth c b L xs D tI tZ tL) (A : L_A s hx ax hm am o) (hR : RR σ τ td np nr) (htd : td ≤ 999000) (hcap : cells + 1 ≤ room_1.cells ∧ slots + 6 ≤ room_1.slots) (hi : i + 3 < L) (hS : L_S s D tI tZ tL hx ax hm am o σ τ H locs) (hl : lv_has ls 7 (L_v b hx hm o i)) (kk : ∀ (σ' τ' : ST) (td' np' nr' : Nat) (H' : Heap) (locs' : List Loc) (ls' : Array Slot), td' ≤ td + 1000 → RR σ' τ' td' np' nr' → L_S s D tI tZ tL hx ax hm am o σ' τ' H' locs' → lv_has ls' 7 (L_v b hx hm o i) → W p l e room_1 s m #[Value.ref b] below meth c H' locs' (cells + 1) (slots + 6) Q (F0 m 1674 ls' [])) : W p l e room_1 s m #[Value.ref b] below meth c H locs cells slots Q (F0 m 820 ls []) := by
  obtain ⟨hex, hb, hml, hown, hts, hX, hbl, hK, hE, hlf, hL⟩ := E
  have S : CallFix p m c cL_law 7 s #[Value.ref b] wsL_law RL := ⟨hex, hb, hml, hown, hts⟩
  obtain ⟨f, hPx, hPm, hPo, hS⟩ := hS
  obtain ⟨code, val, σ', τ', hxo, hmo, hc0, td', np', nr', htd', hR'⟩ := P_subjectsOf hR (xs (i + 1))
  have hcode := x_code_subjectsOf hxo
  refine lv_aload_n hex hb dL_law_820 rfl (lv_at hl 3 rfl) ?_
  refine lb_arg (k := 1) hex hb hX hbl hL hS (lv_at hl 4 rfl) (lv_at hl 0 rfl) (by decide) (by omega) dL_law_821 dL_law_822 dL_law_824 dL_law_825 dL_law_826 ?_
  refine lv_aload_n hex hb dL_law_827 rfl (lv_at hl 1 rfl) ?_
  refine k_L_subjectsOf D tI tZ tL hx ax σ o f (xs (i + 1)) code val σ' hxo hlf A.1 A.2.2.1 S gL_law_L_subjectsOf ⟨Nat.le_of_ble_eq_true rfl, Nat.le_of_ble_eq_true rfl⟩ hl.1 hcap (Nat.le_of_ble_eq_true rfl) hK hPx hPo (w_Emv hE hS) hS (L_Aw A) dL_law_828 (fun H1 locs1 hw hz hk hS1 => ?_)
  replace hPm := m_kept9 hPm (fun q h1 h2 => hk q h1 (L_mw A q h2))
  obtain ⟨hPx, hPo⟩ := hw
  refine lv_istore (lv' := (5, .int (nI code)) :: L_v b hx hm o i) hex hb dL_law_831 hl (by decide) rfl (fun ls hl => ?_)
  refine lv_aload_n hex hb dL_law_833 rfl (lv_at hl 3 rfl) ?_
  refine lb_arg (k := 1) hex hb hX hbl hL hS1 (lv_at hl 5 rfl) (lv_at hl 1 rfl) (by decide) (by omega) dL_law_834 dL_law_835 dL_law_837 dL_law_838 dL_law_839 ?_
  refine km_subjectsOf D tI tZ tL hm am τ (xs (i + 1)) val τ' hmo S gL_law_X1_subjectsOf ⟨Nat.le_of_ble_eq_true rfl, Nat.le_of_ble_eq_true rfl⟩ hl.1 hcap (Nat.le_of_ble_eq_true rfl) A.2.1 hK hPm hS1 A.2.2.2.2.2.2.1 dL_law_840 (fun H2 locs2 hPm hz2 hk2 hS2 => ?_)
  replace hPx := x_kept9 hPx (fun q h1 h2 => hk2 q h1 (L_xm A q h2))
  replace hPo := o_kept hPo (hk2 o (o_lt hPo) A.2.2.2.1)
  refine lv_istore (lv' := (6, .int (val)) :: (5, .int (nI code)) :: L_v b hx hm o i) hex hb dL_law_843 hl (by decide) rfl (fun ls hl => ?_)
  refine lv_aload_n hex hb dL_law_845 rfl (lv_at hl 4 rfl) ?_
  refine k_X1_thrown D tI tZ tL hm am τ' S gL_law_X1_thrown ⟨Nat.le_of_ble_eq_true rfl, Nat.le_of_ble_eq_true rfl⟩ hl.1 hcap (Nat.le_of_ble_eq_true rfl) A.2.1 hK hPm hS2 A.2.2.2.2.2.2.1 dL_law_846 (fun H3 locs3 hPm hz3 hk3 hS3 => ?_)
  replace hPx := x_kept9 hPx (fun q h1 h2 => hk3 q h1 (L_xm A q h2))
  replace hPo := o_kept hPo (hk3 o (o_lt hPo) A.2.2.2.1)
  refine lv_iload hex hb dL_law_849 (lv_at hl 1 rfl) ?_
  refine lv_icmp_eq (tgt := 856) hex hb dL_law_851 (by decide) (fun _ => ?_) (fun hne => absurd hc0 hne)
  refine lv_iload hex hb dL_law_856 (lv_at hl 1 rfl) ?_
  refine lv_if_ne (tgt := 873) hex hb dL_law_858 (by decide) (fun _ => ?_) (fun h0 => ?_)
  · refine lv_goto (tgt := 1674) hex hb dL_law_873 (by decide) ?_
    exact kk σ' τ' td' np' nr' _ _ _ htd' hR' ⟨_, hPx, hPm, hPo, hS3⟩ (lv_sub hl [2, 3, 4, 5, 6] rfl)
  · have hcd : code = 0 := hcode.elim (fun h => h) (fun h => absurd h0 h)
    subst hcd
    refine lv_aload_n hex hb dL_law_861 rfl (lv_at hl 3 rfl) ?_
    refine lv_iconst (v := 0) hex hb dL_law_862 (by decide) ?_
    refine va_lald hex hb hK hPo 0 2 rfl rfl (vp_in_nI (n := 0) (by decide) (by decide)) dL_law_863 ?_
    refine lv_iload hex hb dL_law_864 (lv_at hl 0 rfl) ?_
    refine lv_i2l hex hb dL_law_866 rfl ?_
    refine lb_lcmp (lb_upd) hex hb dL_law_867 ?_
    refine lv_if_eq (tgt := 873) hex hb dL_law_868 (by decide) (fun _ => ?_) (fun h => absurd rfl h)
    refine lv_goto (tgt := 1674) hex hb dL_law_873 (by decide) ?_
    exact kk σ' τ' td' np' nr' _ _ _ htd' hR' ⟨_, hPx, hPm, hPo, hS3⟩ (lv_sub hl [2, 3, 4, 5, 6] rfl)
theorem x_code_below {σ σ' : ST} {a1 : Int32} {code : Nat} {val : Int32} (hout : x_out_below σ a1 code val σ') : code = 0 ∨ ¬ nI code = 0 := by
  rcases hout with ⟨v, hv, rfl, rfl, rfl⟩ | ⟨r, nr, hnr, hn30, hrn, rfl, rfl, rfl, rfl⟩
  · first | exact Or.inl rfl | exact Or.inr (by decide)
  · first | exact Or.inl rfl | exact Or.inr (by decide)
set_option maxHeartbeats 4000000 in
set_option maxRecDepth 100000 in
theorem lc_below (E : L_E p l s m meth c b L xs D tI tZ tL) (A : L_A s hx ax hm am o) (hR : RR σ τ td np nr) (htd : td ≤ 999000) (hcap : cells + 1 ≤ room_1.cells ∧ slots + 6 ≤ room_1.slots) (hi : i + 3 < L) (hS : L_S s D tI tZ tL hx ax hm am o σ τ H locs) (hl : lv_has ls 7 (L_v b hx hm o i)) (kk : ∀ (σ' τ' : ST) (td' np' nr' : Nat) (H' : Heap) (locs' : List Loc) (ls' : Array Slot), td' ≤ td + 1000 → RR σ' τ' td' np' nr' → L_S s D tI tZ tL hx ax hm am o σ' τ' H' locs' → lv_has ls' 7 (L_v b hx hm o i) → W p l e room_1 s m #[Value.ref b] below meth c H' locs' (cells + 1) (slots + 6) Q (F0 m 1674 ls' [])) : W p l e room_1 s m #[Value.ref b] below meth c H locs cells slots Q (F0 m 876 ls []) := by
  obtain ⟨hex, hb, hml, hown, hts, hX, hbl, hK, hE, hlf, hL⟩ := E
  have S : CallFix p m c cL_law 7 s #[Value.ref b] wsL_law RL := ⟨hex, hb, hml, hown, hts⟩
  obtain ⟨f, hPx, hPm, hPo, hS⟩ := hS
  obtain ⟨code, val, σ', τ', hxo, hmo, hc0, td', np', nr', htd', hR'⟩ := P_below hR (xs (i + 1))
  have hcode := x_code_below hxo
  refine lv_aload_n hex hb dL_law_876 rfl (lv_at hl 3 rfl) ?_
  refine lb_arg (k := 1) hex hb hX hbl hL hS (lv_at hl 4 rfl) (lv_at hl 0 rfl) (by decide) (by omega) dL_law_877 dL_law_878 dL_law_880 dL_law_881 dL_law_882 ?_
  refine lv_aload_n hex hb dL_law_883 rfl (lv_at hl 1 rfl) ?_
  refine k_L_below D tI tZ tL hx ax σ o f (xs (i + 1)) code val σ' hxo hlf A.1 A.2.2.1 S gL_law_L_below ⟨Nat.le_of_ble_eq_true rfl, Nat.le_of_ble_eq_true rfl⟩ hl.1 hcap (Nat.le_of_ble_eq_true rfl) hK hPx hPo (w_Emv hE hS) hS (L_Aw A) dL_law_884 (fun H1 locs1 hw hz hk hS1 => ?_)
  replace hPm := m_kept9 hPm (fun q h1 h2 => hk q h1 (L_mw A q h2))
  obtain ⟨hPx, hPo⟩ := hw
  refine lv_istore (lv' := (5, .int (nI code)) :: L_v b hx hm o i) hex hb dL_law_887 hl (by decide) rfl (fun ls hl => ?_)
  refine lv_aload_n hex hb dL_law_889 rfl (lv_at hl 3 rfl) ?_
  refine lb_arg (k := 1) hex hb hX hbl hL hS1 (lv_at hl 5 rfl) (lv_at hl 1 rfl) (by decide) (by omega) dL_law_890 dL_law_891 dL_law_893 dL_law_894 dL_law_895 ?_
  refine km_below D tI tZ tL hm am τ (xs (i + 1)) val τ' hmo S gL_law_X1_below ⟨Nat.le_of_ble_eq_true rfl, Nat.le_of_ble_eq_true rfl⟩ hl.1 hcap (Nat.le_of_ble_eq_true rfl) A.2.1 hK hPm hS1 A.2.2.2.2.2.2.1 dL_law_896 (fun H2 locs2 hPm hz2 hk2 hS2 => ?_)
  replace hPx := x_kept9 hPx (fun q h1 h2 => hk2 q h1 (L_xm A q h2))
  replace hPo := o_kept hPo (hk2 o (o_lt hPo) A.2.2.2.1)
  refine lv_istore (lv' := (6, .int (val)) :: (5, .int (nI code)) :: L_v b hx hm o i) hex hb dL_law_899 hl (by decide) rfl (fun ls hl => ?_)
  refine lv_aload_n hex hb dL_law_901 rfl (lv_at hl 4 rfl) ?_
  refine k_X1_thrown D tI tZ tL hm am τ' S gL_law_X1_thrown ⟨Nat.le_of_ble_eq_true rfl, Nat.le_of_ble_eq_true rfl⟩ hl.1 hcap (Nat.le_of_ble_eq_true rfl) A.2.1 hK hPm hS2 A.2.2.2.2.2.2.1 dL_law_902 (fun H3 locs3 hPm hz3 hk3 hS3 => ?_)
  replace hPx := x_kept9 hPx (fun q h1 h2 => hk3 q h1 (L_xm A q h2))
  replace hPo := o_kept hPo (hk3 o (o_lt hPo) A.2.2.2.1)
  refine lv_iload hex hb dL_law_905 (lv_at hl 1 rfl) ?_
  refine lv_icmp_eq (tgt := 912) hex hb dL_law_907 (by decide) (fun _ => ?_) (fun hne => absurd hc0 hne)
  refine lv_iload hex hb dL_law_912 (lv_at hl 1 rfl) ?_
  refine lv_if_ne (tgt := 929) hex hb dL_law_914 (by decide) (fun _ => ?_) (fun h0 => ?_)
  · refine lv_goto (tgt := 1674) hex hb dL_law_929 (by decide) ?_
    exact kk σ' τ' td' np' nr' _ _ _ htd' hR' ⟨_, hPx, hPm, hPo, hS3⟩ (lv_sub hl [2, 3, 4, 5, 6] rfl)
  · have hcd : code = 0 := hcode.elim (fun h => h) (fun h => absurd h0 h)
    subst hcd
    refine lv_aload_n hex hb dL_law_917 rfl (lv_at hl 3 rfl) ?_
    refine lv_iconst (v := 0) hex hb dL_law_918 (by decide) ?_
    refine va_lald hex hb hK hPo 0 2 rfl rfl (vp_in_nI (n := 0) (by decide) (by decide)) dL_law_919 ?_
    refine lv_iload hex hb dL_law_920 (lv_at hl 0 rfl) ?_
    refine lv_i2l hex hb dL_law_922 rfl ?_
    refine lb_lcmp (lb_upd) hex hb dL_law_923 ?_
    refine lv_if_eq (tgt := 929) hex hb dL_law_924 (by decide) (fun _ => ?_) (fun h => absurd rfl h)
    refine lv_goto (tgt := 1674) hex hb dL_law_929 (by decide) ?_
    exact kk σ' τ' td' np' nr' _ _ _ htd' hR' ⟨_, hPx, hPm, hPo, hS3⟩ (lv_sub hl [2, 3, 4, 5, 6] rfl)
theorem x_code_endOf {σ σ' : ST} {a1 : Int32} {code : Nat} {val : Int32} (hout : x_out_endOf σ a1 code val σ') : code = 0 ∨ ¬ nI code = 0 := by
  rcases hout with ⟨v, hv, rfl, rfl, rfl⟩ | ⟨r, nr, hnr, hn30, hrn, np, hnp, hn8, rfl, rfl, rfl, rfl⟩
  · first | exact Or.inl rfl | exact Or.inr (by decide)
  · first | exact Or.inl rfl | exact Or.inr (by decide)
set_option maxHeartbeats 4000000 in
set_option maxRecDepth 100000 in
theorem lc_endOf (E : L_E p l s m meth c b L xs D tI tZ tL) (A : L_A s hx ax hm am o) (hR : RR σ τ td np nr) (htd : td ≤ 999000) (hcap : cells + 1 ≤ room_1.cells ∧ slots + 6 ≤ room_1.slots) (hi : i + 3 < L) (hS : L_S s D tI tZ tL hx ax hm am o σ τ H locs) (hl : lv_has ls 7 (L_v b hx hm o i)) (kk : ∀ (σ' τ' : ST) (td' np' nr' : Nat) (H' : Heap) (locs' : List Loc) (ls' : Array Slot), td' ≤ td + 1000 → RR σ' τ' td' np' nr' → L_S s D tI tZ tL hx ax hm am o σ' τ' H' locs' → lv_has ls' 7 (L_v b hx hm o i) → W p l e room_1 s m #[Value.ref b] below meth c H' locs' (cells + 1) (slots + 6) Q (F0 m 1674 ls' [])) : W p l e room_1 s m #[Value.ref b] below meth c H locs cells slots Q (F0 m 932 ls []) := by
  obtain ⟨hex, hb, hml, hown, hts, hX, hbl, hK, hE, hlf, hL⟩ := E
  have S : CallFix p m c cL_law 7 s #[Value.ref b] wsL_law RL := ⟨hex, hb, hml, hown, hts⟩
  obtain ⟨f, hPx, hPm, hPo, hS⟩ := hS
  obtain ⟨code, val, σ', τ', hxo, hmo, hc0, td', np', nr', htd', hR'⟩ := P_endOf hR (xs (i + 1))
  have hcode := x_code_endOf hxo
  refine lv_aload_n hex hb dL_law_932 rfl (lv_at hl 3 rfl) ?_
  refine lb_arg (k := 1) hex hb hX hbl hL hS (lv_at hl 4 rfl) (lv_at hl 0 rfl) (by decide) (by omega) dL_law_933 dL_law_934 dL_law_936 dL_law_937 dL_law_938 ?_
  refine lv_aload_n hex hb dL_law_939 rfl (lv_at hl 1 rfl) ?_
  refine k_L_endOf D tI tZ tL hx ax σ o f (xs (i + 1)) code val σ' hxo hlf A.1 A.2.2.1 S gL_law_L_endOf ⟨Nat.le_of_ble_eq_true rfl, Nat.le_of_ble_eq_true rfl⟩ hl.1 hcap (Nat.le_of_ble_eq_true rfl) hK hPx hPo (w_Emv hE hS) hS (L_Aw A) dL_law_940 (fun H1 locs1 hw hz hk hS1 => ?_)
  replace hPm := m_kept9 hPm (fun q h1 h2 => hk q h1 (L_mw A q h2))
  obtain ⟨hPx, hPo⟩ := hw
  refine lv_istore (lv' := (5, .int (nI code)) :: L_v b hx hm o i) hex hb dL_law_943 hl (by decide) rfl (fun ls hl => ?_)
  refine lv_aload_n hex hb dL_law_945 rfl (lv_at hl 3 rfl) ?_
  refine lb_arg (k := 1) hex hb hX hbl hL hS1 (lv_at hl 5 rfl) (lv_at hl 1 rfl) (by decide) (by omega) dL_law_946 dL_law_947 dL_law_949 dL_law_950 dL_law_951 ?_
  refine km_endOf D tI tZ tL hm am τ (xs (i + 1)) val τ' hmo S gL_law_X1_endOf ⟨Nat.le_of_ble_eq_true rfl, Nat.le_of_ble_eq_true rfl⟩ hl.1 hcap (Nat.le_of_ble_eq_true rfl) A.2.1 hK hPm hS1 A.2.2.2.2.2.2.1 dL_law_952 (fun H2 locs2 hPm hz2 hk2 hS2 => ?_)
  replace hPx := x_kept9 hPx (fun q h1 h2 => hk2 q h1 (L_xm A q h2))
  replace hPo := o_kept hPo (hk2 o (o_lt hPo) A.2.2.2.1)
  refine lv_istore (lv' := (6, .int (val)) :: (5, .int (nI code)) :: L_v b hx hm o i) hex hb dL_law_955 hl (by decide) rfl (fun ls hl => ?_)
  refine lv_aload_n hex hb dL_law_957 rfl (lv_at hl 4 rfl) ?_
  refine k_X1_thrown D tI tZ tL hm am τ' S gL_law_X1_thrown ⟨Nat.le_of_ble_eq_true rfl, Nat.le_of_ble_eq_true rfl⟩ hl.1 hcap (Nat.le_of_ble_eq_true rfl) A.2.1 hK hPm hS2 A.2.2.2.2.2.2.1 dL_law_958 (fun H3 locs3 hPm hz3 hk3 hS3 => ?_)
  replace hPx := x_kept9 hPx (fun q h1 h2 => hk3 q h1 (L_xm A q h2))
  replace hPo := o_kept hPo (hk3 o (o_lt hPo) A.2.2.2.1)
  refine lv_iload hex hb dL_law_961 (lv_at hl 1 rfl) ?_
  refine lv_icmp_eq (tgt := 968) hex hb dL_law_963 (by decide) (fun _ => ?_) (fun hne => absurd hc0 hne)
  refine lv_iload hex hb dL_law_968 (lv_at hl 1 rfl) ?_
  refine lv_if_ne (tgt := 985) hex hb dL_law_970 (by decide) (fun _ => ?_) (fun h0 => ?_)
  · refine lv_goto (tgt := 1674) hex hb dL_law_985 (by decide) ?_
    exact kk σ' τ' td' np' nr' _ _ _ htd' hR' ⟨_, hPx, hPm, hPo, hS3⟩ (lv_sub hl [2, 3, 4, 5, 6] rfl)
  · have hcd : code = 0 := hcode.elim (fun h => h) (fun h => absurd h0 h)
    subst hcd
    refine lv_aload_n hex hb dL_law_973 rfl (lv_at hl 3 rfl) ?_
    refine lv_iconst (v := 0) hex hb dL_law_974 (by decide) ?_
    refine va_lald hex hb hK hPo 0 2 rfl rfl (vp_in_nI (n := 0) (by decide) (by decide)) dL_law_975 ?_
    refine lv_iload hex hb dL_law_976 (lv_at hl 0 rfl) ?_
    refine lv_i2l hex hb dL_law_978 rfl ?_
    refine lb_lcmp (lb_upd) hex hb dL_law_979 ?_
    refine lv_if_eq (tgt := 985) hex hb dL_law_980 (by decide) (fun _ => ?_) (fun h => absurd rfl h)
    refine lv_goto (tgt := 1674) hex hb dL_law_985 (by decide) ?_
    exact kk σ' τ' td' np' nr' _ _ _ htd' hR' ⟨_, hPx, hPm, hPo, hS3⟩ (lv_sub hl [2, 3, 4, 5, 6] rfl)
theorem x_code_whyNoUse {σ σ' : ST} {a1 : Int32} {a2 : Int32} {code : Nat} {val : Int32} (hout : x_out_whyNoUse σ a1 a2 code val σ') : code = 0 ∨ ¬ nI code = 0 := by
  rcases hout with ⟨v, hv, w, rfl, rfl, rfl, rfl⟩ | ⟨r, nr, hnr, hn30, hrn, v, hv, rfl, rfl, rfl, rfl⟩ | ⟨r, q, nr, hnr, hn30, hrn, np, hnp, hn8, hq, rfl, rfl, rfl, rfl, rfl⟩
  · first | exact Or.inl rfl | exact Or.inr (by decide)
  · first | exact Or.inl rfl | exact Or.inr (by decide)
  · first | exact Or.inl rfl | exact Or.inr (by decide)
set_option maxHeartbeats 4000000 in
set_option maxRecDepth 100000 in
theorem lc_whyNoUse (E : L_E p l s m meth c b L xs D tI tZ tL) (A : L_A s hx ax hm am o) (hR : RR σ τ td np nr) (htd : td ≤ 999000) (hcap : cells + 1 ≤ room_1.cells ∧ slots + 6 ≤ room_1.slots) (hi : i + 3 < L) (hS : L_S s D tI tZ tL hx ax hm am o σ τ H locs) (hl : lv_has ls 7 (L_v b hx hm o i)) (kk : ∀ (σ' τ' : ST) (td' np' nr' : Nat) (H' : Heap) (locs' : List Loc) (ls' : Array Slot), td' ≤ td + 1000 → RR σ' τ' td' np' nr' → L_S s D tI tZ tL hx ax hm am o σ' τ' H' locs' → lv_has ls' 7 (L_v b hx hm o i) → W p l e room_1 s m #[Value.ref b] below meth c H' locs' (cells + 1) (slots + 6) Q (F0 m 1674 ls' [])) : W p l e room_1 s m #[Value.ref b] below meth c H locs cells slots Q (F0 m 988 ls []) := by
  obtain ⟨hex, hb, hml, hown, hts, hX, hbl, hK, hE, hlf, hL⟩ := E
  have S : CallFix p m c cL_law 7 s #[Value.ref b] wsL_law RL := ⟨hex, hb, hml, hown, hts⟩
  obtain ⟨f, hPx, hPm, hPo, hS⟩ := hS
  obtain ⟨code, val, σ', τ', hxo, hmo, hc0, td', np', nr', htd', hR'⟩ := P_whyNoUse hR (xs (i + 1)) (xs (i + 2))
  have hcode := x_code_whyNoUse hxo
  refine lv_aload_n hex hb dL_law_988 rfl (lv_at hl 3 rfl) ?_
  refine lb_arg (k := 1) hex hb hX hbl hL hS (lv_at hl 4 rfl) (lv_at hl 0 rfl) (by decide) (by omega) dL_law_989 dL_law_990 dL_law_992 dL_law_993 dL_law_994 ?_
  refine lb_arg (k := 2) hex hb hX hbl hL hS (lv_at hl 4 rfl) (lv_at hl 0 rfl) (by decide) (by omega) dL_law_995 dL_law_996 dL_law_998 dL_law_999 dL_law_1000 ?_
  refine lv_aload_n hex hb dL_law_1001 rfl (lv_at hl 1 rfl) ?_
  refine k_L_whyNoUse D tI tZ tL hx ax σ o f (xs (i + 1)) (xs (i + 2)) code val σ' hxo hlf A.1 A.2.2.1 S gL_law_L_whyNoUse ⟨Nat.le_of_ble_eq_true rfl, Nat.le_of_ble_eq_true rfl⟩ hl.1 hcap (Nat.le_of_ble_eq_true rfl) hK hPx hPo (w_Emv hE hS) hS (L_Aw A) dL_law_1002 (fun H1 locs1 hw hz hk hS1 => ?_)
  replace hPm := m_kept9 hPm (fun q h1 h2 => hk q h1 (L_mw A q h2))
  obtain ⟨hPx, hPo⟩ := hw
  refine lv_istore (lv' := (5, .int (nI code)) :: L_v b hx hm o i) hex hb dL_law_1005 hl (by decide) rfl (fun ls hl => ?_)
  refine lv_aload_n hex hb dL_law_1007 rfl (lv_at hl 3 rfl) ?_
  refine lb_arg (k := 1) hex hb hX hbl hL hS1 (lv_at hl 5 rfl) (lv_at hl 1 rfl) (by decide) (by omega) dL_law_1008 dL_law_1009 dL_law_1011 dL_law_1012 dL_law_1013 ?_
  refine lb_arg (k := 2) hex hb hX hbl hL hS1 (lv_at hl 5 rfl) (lv_at hl 1 rfl) (by decide) (by omega) dL_law_1014 dL_law_1015 dL_law_1017 dL_law_1018 dL_law_1019 ?_
  refine km_whyNoUse D tI tZ tL hm am τ (xs (i + 1)) (xs (i + 2)) val τ' hmo S gL_law_X1_whyNoUse ⟨Nat.le_of_ble_eq_true rfl, Nat.le_of_ble_eq_true rfl⟩ hl.1 hcap (Nat.le_of_ble_eq_true rfl) A.2.1 hK hPm hS1 A.2.2.2.2.2.2.1 dL_law_1020 (fun H2 locs2 hPm hz2 hk2 hS2 => ?_)
  replace hPx := x_kept9 hPx (fun q h1 h2 => hk2 q h1 (L_xm A q h2))
  replace hPo := o_kept hPo (hk2 o (o_lt hPo) A.2.2.2.1)
  refine lv_istore (lv' := (6, .int (val)) :: (5, .int (nI code)) :: L_v b hx hm o i) hex hb dL_law_1023 hl (by decide) rfl (fun ls hl => ?_)
  refine lv_aload_n hex hb dL_law_1025 rfl (lv_at hl 4 rfl) ?_
  refine k_X1_thrown D tI tZ tL hm am τ' S gL_law_X1_thrown ⟨Nat.le_of_ble_eq_true rfl, Nat.le_of_ble_eq_true rfl⟩ hl.1 hcap (Nat.le_of_ble_eq_true rfl) A.2.1 hK hPm hS2 A.2.2.2.2.2.2.1 dL_law_1026 (fun H3 locs3 hPm hz3 hk3 hS3 => ?_)
  replace hPx := x_kept9 hPx (fun q h1 h2 => hk3 q h1 (L_xm A q h2))
  replace hPo := o_kept hPo (hk3 o (o_lt hPo) A.2.2.2.1)
  refine lv_iload hex hb dL_law_1029 (lv_at hl 1 rfl) ?_
  refine lv_icmp_eq (tgt := 1036) hex hb dL_law_1031 (by decide) (fun _ => ?_) (fun hne => absurd hc0 hne)
  refine lv_iload hex hb dL_law_1036 (lv_at hl 1 rfl) ?_
  refine lv_if_ne (tgt := 1053) hex hb dL_law_1038 (by decide) (fun _ => ?_) (fun h0 => ?_)
  · refine lv_goto (tgt := 1674) hex hb dL_law_1053 (by decide) ?_
    exact kk σ' τ' td' np' nr' _ _ _ htd' hR' ⟨_, hPx, hPm, hPo, hS3⟩ (lv_sub hl [2, 3, 4, 5, 6] rfl)
  · have hcd : code = 0 := hcode.elim (fun h => h) (fun h => absurd h0 h)
    subst hcd
    refine lv_aload_n hex hb dL_law_1041 rfl (lv_at hl 3 rfl) ?_
    refine lv_iconst (v := 0) hex hb dL_law_1042 (by decide) ?_
    refine va_lald hex hb hK hPo 0 2 rfl rfl (vp_in_nI (n := 0) (by decide) (by decide)) dL_law_1043 ?_
    refine lv_iload hex hb dL_law_1044 (lv_at hl 0 rfl) ?_
    refine lv_i2l hex hb dL_law_1046 rfl ?_
    refine lb_lcmp (lb_upd) hex hb dL_law_1047 ?_
    refine lv_if_eq (tgt := 1053) hex hb dL_law_1048 (by decide) (fun _ => ?_) (fun h => absurd rfl h)
    refine lv_goto (tgt := 1674) hex hb dL_law_1053 (by decide) ?_
    exact kk σ' τ' td' np' nr' _ _ _ htd' hR' ⟨_, hPx, hPm, hPo, hS3⟩ (lv_sub hl [2, 3, 4, 5, 6] rfl)
theorem x_code_use {σ σ' : ST} {a1 : Int32} {a2 : Int32} {code : Nat} {val : Int32} (hout : x_out_use σ a1 a2 code val σ') : code = 0 ∨ ¬ nI code = 0 := by
  rcases hout with ⟨r, q, nr, hnr, hn30, hrn, np, hnp, hn8, hq, hw, rfl, rfl, rfl, rfl, rfl⟩ | ⟨v, hv, w, rfl, rfl, rfl, rfl⟩ | ⟨r, nr, hnr, hn30, hrn, v, hv, rfl, rfl, rfl, rfl⟩ | ⟨r, q, nr, hnr, hn30, hrn, np, hnp, hn8, hq, hw, rfl, rfl, rfl, rfl⟩
  · first | exact Or.inl rfl | exact Or.inr (by decide)
  · first | exact Or.inl rfl | exact Or.inr (by decide)
  · first | exact Or.inl rfl | exact Or.inr (by decide)
  · first | exact Or.inl rfl | exact Or.inr (by decide)
set_option maxHeartbeats 4000000 in
set_option maxRecDepth 100000 in
theorem lc_use (E : L_E p l s m meth c b L xs D tI tZ tL) (A : L_A s hx ax hm am o) (hR : RR σ τ td np nr) (htd : td ≤ 999000) (hcap : cells + 1 ≤ room_1.cells ∧ slots + 6 ≤ room_1.slots) (hi : i + 3 < L) (hS : L_S s D tI tZ tL hx ax hm am o σ τ H locs) (hl : lv_has ls 7 (L_v b hx hm o i)) (kk : ∀ (σ' τ' : ST) (td' np' nr' : Nat) (H' : Heap) (locs' : List Loc) (ls' : Array Slot), td' ≤ td + 1000 → RR σ' τ' td' np' nr' → L_S s D tI tZ tL hx ax hm am o σ' τ' H' locs' → lv_has ls' 7 (L_v b hx hm o i) → W p l e room_1 s m #[Value.ref b] below meth c H' locs' (cells + 1) (slots + 6) Q (F0 m 1674 ls' [])) : W p l e room_1 s m #[Value.ref b] below meth c H locs cells slots Q (F0 m 1056 ls []) := by
  obtain ⟨hex, hb, hml, hown, hts, hX, hbl, hK, hE, hlf, hL⟩ := E
  have S : CallFix p m c cL_law 7 s #[Value.ref b] wsL_law RL := ⟨hex, hb, hml, hown, hts⟩
  obtain ⟨f, hPx, hPm, hPo, hS⟩ := hS
  obtain ⟨code, val, σ', τ', hxo, hmo, hc0, td', np', nr', htd', hR'⟩ := P_use hR (xs (i + 1)) (xs (i + 2))
  have hcode := x_code_use hxo
  refine lv_aload_n hex hb dL_law_1056 rfl (lv_at hl 3 rfl) ?_
  refine lb_arg (k := 1) hex hb hX hbl hL hS (lv_at hl 4 rfl) (lv_at hl 0 rfl) (by decide) (by omega) dL_law_1057 dL_law_1058 dL_law_1060 dL_law_1061 dL_law_1062 ?_
  refine lb_arg (k := 2) hex hb hX hbl hL hS (lv_at hl 4 rfl) (lv_at hl 0 rfl) (by decide) (by omega) dL_law_1063 dL_law_1064 dL_law_1066 dL_law_1067 dL_law_1068 ?_
  refine lv_aload_n hex hb dL_law_1069 rfl (lv_at hl 1 rfl) ?_
  refine k_L_use D tI tZ tL hx ax σ o f (xs (i + 1)) (xs (i + 2)) code val σ' hxo hlf A.1 A.2.2.1 S gL_law_L_use ⟨Nat.le_of_ble_eq_true rfl, Nat.le_of_ble_eq_true rfl⟩ hl.1 hcap (Nat.le_of_ble_eq_true rfl) hK hPx hPo (w_Emv hE hS) hS (L_Aw A) dL_law_1070 (fun H1 locs1 hw hz hk hS1 => ?_)
  replace hPm := m_kept9 hPm (fun q h1 h2 => hk q h1 (L_mw A q h2))
  obtain ⟨hPx, hPo⟩ := hw
  refine lv_istore (lv' := (5, .int (nI code)) :: L_v b hx hm o i) hex hb dL_law_1073 hl (by decide) rfl (fun ls hl => ?_)
  refine lv_aload_n hex hb dL_law_1075 rfl (lv_at hl 3 rfl) ?_
  refine lb_arg (k := 1) hex hb hX hbl hL hS1 (lv_at hl 5 rfl) (lv_at hl 1 rfl) (by decide) (by omega) dL_law_1076 dL_law_1077 dL_law_1079 dL_law_1080 dL_law_1081 ?_
  refine lb_arg (k := 2) hex hb hX hbl hL hS1 (lv_at hl 5 rfl) (lv_at hl 1 rfl) (by decide) (by omega) dL_law_1082 dL_law_1083 dL_law_1085 dL_law_1086 dL_law_1087 ?_
  refine km_use D tI tZ tL hm am τ (xs (i + 1)) (xs (i + 2)) val τ' hmo S gL_law_X1_use ⟨Nat.le_of_ble_eq_true rfl, Nat.le_of_ble_eq_true rfl⟩ hl.1 hcap (Nat.le_of_ble_eq_true rfl) A.2.1 hK hPm hS1 A.2.2.2.2.2.2.1 dL_law_1088 (fun H2 locs2 hPm hz2 hk2 hS2 => ?_)
  replace hPx := x_kept9 hPx (fun q h1 h2 => hk2 q h1 (L_xm A q h2))
  replace hPo := o_kept hPo (hk2 o (o_lt hPo) A.2.2.2.1)
  refine lv_istore (lv' := (6, .int (val)) :: (5, .int (nI code)) :: L_v b hx hm o i) hex hb dL_law_1091 hl (by decide) rfl (fun ls hl => ?_)
  refine lv_aload_n hex hb dL_law_1093 rfl (lv_at hl 4 rfl) ?_
  refine k_X1_thrown D tI tZ tL hm am τ' S gL_law_X1_thrown ⟨Nat.le_of_ble_eq_true rfl, Nat.le_of_ble_eq_true rfl⟩ hl.1 hcap (Nat.le_of_ble_eq_true rfl) A.2.1 hK hPm hS2 A.2.2.2.2.2.2.1 dL_law_1094 (fun H3 locs3 hPm hz3 hk3 hS3 => ?_)
  replace hPx := x_kept9 hPx (fun q h1 h2 => hk3 q h1 (L_xm A q h2))
  replace hPo := o_kept hPo (hk3 o (o_lt hPo) A.2.2.2.1)
  refine lv_iload hex hb dL_law_1097 (lv_at hl 1 rfl) ?_
  refine lv_icmp_eq (tgt := 1104) hex hb dL_law_1099 (by decide) (fun _ => ?_) (fun hne => absurd hc0 hne)
  refine lv_iload hex hb dL_law_1104 (lv_at hl 1 rfl) ?_
  refine lv_if_ne (tgt := 1121) hex hb dL_law_1106 (by decide) (fun _ => ?_) (fun h0 => ?_)
  · refine lv_goto (tgt := 1674) hex hb dL_law_1121 (by decide) ?_
    exact kk σ' τ' td' np' nr' _ _ _ htd' hR' ⟨_, hPx, hPm, hPo, hS3⟩ (lv_sub hl [2, 3, 4, 5, 6] rfl)
  · have hcd : code = 0 := hcode.elim (fun h => h) (fun h => absurd h0 h)
    subst hcd
    refine lv_aload_n hex hb dL_law_1109 rfl (lv_at hl 3 rfl) ?_
    refine lv_iconst (v := 0) hex hb dL_law_1110 (by decide) ?_
    refine va_lald hex hb hK hPo 0 2 rfl rfl (vp_in_nI (n := 0) (by decide) (by decide)) dL_law_1111 ?_
    refine lv_iload hex hb dL_law_1112 (lv_at hl 0 rfl) ?_
    refine lv_i2l hex hb dL_law_1114 rfl ?_
    refine lb_lcmp (lb_upd) hex hb dL_law_1115 ?_
    refine lv_if_eq (tgt := 1121) hex hb dL_law_1116 (by decide) (fun _ => ?_) (fun h => absurd rfl h)
    refine lv_goto (tgt := 1674) hex hb dL_law_1121 (by decide) ?_
    exact kk σ' τ' td' np' nr' _ _ _ htd' hR' ⟨_, hPx, hPm, hPo, hS3⟩ (lv_sub hl [2, 3, 4, 5, 6] rfl)
theorem x_code_uses {σ σ' : ST} {a1 : Int32} {a2 : Int32} {code : Nat} {val : Int32} (hout : x_out_uses σ a1 a2 code val σ') : code = 0 ∨ ¬ nI code = 0 := by
  rcases hout with ⟨v, hv, w, rfl, rfl, rfl, rfl⟩ | ⟨j, hj12, v, hv, rfl, rfl, rfl, rfl⟩ | ⟨j, hj12, q, np, hnp, hn8, hq, nr, hnr, hn30, rfl, rfl, rfl, rfl, rfl⟩
  · first | exact Or.inl rfl | exact Or.inr (by decide)
  · first | exact Or.inl rfl | exact Or.inr (by decide)
  · first | exact Or.inl rfl | exact Or.inr (by decide)
set_option maxHeartbeats 4000000 in
set_option maxRecDepth 100000 in
theorem lc_uses (E : L_E p l s m meth c b L xs D tI tZ tL) (A : L_A s hx ax hm am o) (hR : RR σ τ td np nr) (htd : td ≤ 999000) (hcap : cells + 1 ≤ room_1.cells ∧ slots + 6 ≤ room_1.slots) (hi : i + 3 < L) (hS : L_S s D tI tZ tL hx ax hm am o σ τ H locs) (hl : lv_has ls 7 (L_v b hx hm o i)) (kk : ∀ (σ' τ' : ST) (td' np' nr' : Nat) (H' : Heap) (locs' : List Loc) (ls' : Array Slot), td' ≤ td + 1000 → RR σ' τ' td' np' nr' → L_S s D tI tZ tL hx ax hm am o σ' τ' H' locs' → lv_has ls' 7 (L_v b hx hm o i) → W p l e room_1 s m #[Value.ref b] below meth c H' locs' (cells + 1) (slots + 6) Q (F0 m 1674 ls' [])) : W p l e room_1 s m #[Value.ref b] below meth c H locs cells slots Q (F0 m 1124 ls []) := by
  obtain ⟨hex, hb, hml, hown, hts, hX, hbl, hK, hE, hlf, hL⟩ := E
  have S : CallFix p m c cL_law 7 s #[Value.ref b] wsL_law RL := ⟨hex, hb, hml, hown, hts⟩
  obtain ⟨f, hPx, hPm, hPo, hS⟩ := hS
  obtain ⟨code, val, σ', τ', hxo, hmo, hc0, td', np', nr', htd', hR'⟩ := P_uses hR (xs (i + 1)) (xs (i + 2))
  have hcode := x_code_uses hxo
  refine lv_aload_n hex hb dL_law_1124 rfl (lv_at hl 3 rfl) ?_
  refine lb_arg (k := 1) hex hb hX hbl hL hS (lv_at hl 4 rfl) (lv_at hl 0 rfl) (by decide) (by omega) dL_law_1125 dL_law_1126 dL_law_1128 dL_law_1129 dL_law_1130 ?_
  refine lb_arg (k := 2) hex hb hX hbl hL hS (lv_at hl 4 rfl) (lv_at hl 0 rfl) (by decide) (by omega) dL_law_1131 dL_law_1132 dL_law_1134 dL_law_1135 dL_law_1136 ?_
  refine lv_aload_n hex hb dL_law_1137 rfl (lv_at hl 1 rfl) ?_
  refine k_L_uses D tI tZ tL hx ax σ o f (xs (i + 1)) (xs (i + 2)) code val σ' hxo hlf A.1 A.2.2.1 S gL_law_L_uses ⟨Nat.le_of_ble_eq_true rfl, Nat.le_of_ble_eq_true rfl⟩ hl.1 hcap (Nat.le_of_ble_eq_true rfl) hK hPx hPo (w_Emv hE hS) hS (L_Aw A) dL_law_1138 (fun H1 locs1 hw hz hk hS1 => ?_)
  replace hPm := m_kept9 hPm (fun q h1 h2 => hk q h1 (L_mw A q h2))
  obtain ⟨hPx, hPo⟩ := hw
  refine lv_istore (lv' := (5, .int (nI code)) :: L_v b hx hm o i) hex hb dL_law_1141 hl (by decide) rfl (fun ls hl => ?_)
  refine lv_aload_n hex hb dL_law_1143 rfl (lv_at hl 3 rfl) ?_
  refine lb_arg (k := 1) hex hb hX hbl hL hS1 (lv_at hl 5 rfl) (lv_at hl 1 rfl) (by decide) (by omega) dL_law_1144 dL_law_1145 dL_law_1147 dL_law_1148 dL_law_1149 ?_
  refine lb_arg (k := 2) hex hb hX hbl hL hS1 (lv_at hl 5 rfl) (lv_at hl 1 rfl) (by decide) (by omega) dL_law_1150 dL_law_1151 dL_law_1153 dL_law_1154 dL_law_1155 ?_
  refine km_uses D tI tZ tL hm am τ (xs (i + 1)) (xs (i + 2)) val τ' hmo S gL_law_X1_uses ⟨Nat.le_of_ble_eq_true rfl, Nat.le_of_ble_eq_true rfl⟩ hl.1 hcap (Nat.le_of_ble_eq_true rfl) A.2.1 hK hPm hS1 A.2.2.2.2.2.2.1 dL_law_1156 (fun H2 locs2 hPm hz2 hk2 hS2 => ?_)
  replace hPx := x_kept9 hPx (fun q h1 h2 => hk2 q h1 (L_xm A q h2))
  replace hPo := o_kept hPo (hk2 o (o_lt hPo) A.2.2.2.1)
  refine lv_istore (lv' := (6, .int (val)) :: (5, .int (nI code)) :: L_v b hx hm o i) hex hb dL_law_1159 hl (by decide) rfl (fun ls hl => ?_)
  refine lv_aload_n hex hb dL_law_1161 rfl (lv_at hl 4 rfl) ?_
  refine k_X1_thrown D tI tZ tL hm am τ' S gL_law_X1_thrown ⟨Nat.le_of_ble_eq_true rfl, Nat.le_of_ble_eq_true rfl⟩ hl.1 hcap (Nat.le_of_ble_eq_true rfl) A.2.1 hK hPm hS2 A.2.2.2.2.2.2.1 dL_law_1162 (fun H3 locs3 hPm hz3 hk3 hS3 => ?_)
  replace hPx := x_kept9 hPx (fun q h1 h2 => hk3 q h1 (L_xm A q h2))
  replace hPo := o_kept hPo (hk3 o (o_lt hPo) A.2.2.2.1)
  refine lv_iload hex hb dL_law_1165 (lv_at hl 1 rfl) ?_
  refine lv_icmp_eq (tgt := 1172) hex hb dL_law_1167 (by decide) (fun _ => ?_) (fun hne => absurd hc0 hne)
  refine lv_iload hex hb dL_law_1172 (lv_at hl 1 rfl) ?_
  refine lv_if_ne (tgt := 1189) hex hb dL_law_1174 (by decide) (fun _ => ?_) (fun h0 => ?_)
  · refine lv_goto (tgt := 1674) hex hb dL_law_1189 (by decide) ?_
    exact kk σ' τ' td' np' nr' _ _ _ htd' hR' ⟨_, hPx, hPm, hPo, hS3⟩ (lv_sub hl [2, 3, 4, 5, 6] rfl)
  · have hcd : code = 0 := hcode.elim (fun h => h) (fun h => absurd h0 h)
    subst hcd
    refine lv_aload_n hex hb dL_law_1177 rfl (lv_at hl 3 rfl) ?_
    refine lv_iconst (v := 0) hex hb dL_law_1178 (by decide) ?_
    refine va_lald hex hb hK hPo 0 2 rfl rfl (vp_in_nI (n := 0) (by decide) (by decide)) dL_law_1179 ?_
    refine lv_iload hex hb dL_law_1180 (lv_at hl 0 rfl) ?_
    refine lv_i2l hex hb dL_law_1182 rfl ?_
    refine lb_lcmp (lb_upd) hex hb dL_law_1183 ?_
    refine lv_if_eq (tgt := 1189) hex hb dL_law_1184 (by decide) (fun _ => ?_) (fun h => absurd rfl h)
    refine lv_goto (tgt := 1674) hex hb dL_law_1189 (by decide) ?_
    exact kk σ' τ' td' np' nr' _ _ _ htd' hR' ⟨_, hPx, hPm, hPo, hS3⟩ (lv_sub hl [2, 3, 4, 5, 6] rfl)
end LC
