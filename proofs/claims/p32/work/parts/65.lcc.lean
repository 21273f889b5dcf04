section LC
variable {p : Program} {l : Launch} {e : Env} {s : State} {m : MethodId} {below : List Frame} {meth : Method} {c : Code} {H : Heap} {locs : List Loc} {cells slots : Nat} {Q : State → Prop} {ls : Array Slot} {D : va_G} {tI tZ tL : ClassId} {xo uo b L i : Nat} {xs : Nat → Int32} {ax ay : Nat → Nat} {σ μ τ : ST} {υ : Nat → Int64} {td np nr T : Nat}
set_option maxHeartbeats 4000000 in
set_option maxRecDepth 100000 in
theorem lc_use (E : L_E p l s m meth c b L xs D tI tZ tL) (A : L_A s xo ax ay uo) (hR : RR σ μ td np nr) (hY : YY μ τ υ td np nr T) (hT : T < 110) (htd : td ≤ 4 * T) (hcap : cells + 1 ≤ room_1.cells ∧ slots + 6 ≤ room_1.slots) (v : Int32) (act rec sub pu st : Nat) (hrec : rec ≤ nr) (hsub : sub < 6) (hpu : pu < np) (hst : st < 2 ^ np) (hPx : va_P D vwCl (x_W tI tZ xo ax σ) H) (hPy : va_P D vwCl (y_W tI tZ 0 ay τ) H) (hPu : va_P D vwCl (u_W tL uo υ) H) (hS : va_S (L_g s) s.heap H locs) (hl : lv_has ls 23 [(20, .int 0), (19, .int 0), (18, .int (nI st)), (17, .int (nI pu)), (16, .int (nI sub)), (15, .int (nI rec)), (14, .int (nI act)), (13, .int v), (12, .int (nI i)), (11, .ref uo), (10, .ref (ay 8)), (9, .ref (ay 7)), (8, .ref (ay 6)), (7, .ref (ay 5)), (6, .ref (ay 4)), (5, .ref (ay 3)), (4, .ref (ay 2)), (3, .ref (ay 1)), (2, .ref (ay 0)), (1, .ref xo), (0, .ref b)]) (kk : ∀ (σ' τ' : ST) (υ' : Nat → Int64) (due : Int32) (H' : Heap) (locs' : List Loc) (ls' : Array Slot), ZZ σ' τ' υ' (T + 1) → va_P D vwCl (x_W tI tZ xo ax σ') H' → va_P D vwCl (y_W tI tZ 0 ay τ') H' → va_P D vwCl (u_W tL uo υ') H' → va_S (L_g s) s.heap H' locs' → lv_has ls' 23 (L_w b xo ay uo i due) → W p l e room_1 s m #[Value.ref b] below meth c H' locs' (cells + 1) (slots + 6) Q (F0 m 1225 ls' [])) : W p l e room_1 s m #[Value.ref b] below meth c H locs cells slots Q (F0 m 712 ls []) := by
  obtain ⟨hx, hb, hml, hown, hts, hX, hbl, hK, hE, hlf, hL⟩ := E
  have hn30 := R_nr hR
  have hn8 := R_np hR
  have hc0 : cells ≤ room_1.cells ∧ slots ≤ room_1.slots := ⟨by have := hcap.1; omega, by have := hcap.2; omega⟩
  refine lv_iload hx hb dL_law_712 (lv_at hl 5 rfl) ?_
  refine lv_aload_n hx hb dL_law_714 rfl (lv_at hl 18 rfl) ?_
  refine lv_iconst (v := 2) hx hb dL_law_715 (by decide) ?_
  refine lv_topc (y := nI 2) rfl ?_
  refine yr_q (j := 2) hx hb hK hPy (by omega) dL_law_716 ?_
  refine lv_icmp_ge (tgt := 744) hx hb dL_law_717 (by decide) (fun c717 => ?_) (fun c717 => ?_)
  · have hrn : nr ≤ rec := by rw [Y_q2 hY] at c717; exact (nI_leI (by omega) (by omega)).mp c717
    refine lv_iconst (v := 0) hx hb dL_law_744 (by decide) ?_
    refine lv_istore (lv' := [(21, .int 0), (20, .int 0), (19, .int 0), (18, .int (nI st)), (17, .int (nI pu)), (16, .int (nI sub)), (15, .int (nI rec)), (14, .int (nI act)), (13, .int v), (12, .int (nI i)), (11, .ref uo), (10, .ref (ay 8)), (9, .ref (ay 7)), (8, .ref (ay 6)), (7, .ref (ay 5)), (6, .ref (ay 4)), (5, .ref (ay 3)), (4, .ref (ay 2)), (3, .ref (ay 1)), (2, .ref (ay 0)), (1, .ref xo), (0, .ref b)]) hx hb dL_law_745 hl (by decide) rfl (fun ls hl => ?_)
    refine lv_iload hx hb dL_law_747 (lv_at hl 0 rfl) ?_
    refine lv_if_eq (tgt := 785) hx hb dL_law_749 (by decide) (fun c749 => ?_) (fun c749 => absurd (by decide) c749)
    refine lv_iload hx hb dL_law_785 (lv_at hl 0 rfl) ?_
    refine lv_if_eq (tgt := 795) hx hb dL_law_787 (by decide) (fun c787 => ?_) (fun c787 => absurd (by decide) c787)
    refine lv_iload hx hb dL_law_795 (lv_at hl 6 rfl) ?_
    refine lv_aload_n hx hb dL_law_797 rfl (lv_at hl 19 rfl) ?_
    refine lv_iconst (v := 2) hx hb dL_law_798 (by decide) ?_
    refine lv_topc (y := nI 2) rfl ?_
    refine yr_q (j := 2) hx hb hK hPy (by omega) dL_law_799 ?_
    refine lv_icmp_ge (tgt := 808) hx hb dL_law_800 (by decide) (fun c800 => ?_) (fun c800 => absurd c717 c800)
    refine lv_iconst (v := (-1)) hx hb dL_law_808 (by decide) ?_
    refine lv_istore (lv' := [(19, .int (-1)), (21, .int 0), (20, .int 0), (18, .int (nI st)), (17, .int (nI pu)), (16, .int (nI sub)), (15, .int (nI rec)), (14, .int (nI act)), (13, .int v), (12, .int (nI i)), (11, .ref uo), (10, .ref (ay 8)), (9, .ref (ay 7)), (8, .ref (ay 6)), (7, .ref (ay 5)), (6, .ref (ay 4)), (5, .ref (ay 3)), (4, .ref (ay 2)), (3, .ref (ay 1)), (2, .ref (ay 0)), (1, .ref xo), (0, .ref b)]) hx hb dL_law_809 hl (by decide) rfl (fun ls hl => ?_)
    refine lv_aload_n hx hb dL_law_811 rfl (lv_at hl 20 rfl) ?_
    refine lv_iconst (v := 4) hx hb dL_law_812 (by decide) ?_
    refine lv_iload hx hb dL_law_813 (lv_at hl 6 rfl) ?_
    refine lv_iload hx hb dL_law_815 (lv_at hl 4 rfl) ?_
    obtain ⟨code, val, σ', hxo, hv9, hZ⟩ := St_use1 hR hY hT htd (r := rec) (nI pu) hrn (by omega)
    refine k_L_calls_use D tI tZ tL xo ax σ (nI rec) (nI pu) code val σ' hxo hlf (A_x A) ⟨hx, hb, hml, hown, hts⟩ gL_law_L_calls ⟨Nat.le_of_ble_eq_true rfl, Nat.le_of_ble_eq_true rfl⟩ hl.1 hcap (Nat.le_of_ble_eq_true rfl) hK hPx (w_Emv hE hS) hS (A_xg A) dL_law_817 (fun H locs hPx hz hk hS => ?_)
    replace hPy := y_kept9 hPy (fun q h1 h2 => hk q h1 (A_yx A q h2))
    replace hPu := u_kept9 hPu (hk uo (u_lt9 hPu) (A_ux A))
    refine lv_topc (y := (-1)) hv9 ?_
    refine lv_istore (lv' := [(20, .int (-1)), (19, .int (-1)), (21, .int 0), (18, .int (nI st)), (17, .int (nI pu)), (16, .int (nI sub)), (15, .int (nI rec)), (14, .int (nI act)), (13, .int v), (12, .int (nI i)), (11, .ref uo), (10, .ref (ay 8)), (9, .ref (ay 7)), (8, .ref (ay 6)), (7, .ref (ay 5)), (6, .ref (ay 4)), (5, .ref (ay 3)), (4, .ref (ay 2)), (3, .ref (ay 1)), (2, .ref (ay 0)), (1, .ref xo), (0, .ref b)]) hx hb dL_law_820 hl (by decide) rfl (fun ls hl => ?_)
    refine lv_goto (tgt := 1225) hx hb dL_law_822 (by decide) ?_
    exact kk σ' τ υ (-1) _ _ _ hZ hPx hPy hPu hS (lv_sub hl [0, 1, 9, 10, 11, 12, 13, 14, 15, 16, 17, 18, 19, 20, 21] rfl)
  · have hrn : rec < nr := Nat.not_le.mp (fun g => c717 (by rw [Y_q2 hY]; exact nI_le g (by omega)))
    refine lv_iload hx hb dL_law_720 (lv_at hl 5 rfl) ?_
    refine lv_iload hx hb dL_law_722 (lv_at hl 3 rfl) ?_
    refine lv_aload_n hx hb dL_law_724 rfl (lv_at hl 18 rfl) ?_
    refine lv_aload_n hx hb dL_law_725 rfl (lv_at hl 17 rfl) ?_
    refine lv_aload hx hb dL_law_726 (lv_at hl 16 rfl) ?_
    refine lv_aload hx hb dL_law_728 (lv_at hl 14 rfl) ?_
    refine lv_aload hx hb dL_law_730 (lv_at hl 13 rfl) ?_
    refine lv_aload hx hb dL_law_732 (lv_at hl 12 rfl) ?_
    refine k_L_reason D tI tZ tL 0 ay τ rec pu (by omega) (by omega) ⟨hx, hb, hml, hown, hts⟩ gL_law_L_reason ⟨Nat.le_of_ble_eq_true rfl, Nat.le_of_ble_eq_true rfl⟩ hl.1 hc0 (Nat.le_of_ble_eq_true rfl) hK hPy dL_law_734 ?_
    refine lv_if_ne (tgt := 744) hx hb dL_law_737 (by decide) (fun c737 => ?_) (fun c737 => ?_)
    · refine lv_iconst (v := 0) hx hb dL_law_744 (by decide) ?_
      refine lv_istore (lv' := [(21, .int 0), (20, .int 0), (19, .int 0), (18, .int (nI st)), (17, .int (nI pu)), (16, .int (nI sub)), (15, .int (nI rec)), (14, .int (nI act)), (13, .int v), (12, .int (nI i)), (11, .ref uo), (10, .ref (ay 8)), (9, .ref (ay 7)), (8, .ref (ay 6)), (7, .ref (ay 5)), (6, .ref (ay 4)), (5, .ref (ay 3)), (4, .ref (ay 2)), (3, .ref (ay 1)), (2, .ref (ay 0)), (1, .ref xo), (0, .ref b)]) hx hb dL_law_745 hl (by decide) rfl (fun ls hl => ?_)
      refine lv_iload hx hb dL_law_747 (lv_at hl 0 rfl) ?_
      refine lv_if_eq (tgt := 785) hx hb dL_law_749 (by decide) (fun c749 => ?_) (fun c749 => absurd (by decide) c749)
      refine lv_iload hx hb dL_law_785 (lv_at hl 0 rfl) ?_
      refine lv_if_eq (tgt := 795) hx hb dL_law_787 (by decide) (fun c787 => ?_) (fun c787 => absurd (by decide) c787)
      refine lv_iload hx hb dL_law_795 (lv_at hl 6 rfl) ?_
      refine lv_aload_n hx hb dL_law_797 rfl (lv_at hl 19 rfl) ?_
      refine lv_iconst (v := 2) hx hb dL_law_798 (by decide) ?_
      refine lv_topc (y := nI 2) rfl ?_
      refine yr_q (j := 2) hx hb hK hPy (by omega) dL_law_799 ?_
      refine lv_icmp_ge (tgt := 808) hx hb dL_law_800 (by decide) (fun c800 => absurd c800 c717) (fun c800 => ?_)
      refine lv_bipush (v := (-3)) hx hb dL_law_803 (by decide) ?_
      refine lv_goto (tgt := 809) hx hb dL_law_805 (by decide) ?_
      refine lv_istore (lv' := [(19, .int (-3)), (21, .int 0), (20, .int 0), (18, .int (nI st)), (17, .int (nI pu)), (16, .int (nI sub)), (15, .int (nI rec)), (14, .int (nI act)), (13, .int v), (12, .int (nI i)), (11, .ref uo), (10, .ref (ay 8)), (9, .ref (ay 7)), (8, .ref (ay 6)), (7, .ref (ay 5)), (6, .ref (ay 4)), (5, .ref (ay 3)), (4, .ref (ay 2)), (3, .ref (ay 1)), (2, .ref (ay 0)), (1, .ref xo), (0, .ref b)]) hx hb dL_law_809 hl (by decide) rfl (fun ls hl => ?_)
      refine lv_aload_n hx hb dL_law_811 rfl (lv_at hl 20 rfl) ?_
      refine lv_iconst (v := 4) hx hb dL_law_812 (by decide) ?_
      refine lv_iload hx hb dL_law_813 (lv_at hl 6 rfl) ?_
      refine lv_iload hx hb dL_law_815 (lv_at hl 4 rfl) ?_
      obtain ⟨code, val, σ', hxo, hv9, hZ⟩ := St_useN hR hY hT htd hrn hpu c737
      refine k_L_calls_use D tI tZ tL xo ax σ (nI rec) (nI pu) code val σ' hxo hlf (A_x A) ⟨hx, hb, hml, hown, hts⟩ gL_law_L_calls ⟨Nat.le_of_ble_eq_true rfl, Nat.le_of_ble_eq_true rfl⟩ hl.1 hcap (Nat.le_of_ble_eq_true rfl) hK hPx (w_Emv hE hS) hS (A_xg A) dL_law_817 (fun H locs hPx hz hk hS => ?_)
      replace hPy := y_kept9 hPy (fun q h1 h2 => hk q h1 (A_yx A q h2))
      replace hPu := u_kept9 hPu (hk uo (u_lt9 hPu) (A_ux A))
      refine lv_topc (y := (-3)) hv9 ?_
      refine lv_istore (lv' := [(20, .int (-3)), (19, .int (-3)), (21, .int 0), (18, .int (nI st)), (17, .int (nI pu)), (16, .int (nI sub)), (15, .int (nI rec)), (14, .int (nI act)), (13, .int v), (12, .int (nI i)), (11, .ref uo), (10, .ref (ay 8)), (9, .ref (ay 7)), (8, .ref (ay 6)), (7, .ref (ay 5)), (6, .ref (ay 4)), (5, .ref (ay 3)), (4, .ref (ay 2)), (3, .ref (ay 1)), (2, .ref (ay 0)), (1, .ref xo), (0, .ref b)]) hx hb dL_law_820 hl (by decide) rfl (fun ls hl => ?_)
      refine lv_goto (tgt := 1225) hx hb dL_law_822 (by decide) ?_
      exact kk σ' τ υ (-3) _ _ _ hZ hPx hPy hPu hS (lv_sub hl [0, 1, 9, 10, 11, 12, 13, 14, 15, 16, 17, 18, 19, 20, 21] rfl)
    · refine lv_iconst (v := 1) hx hb dL_law_740 (by decide) ?_
      refine lv_goto (tgt := 745) hx hb dL_law_741 (by decide) ?_
      refine lv_istore (lv' := [(21, .int 1), (20, .int 0), (19, .int 0), (18, .int (nI st)), (17, .int (nI pu)), (16, .int (nI sub)), (15, .int (nI rec)), (14, .int (nI act)), (13, .int v), (12, .int (nI i)), (11, .ref uo), (10, .ref (ay 8)), (9, .ref (ay 7)), (8, .ref (ay 6)), (7, .ref (ay 5)), (6, .ref (ay 4)), (5, .ref (ay 3)), (4, .ref (ay 2)), (3, .ref (ay 1)), (2, .ref (ay 0)), (1, .ref xo), (0, .ref b)]) hx hb dL_law_745 hl (by decide) rfl (fun ls hl => ?_)
      refine lv_iload hx hb dL_law_747 (lv_at hl 0 rfl) ?_
      refine lv_if_eq (tgt := 785) hx hb dL_law_749 (by decide) (fun c749 => absurd c749 (by decide)) (fun c749 => ?_)
      refine lv_aload hx hb dL_law_752 (lv_at hl 10 rfl) ?_
      refine lv_iload hx hb dL_law_754 (lv_at hl 6 rfl) ?_
      refine lv_dup2_11 hx hb dL_law_756 rfl rfl ?_
      refine ur_u (j := rec) hx hb hK hPu (by omega) dL_law_757 ?_
      refine lv_lconst (v := 1) hx hb dL_law_758 (by decide) ?_
      refine lv_bipush (v := 7) hx hb dL_law_759 (by decide) ?_
      refine lv_iload hx hb dL_law_761 (lv_at hl 4 rfl) ?_
      refine lv_imul hx hb dL_law_763 ?_
      refine lv_topc (y := nI (7 * pu)) (by rw [show (7 : Int32) = nI 7 from rfl, pk_mul]) ?_
      refine lv_lshl hx hb dL_law_764 rfl ?_
      refine lv_ladd hx hb dL_law_765 ?_
      refine zu (j := rec) hx hb hK hPx hPy hPu A hS (by omega) dL_law_766 (fun H locs hPx hPy hPu hS => ?_)
      refine lv_aload hx hb dL_law_767 (lv_at hl 10 rfl) ?_
      refine lv_iload hx hb dL_law_769 (lv_at hl 6 rfl) ?_
      refine ur_u (j := rec) hx hb hK hPu (by omega) dL_law_771 ?_
      refine lv_topl9 (y := υ rec + 1 <<< ((nI (7 * pu)).toInt64 &&& 63)) (vp_updL_self) ?_
      refine lv_bipush (v := 7) hx hb dL_law_772 (by decide) ?_
      refine lv_iload hx hb dL_law_774 (lv_at hl 4 rfl) ?_
      refine lv_imul hx hb dL_law_776 ?_
      refine lv_topc (y := nI (7 * pu)) (by rw [show (7 : Int32) = nI 7 from rfl, pk_mul]) ?_
      refine lv_lshr hx hb dL_law_777 rfl ?_
      refine lv_ldc2 hx hb hown (hts (.constantLong RL 111 127) (by decide +kernel)) dL_law_778 ?_
      refine lv_land hx hb dL_law_781 ?_
      refine lv_l2i hx hb dL_law_782 rfl ?_
      refine lv_topc (y := μ.2 13 (8 * rec + pu) + 1) (Y_used hY hT (by omega) (by omega)) ?_
      refine lv_istore (lv' := [(19, .int (μ.2 13 (8 * rec + pu) + 1)), (21, .int 1), (20, .int 0), (18, .int (nI st)), (17, .int (nI pu)), (16, .int (nI sub)), (15, .int (nI rec)), (14, .int (nI act)), (13, .int v), (12, .int (nI i)), (11, .ref uo), (10, .ref (ay 8)), (9, .ref (ay 7)), (8, .ref (ay 6)), (7, .ref (ay 5)), (6, .ref (ay 4)), (5, .ref (ay 3)), (4, .ref (ay 2)), (3, .ref (ay 1)), (2, .ref (ay 0)), (1, .ref xo), (0, .ref b)]) hx hb dL_law_783 hl (by decide) rfl (fun ls hl => ?_)
      refine lv_iload hx hb dL_law_785 (lv_at hl 1 rfl) ?_
      refine lv_if_eq (tgt := 795) hx hb dL_law_787 (by decide) (fun c787 => absurd c787 (by decide)) (fun c787 => ?_)
      refine lv_iload hx hb dL_law_790 (lv_at hl 0 rfl) ?_
      refine lv_goto (tgt := 809) hx hb dL_law_792 (by decide) ?_
      refine lv_istore (lv' := [(19, .int (μ.2 13 (8 * rec + pu) + 1)), (21, .int 1), (20, .int 0), (18, .int (nI st)), (17, .int (nI pu)), (16, .int (nI sub)), (15, .int (nI rec)), (14, .int (nI act)), (13, .int v), (12, .int (nI i)), (11, .ref uo), (10, .ref (ay 8)), (9, .ref (ay 7)), (8, .ref (ay 6)), (7, .ref (ay 5)), (6, .ref (ay 4)), (5, .ref (ay 3)), (4, .ref (ay 2)), (3, .ref (ay 1)), (2, .ref (ay 0)), (1, .ref xo), (0, .ref b)]) hx hb dL_law_809 hl (by decide) rfl (fun ls hl => ?_)
      refine lv_aload_n hx hb dL_law_811 rfl (lv_at hl 20 rfl) ?_
      refine lv_iconst (v := 4) hx hb dL_law_812 (by decide) ?_
      refine lv_iload hx hb dL_law_813 (lv_at hl 6 rfl) ?_
      refine lv_iload hx hb dL_law_815 (lv_at hl 4 rfl) ?_
      obtain ⟨code, val, σ', hxo, hv9, hZ⟩ := St_use hR hY hT htd hrn hpu c737
      refine k_L_calls_use D tI tZ tL xo ax σ (nI rec) (nI pu) code val σ' hxo hlf (A_x A) ⟨hx, hb, hml, hown, hts⟩ gL_law_L_calls ⟨Nat.le_of_ble_eq_true rfl, Nat.le_of_ble_eq_true rfl⟩ hl.1 hcap (Nat.le_of_ble_eq_true rfl) hK hPx (w_Emv hE hS) hS (A_xg A) dL_law_817 (fun H locs hPx hz hk hS => ?_)
      replace hPy := y_kept9 hPy (fun q h1 h2 => hk q h1 (A_yx A q h2))
      replace hPu := u_kept9 hPu (hk uo (u_lt9 hPu) (A_ux A))
      refine lv_topc (y := (μ.2 13 (8 * rec + pu) + 1)) hv9 ?_
      refine lv_istore (lv' := [(20, .int (μ.2 13 (8 * rec + pu) + 1)), (19, .int (μ.2 13 (8 * rec + pu) + 1)), (21, .int 1), (18, .int (nI st)), (17, .int (nI pu)), (16, .int (nI sub)), (15, .int (nI rec)), (14, .int (nI act)), (13, .int v), (12, .int (nI i)), (11, .ref uo), (10, .ref (ay 8)), (9, .ref (ay 7)), (8, .ref (ay 6)), (7, .ref (ay 5)), (6, .ref (ay 4)), (5, .ref (ay 3)), (4, .ref (ay 2)), (3, .ref (ay 1)), (2, .ref (ay 0)), (1, .ref xo), (0, .ref b)]) hx hb dL_law_820 hl (by decide) rfl (fun ls hl => ?_)
      refine lv_goto (tgt := 1225) hx hb dL_law_822 (by decide) ?_
      exact kk σ' τ (vp_updL υ rec ((υ rec) + (1 <<< ((nI (7 * pu)).toInt64 &&& 63)))) (μ.2 13 (8 * rec + pu) + 1) _ _ _ hZ hPx hPy hPu hS (lv_sub hl [0, 1, 9, 10, 11, 12, 13, 14, 15, 16, 17, 18, 19, 20, 21] rfl)

set_option maxHeartbeats 4000000 in
set_option maxRecDepth 100000 in
theorem lc_hold (E : L_E p l s m meth c b L xs D tI tZ tL) (A : L_A s xo ax ay uo) (hR : RR σ μ td np nr) (hY : YY μ τ υ td np nr T) (hT : T < 110) (htd : td ≤ 4 * T) (hcap : cells + 1 ≤ room_1.cells ∧ slots + 6 ≤ room_1.slots) (v : Int32) (act rec sub pu st : Nat) (hrec : rec ≤ nr) (hsub : sub < 6) (hpu : pu < np) (hst : st < 2 ^ np) (hPx : va_P D vwCl (x_W tI tZ xo ax σ) H) (hPy : va_P D vwCl (y_W tI tZ 0 ay τ) H) (hPu : va_P D vwCl (u_W tL uo υ) H) (hS : va_S (L_g s) s.heap H locs) (hl : lv_has ls 23 [(20, .int 0), (19, .int 0), (18, .int (nI st)), (17, .int (nI pu)), (16, .int (nI sub)), (15, .int (nI rec)), (14, .int (nI act)), (13, .int v), (12, .int (nI i)), (11, .ref uo), (10, .ref (ay 8)), (9, .ref (ay 7)), (8, .ref (ay 6)), (7, .ref (ay 5)), (6, .ref (ay 4)), (5, .ref (ay 3)), (4, .ref (ay 2)), (3, .ref (ay 1)), (2, .ref (ay 0)), (1, .ref xo), (0, .ref b)]) (kk : ∀ (σ' τ' : ST) (υ' : Nat → Int64) (due : Int32) (H' : Heap) (locs' : List Loc) (ls' : Array Slot), ZZ σ' τ' υ' (T + 1) → va_P D vwCl (x_W tI tZ xo ax σ') H' → va_P D vwCl (y_W tI tZ 0 ay τ') H' → va_P D vwCl (u_W tL uo υ') H' → va_S (L_g s) s.heap H' locs' → lv_has ls' 23 (L_w b xo ay uo i due) → W p l e room_1 s m #[Value.ref b] below meth c H' locs' (cells + 1) (slots + 6) Q (F0 m 1225 ls' [])) : W p l e room_1 s m #[Value.ref b] below meth c H locs cells slots Q (F0 m 832 ls []) := by
  obtain ⟨hx, hb, hml, hown, hts, hX, hbl, hK, hE, hlf, hL⟩ := E
  have hn30 := R_nr hR
  have hn8 := R_np hR
  have hc0 : cells ≤ room_1.cells ∧ slots ≤ room_1.slots := ⟨by have := hcap.1; omega, by have := hcap.2; omega⟩
  refine lv_iload hx hb dL_law_832 (lv_at hl 7 rfl) ?_
  refine lv_bipush (v := 10) hx hb dL_law_834 (by decide) ?_
  refine lv_ishr hx hb dL_law_836 ?_
  refine lv_bipush (v := 6) hx hb dL_law_837 (by decide) ?_
  refine k_L_low (v >>> (10 &&& 31)) 6 (by omega) (by omega) ⟨hx, hb, hml, hown, hts⟩ gL_law_L_low ⟨Nat.le_of_ble_eq_true rfl, Nat.le_of_ble_eq_true rfl⟩ hl.1 hc0 (Nat.le_of_ble_eq_true rfl) dL_law_839 ?_
  obtain ⟨ho, hho, eho⟩ := y_low_lt (v >>> (10 &&& 31)) (n := 6) (by omega) (by omega)
  refine lv_topc (y := nI ho) (eho) ?_
  refine lv_istore (lv' := [(21, .int (nI ho)), (20, .int 0), (19, .int 0), (18, .int (nI st)), (17, .int (nI pu)), (16, .int (nI sub)), (15, .int (nI rec)), (14, .int (nI act)), (13, .int v), (12, .int (nI i)), (11, .ref uo), (10, .ref (ay 8)), (9, .ref (ay 7)), (8, .ref (ay 6)), (7, .ref (ay 5)), (6, .ref (ay 4)), (5, .ref (ay 3)), (4, .ref (ay 2)), (3, .ref (ay 1)), (2, .ref (ay 0)), (1, .ref xo), (0, .ref b)]) hx hb dL_law_842 hl (by decide) rfl (fun ls hl => ?_)
  refine lv_iload hx hb dL_law_844 (lv_at hl 6 rfl) ?_
  refine lv_aload_n hx hb dL_law_846 rfl (lv_at hl 19 rfl) ?_
  refine lv_iconst (v := 2) hx hb dL_law_847 (by decide) ?_
  refine lv_topc (y := nI 2) rfl ?_
  refine yr_q (j := 2) hx hb hK hPy (by omega) dL_law_848 ?_
  refine lv_icmp_ge (tgt := 880) hx hb dL_law_849 (by decide) (fun c849 => ?_) (fun c849 => ?_)
  · have hrn : nr ≤ rec := by rw [Y_q2 hY] at c849; exact (nI_leI (by omega) (by omega)).mp c849
    refine lv_iconst (v := 0) hx hb dL_law_880 (by decide) ?_
    refine lv_istore (lv' := [(22, .int 0), (21, .int (nI ho)), (20, .int 0), (19, .int 0), (18, .int (nI st)), (17, .int (nI pu)), (16, .int (nI sub)), (15, .int (nI rec)), (14, .int (nI act)), (13, .int v), (12, .int (nI i)), (11, .ref uo), (10, .ref (ay 8)), (9, .ref (ay 7)), (8, .ref (ay 6)), (7, .ref (ay 5)), (6, .ref (ay 4)), (5, .ref (ay 3)), (4, .ref (ay 2)), (3, .ref (ay 1)), (2, .ref (ay 0)), (1, .ref xo), (0, .ref b)]) hx hb dL_law_881 hl (by decide) rfl (fun ls hl => ?_)
    refine lv_aload_n hx hb dL_law_883 rfl (lv_at hl 19 rfl) ?_
    refine lv_bipush (v := 22) hx hb dL_law_884 (by decide) ?_
    refine lv_iload hx hb dL_law_886 (lv_at hl 1 rfl) ?_
    refine lv_iadd hx hb dL_law_888 ?_
    refine lv_topc (y := nI (22 + ho)) (y_ad 22 ho) ?_
    refine lv_dup2_11 hx hb dL_law_889 rfl rfl ?_
    refine yr_p (j := 22 + ho) hx hb hK hPy (by omega) dL_law_890 ?_
    refine lv_iload hx hb dL_law_891 (lv_at hl 0 rfl) ?_
    refine lv_if_eq (tgt := 903) hx hb dL_law_893 (by decide) (fun c893 => ?_) (fun c893 => absurd (by decide) c893)
    refine lv_iconst (v := 0) hx hb dL_law_903 (by decide) ?_
    refine lv_iadd hx hb dL_law_904 ?_
    refine lv_topc (y := τ.2 1 (22 + ho)) (add0 _) ?_
    refine zw_p (j := 22 + ho) hx hb hK hPx hPy hPu A hS (by omega) dL_law_905 (fun H locs hPx hPy hPu hS => ?_)
    refine lv_iload hx hb dL_law_906 (lv_at hl 0 rfl) ?_
    refine lv_if_eq (tgt := 924) hx hb dL_law_908 (by decide) (fun c908 => ?_) (fun c908 => absurd (by decide) c908)
    refine lv_iload hx hb dL_law_924 (lv_at hl 7 rfl) ?_
    refine lv_aload_n hx hb dL_law_926 rfl (lv_at hl 20 rfl) ?_
    refine lv_iconst (v := 2) hx hb dL_law_927 (by decide) ?_
    refine lv_topc (y := nI 2) rfl ?_
    refine yr_q (j := 2) hx hb hK hPy (by omega) dL_law_928 ?_
    refine lv_icmp_ge (tgt := 937) hx hb dL_law_929 (by decide) (fun c929 => ?_) (fun c929 => absurd c849 c929)
    refine lv_iconst (v := (-1)) hx hb dL_law_937 (by decide) ?_
    refine lv_istore (lv' := [(19, .int (-1)), (22, .int 0), (21, .int (nI ho)), (20, .int 0), (18, .int (nI st)), (17, .int (nI pu)), (16, .int (nI sub)), (15, .int (nI rec)), (14, .int (nI act)), (13, .int v), (12, .int (nI i)), (11, .ref uo), (10, .ref (ay 8)), (9, .ref (ay 7)), (8, .ref (ay 6)), (7, .ref (ay 5)), (6, .ref (ay 4)), (5, .ref (ay 3)), (4, .ref (ay 2)), (3, .ref (ay 1)), (2, .ref (ay 0)), (1, .ref xo), (0, .ref b)]) hx hb dL_law_938 hl (by decide) rfl (fun ls hl => ?_)
    refine lv_aload_n hx hb dL_law_940 rfl (lv_at hl 21 rfl) ?_
    refine lv_iconst (v := 5) hx hb dL_law_941 (by decide) ?_
    refine lv_iload hx hb dL_law_942 (lv_at hl 2 rfl) ?_
    refine lv_iload hx hb dL_law_944 (lv_at hl 7 rfl) ?_
    obtain ⟨code, val, σ', hxo, hv9, hZ⟩ := St_hold1 hR hY hT htd (i := ho) (r := rec) hho hrn (by omega)
    refine k_L_calls_hold D tI tZ tL xo ax σ (nI ho) (nI rec) code val σ' hxo hlf (A_x A) ⟨hx, hb, hml, hown, hts⟩ gL_law_L_calls ⟨Nat.le_of_ble_eq_true rfl, Nat.le_of_ble_eq_true rfl⟩ hl.1 hcap (Nat.le_of_ble_eq_true rfl) hK hPx (w_Emv hE hS) hS (A_xg A) dL_law_946 (fun H locs hPx hz hk hS => ?_)
    replace hPy := y_kept9 hPy (fun q h1 h2 => hk q h1 (A_yx A q h2))
    replace hPu := u_kept9 hPu (hk uo (u_lt9 hPu) (A_ux A))
    refine lv_topc (y := (-1)) hv9 ?_
    refine lv_istore (lv' := [(20, .int (-1)), (19, .int (-1)), (22, .int 0), (21, .int (nI ho)), (18, .int (nI st)), (17, .int (nI pu)), (16, .int (nI sub)), (15, .int (nI rec)), (14, .int (nI act)), (13, .int v), (12, .int (nI i)), (11, .ref uo), (10, .ref (ay 8)), (9, .ref (ay 7)), (8, .ref (ay 6)), (7, .ref (ay 5)), (6, .ref (ay 4)), (5, .ref (ay 3)), (4, .ref (ay 2)), (3, .ref (ay 1)), (2, .ref (ay 0)), (1, .ref xo), (0, .ref b)]) hx hb dL_law_949 hl (by decide) rfl (fun ls hl => ?_)
    refine lv_goto (tgt := 1225) hx hb dL_law_951 (by decide) ?_
    exact kk σ' (s_put τ 1 (22 + ho) (τ.2 1 (22 + ho))) υ (-1) _ _ _ hZ hPx hPy hPu hS (lv_sub hl [0, 1, 10, 11, 12, 13, 14, 15, 16, 17, 18, 19, 20, 21, 22] rfl)
  · have hrn : rec < nr := Nat.not_le.mp (fun g => c849 (by rw [Y_q2 hY]; exact nI_le g (by omega)))
    refine lv_aload hx hb dL_law_852 (lv_at hl 13 rfl) ?_
    refine lv_iload hx hb dL_law_854 (lv_at hl 6 rfl) ?_
    refine yr_t (j := rec) hx hb hK hPy (by omega) dL_law_856 ?_
    refine lv_iconst (v := 2) hx hb dL_law_857 (by decide) ?_
    refine lv_icmp_ge (tgt := 880) hx hb dL_law_858 (by decide) (fun c858 => ?_) (fun c858 => ?_)
    · refine lv_iconst (v := 0) hx hb dL_law_880 (by decide) ?_
      refine lv_istore (lv' := [(22, .int 0), (21, .int (nI ho)), (20, .int 0), (19, .int 0), (18, .int (nI st)), (17, .int (nI pu)), (16, .int (nI sub)), (15, .int (nI rec)), (14, .int (nI act)), (13, .int v), (12, .int (nI i)), (11, .ref uo), (10, .ref (ay 8)), (9, .ref (ay 7)), (8, .ref (ay 6)), (7, .ref (ay 5)), (6, .ref (ay 4)), (5, .ref (ay 3)), (4, .ref (ay 2)), (3, .ref (ay 1)), (2, .ref (ay 0)), (1, .ref xo), (0, .ref b)]) hx hb dL_law_881 hl (by decide) rfl (fun ls hl => ?_)
      refine lv_aload_n hx hb dL_law_883 rfl (lv_at hl 19 rfl) ?_
      refine lv_bipush (v := 22) hx hb dL_law_884 (by decide) ?_
      refine lv_iload hx hb dL_law_886 (lv_at hl 1 rfl) ?_
      refine lv_iadd hx hb dL_law_888 ?_
      refine lv_topc (y := nI (22 + ho)) (y_ad 22 ho) ?_
      refine lv_dup2_11 hx hb dL_law_889 rfl rfl ?_
      refine yr_p (j := 22 + ho) hx hb hK hPy (by omega) dL_law_890 ?_
      refine lv_iload hx hb dL_law_891 (lv_at hl 0 rfl) ?_
      refine lv_if_eq (tgt := 903) hx hb dL_law_893 (by decide) (fun c893 => ?_) (fun c893 => absurd (by decide) c893)
      refine lv_iconst (v := 0) hx hb dL_law_903 (by decide) ?_
      refine lv_iadd hx hb dL_law_904 ?_
      refine lv_topc (y := τ.2 1 (22 + ho)) (add0 _) ?_
      refine zw_p (j := 22 + ho) hx hb hK hPx hPy hPu A hS (by omega) dL_law_905 (fun H locs hPx hPy hPu hS => ?_)
      refine lv_iload hx hb dL_law_906 (lv_at hl 0 rfl) ?_
      refine lv_if_eq (tgt := 924) hx hb dL_law_908 (by decide) (fun c908 => ?_) (fun c908 => absurd (by decide) c908)
      refine lv_iload hx hb dL_law_924 (lv_at hl 7 rfl) ?_
      refine lv_aload_n hx hb dL_law_926 rfl (lv_at hl 20 rfl) ?_
      refine lv_iconst (v := 2) hx hb dL_law_927 (by decide) ?_
      refine lv_topc (y := nI 2) rfl ?_
      refine yr_q (j := 2) hx hb hK hPy (by omega) dL_law_928 ?_
      refine lv_icmp_ge (tgt := 937) hx hb dL_law_929 (by decide) (fun c929 => absurd c929 c849) (fun c929 => ?_)
      refine lv_bipush (v := (-3)) hx hb dL_law_932 (by decide) ?_
      refine lv_goto (tgt := 938) hx hb dL_law_934 (by decide) ?_
      refine lv_istore (lv' := [(19, .int (-3)), (22, .int 0), (21, .int (nI ho)), (20, .int 0), (18, .int (nI st)), (17, .int (nI pu)), (16, .int (nI sub)), (15, .int (nI rec)), (14, .int (nI act)), (13, .int v), (12, .int (nI i)), (11, .ref uo), (10, .ref (ay 8)), (9, .ref (ay 7)), (8, .ref (ay 6)), (7, .ref (ay 5)), (6, .ref (ay 4)), (5, .ref (ay 3)), (4, .ref (ay 2)), (3, .ref (ay 1)), (2, .ref (ay 0)), (1, .ref xo), (0, .ref b)]) hx hb dL_law_938 hl (by decide) rfl (fun ls hl => ?_)
      refine lv_aload_n hx hb dL_law_940 rfl (lv_at hl 21 rfl) ?_
      refine lv_iconst (v := 5) hx hb dL_law_941 (by decide) ?_
      refine lv_iload hx hb dL_law_942 (lv_at hl 2 rfl) ?_
      refine lv_iload hx hb dL_law_944 (lv_at hl 7 rfl) ?_
      obtain ⟨code, val, σ', hxo, hv9, hZ⟩ := St_holdN hR hY hT htd (i := ho) hho hrn (Or.inl c858)
      refine k_L_calls_hold D tI tZ tL xo ax σ (nI ho) (nI rec) code val σ' hxo hlf (A_x A) ⟨hx, hb, hml, hown, hts⟩ gL_law_L_calls ⟨Nat.le_of_ble_eq_true rfl, Nat.le_of_ble_eq_true rfl⟩ hl.1 hcap (Nat.le_of_ble_eq_true rfl) hK hPx (w_Emv hE hS) hS (A_xg A) dL_law_946 (fun H locs hPx hz hk hS => ?_)
      replace hPy := y_kept9 hPy (fun q h1 h2 => hk q h1 (A_yx A q h2))
      replace hPu := u_kept9 hPu (hk uo (u_lt9 hPu) (A_ux A))
      refine lv_topc (y := (-3)) hv9 ?_
      refine lv_istore (lv' := [(20, .int (-3)), (19, .int (-3)), (22, .int 0), (21, .int (nI ho)), (18, .int (nI st)), (17, .int (nI pu)), (16, .int (nI sub)), (15, .int (nI rec)), (14, .int (nI act)), (13, .int v), (12, .int (nI i)), (11, .ref uo), (10, .ref (ay 8)), (9, .ref (ay 7)), (8, .ref (ay 6)), (7, .ref (ay 5)), (6, .ref (ay 4)), (5, .ref (ay 3)), (4, .ref (ay 2)), (3, .ref (ay 1)), (2, .ref (ay 0)), (1, .ref xo), (0, .ref b)]) hx hb dL_law_949 hl (by decide) rfl (fun ls hl => ?_)
      refine lv_goto (tgt := 1225) hx hb dL_law_951 (by decide) ?_
      exact kk σ' (s_put τ 1 (22 + ho) (τ.2 1 (22 + ho))) υ (-3) _ _ _ hZ hPx hPy hPu hS (lv_sub hl [0, 1, 10, 11, 12, 13, 14, 15, 16, 17, 18, 19, 20, 21, 22] rfl)
    · refine lv_aload_n hx hb dL_law_861 rfl (lv_at hl 18 rfl) ?_
      refine lv_bipush (v := 22) hx hb dL_law_862 (by decide) ?_
      refine lv_iload hx hb dL_law_864 (lv_at hl 0 rfl) ?_
      refine lv_iadd hx hb dL_law_866 ?_
      refine lv_topc (y := nI (22 + ho)) (y_ad 22 ho) ?_
      refine yr_p (j := 22 + ho) hx hb hK hPy (by omega) dL_law_867 ?_
      refine lv_iload hx hb dL_law_868 (lv_at hl 6 rfl) ?_
      refine k_L_has (τ.2 1 (22 + ho)) rec (by omega) ⟨hx, hb, hml, hown, hts⟩ gL_law_L_has ⟨Nat.le_of_ble_eq_true rfl, Nat.le_of_ble_eq_true rfl⟩ hl.1 hc0 (Nat.le_of_ble_eq_true rfl) dL_law_870 ?_
      refine lv_ifne_b (tgt := 880) hx hb dL_law_873 (by decide) (fun c873 => ?_) (fun c873 => ?_)
      · refine lv_iconst (v := 0) hx hb dL_law_880 (by decide) ?_
        refine lv_istore (lv' := [(22, .int 0), (21, .int (nI ho)), (20, .int 0), (19, .int 0), (18, .int (nI st)), (17, .int (nI pu)), (16, .int (nI sub)), (15, .int (nI rec)), (14, .int (nI act)), (13, .int v), (12, .int (nI i)), (11, .ref uo), (10, .ref (ay 8)), (9, .ref (ay 7)), (8, .ref (ay 6)), (7, .ref (ay 5)), (6, .ref (ay 4)), (5, .ref (ay 3)), (4, .ref (ay 2)), (3, .ref (ay 1)), (2, .ref (ay 0)), (1, .ref xo), (0, .ref b)]) hx hb dL_law_881 hl (by decide) rfl (fun ls hl => ?_)
        refine lv_aload_n hx hb dL_law_883 rfl (lv_at hl 19 rfl) ?_
        refine lv_bipush (v := 22) hx hb dL_law_884 (by decide) ?_
        refine lv_iload hx hb dL_law_886 (lv_at hl 1 rfl) ?_
        refine lv_iadd hx hb dL_law_888 ?_
        refine lv_topc (y := nI (22 + ho)) (y_ad 22 ho) ?_
        refine lv_dup2_11 hx hb dL_law_889 rfl rfl ?_
        refine yr_p (j := 22 + ho) hx hb hK hPy (by omega) dL_law_890 ?_
        refine lv_iload hx hb dL_law_891 (lv_at hl 0 rfl) ?_
        refine lv_if_eq (tgt := 903) hx hb dL_law_893 (by decide) (fun c893 => ?_) (fun c893 => absurd (by decide) c893)
        refine lv_iconst (v := 0) hx hb dL_law_903 (by decide) ?_
        refine lv_iadd hx hb dL_law_904 ?_
        refine lv_topc (y := τ.2 1 (22 + ho)) (add0 _) ?_
        refine zw_p (j := 22 + ho) hx hb hK hPx hPy hPu A hS (by omega) dL_law_905 (fun H locs hPx hPy hPu hS => ?_)
        refine lv_iload hx hb dL_law_906 (lv_at hl 0 rfl) ?_
        refine lv_if_eq (tgt := 924) hx hb dL_law_908 (by decide) (fun c908 => ?_) (fun c908 => absurd (by decide) c908)
        refine lv_iload hx hb dL_law_924 (lv_at hl 7 rfl) ?_
        refine lv_aload_n hx hb dL_law_926 rfl (lv_at hl 20 rfl) ?_
        refine lv_iconst (v := 2) hx hb dL_law_927 (by decide) ?_
        refine lv_topc (y := nI 2) rfl ?_
        refine yr_q (j := 2) hx hb hK hPy (by omega) dL_law_928 ?_
        refine lv_icmp_ge (tgt := 937) hx hb dL_law_929 (by decide) (fun c929 => absurd c929 c849) (fun c929 => ?_)
        refine lv_bipush (v := (-3)) hx hb dL_law_932 (by decide) ?_
        refine lv_goto (tgt := 938) hx hb dL_law_934 (by decide) ?_
        refine lv_istore (lv' := [(19, .int (-3)), (22, .int 0), (21, .int (nI ho)), (20, .int 0), (18, .int (nI st)), (17, .int (nI pu)), (16, .int (nI sub)), (15, .int (nI rec)), (14, .int (nI act)), (13, .int v), (12, .int (nI i)), (11, .ref uo), (10, .ref (ay 8)), (9, .ref (ay 7)), (8, .ref (ay 6)), (7, .ref (ay 5)), (6, .ref (ay 4)), (5, .ref (ay 3)), (4, .ref (ay 2)), (3, .ref (ay 1)), (2, .ref (ay 0)), (1, .ref xo), (0, .ref b)]) hx hb dL_law_938 hl (by decide) rfl (fun ls hl => ?_)
        refine lv_aload_n hx hb dL_law_940 rfl (lv_at hl 21 rfl) ?_
        refine lv_iconst (v := 5) hx hb dL_law_941 (by decide) ?_
        refine lv_iload hx hb dL_law_942 (lv_at hl 2 rfl) ?_
        refine lv_iload hx hb dL_law_944 (lv_at hl 7 rfl) ?_
        obtain ⟨code, val, σ', hxo, hv9, hZ⟩ := St_holdN hR hY hT htd (i := ho) hho hrn (Or.inr c873)
        refine k_L_calls_hold D tI tZ tL xo ax σ (nI ho) (nI rec) code val σ' hxo hlf (A_x A) ⟨hx, hb, hml, hown, hts⟩ gL_law_L_calls ⟨Nat.le_of_ble_eq_true rfl, Nat.le_of_ble_eq_true rfl⟩ hl.1 hcap (Nat.le_of_ble_eq_true rfl) hK hPx (w_Emv hE hS) hS (A_xg A) dL_law_946 (fun H locs hPx hz hk hS => ?_)
        replace hPy := y_kept9 hPy (fun q h1 h2 => hk q h1 (A_yx A q h2))
        replace hPu := u_kept9 hPu (hk uo (u_lt9 hPu) (A_ux A))
        refine lv_topc (y := (-3)) hv9 ?_
        refine lv_istore (lv' := [(20, .int (-3)), (19, .int (-3)), (22, .int 0), (21, .int (nI ho)), (18, .int (nI st)), (17, .int (nI pu)), (16, .int (nI sub)), (15, .int (nI rec)), (14, .int (nI act)), (13, .int v), (12, .int (nI i)), (11, .ref uo), (10, .ref (ay 8)), (9, .ref (ay 7)), (8, .ref (ay 6)), (7, .ref (ay 5)), (6, .ref (ay 4)), (5, .ref (ay 3)), (4, .ref (ay 2)), (3, .ref (ay 1)), (2, .ref (ay 0)), (1, .ref xo), (0, .ref b)]) hx hb dL_law_949 hl (by decide) rfl (fun ls hl => ?_)
        refine lv_goto (tgt := 1225) hx hb dL_law_951 (by decide) ?_
        exact kk σ' (s_put τ 1 (22 + ho) (τ.2 1 (22 + ho))) υ (-3) _ _ _ hZ hPx hPy hPu hS (lv_sub hl [0, 1, 10, 11, 12, 13, 14, 15, 16, 17, 18, 19, 20, 21, 22] rfl)
      · refine lv_iconst (v := 1) hx hb dL_law_876 (by decide) ?_
        refine lv_goto (tgt := 881) hx hb dL_law_877 (by decide) ?_
        refine lv_istore (lv' := [(22, .int 1), (21, .int (nI ho)), (20, .int 0), (19, .int 0), (18, .int (nI st)), (17, .int (nI pu)), (16, .int (nI sub)), (15, .int (nI rec)), (14, .int (nI act)), (13, .int v), (12, .int (nI i)), (11, .ref uo), (10, .ref (ay 8)), (9, .ref (ay 7)), (8, .ref (ay 6)), (7, .ref (ay 5)), (6, .ref (ay 4)), (5, .ref (ay 3)), (4, .ref (ay 2)), (3, .ref (ay 1)), (2, .ref (ay 0)), (1, .ref xo), (0, .ref b)]) hx hb dL_law_881 hl (by decide) rfl (fun ls hl => ?_)
        refine lv_aload_n hx hb dL_law_883 rfl (lv_at hl 19 rfl) ?_
        refine lv_bipush (v := 22) hx hb dL_law_884 (by decide) ?_
        refine lv_iload hx hb dL_law_886 (lv_at hl 1 rfl) ?_
        refine lv_iadd hx hb dL_law_888 ?_
        refine lv_topc (y := nI (22 + ho)) (y_ad 22 ho) ?_
        refine lv_dup2_11 hx hb dL_law_889 rfl rfl ?_
        refine yr_p (j := 22 + ho) hx hb hK hPy (by omega) dL_law_890 ?_
        refine lv_iload hx hb dL_law_891 (lv_at hl 0 rfl) ?_
        refine lv_if_eq (tgt := 903) hx hb dL_law_893 (by decide) (fun c893 => absurd c893 (by decide)) (fun c893 => ?_)
        refine lv_iconst (v := 1) hx hb dL_law_896 (by decide) ?_
        refine lv_iload hx hb dL_law_897 (lv_at hl 7 rfl) ?_
        refine lv_ishl hx hb dL_law_899 ?_
        refine lv_goto (tgt := 904) hx hb dL_law_900 (by decide) ?_
        refine lv_iadd hx hb dL_law_904 ?_
        refine lv_topc (y := τ.2 1 (22 + ho) ||| bI rec) (add_or (by omega) c873) ?_
        refine zw_p (j := 22 + ho) hx hb hK hPx hPy hPu A hS (by omega) dL_law_905 (fun H locs hPx hPy hPu hS => ?_)
        refine lv_iload hx hb dL_law_906 (lv_at hl 0 rfl) ?_
        refine lv_if_eq (tgt := 924) hx hb dL_law_908 (by decide) (fun c908 => absurd c908 (by decide)) (fun c908 => ?_)
        refine lv_aload_n hx hb dL_law_911 rfl (lv_at hl 19 rfl) ?_
        refine lv_bipush (v := 22) hx hb dL_law_912 (by decide) ?_
        refine lv_iload hx hb dL_law_914 (lv_at hl 1 rfl) ?_
        refine lv_iadd hx hb dL_law_916 ?_
        refine lv_topc (y := nI (22 + ho)) (y_ad 22 ho) ?_
        refine yr_p (j := 22 + ho) hx hb hK hPy (by omega) dL_law_917 ?_
        refine lv_topc (y := τ.2 1 (22 + ho) ||| bI rec) (s_put_self) ?_
        refine k_L_size (τ.2 1 (22 + ho) ||| bI rec) ⟨hx, hb, hml, hown, hts⟩ gL_law_L_size ⟨Nat.le_of_ble_eq_true rfl, Nat.le_of_ble_eq_true rfl⟩ hl.1 hc0 (Nat.le_of_ble_eq_true rfl) dL_law_918 ?_
        refine lv_goto (tgt := 938) hx hb dL_law_921 (by decide) ?_
        refine lv_istore (lv' := [(19, .int (nI (ct (bt (τ.2 1 (22 + ho) ||| bI rec)) 32))), (22, .int 1), (21, .int (nI ho)), (20, .int 0), (18, .int (nI st)), (17, .int (nI pu)), (16, .int (nI sub)), (15, .int (nI rec)), (14, .int (nI act)), (13, .int v), (12, .int (nI i)), (11, .ref uo), (10, .ref (ay 8)), (9, .ref (ay 7)), (8, .ref (ay 6)), (7, .ref (ay 5)), (6, .ref (ay 4)), (5, .ref (ay 3)), (4, .ref (ay 2)), (3, .ref (ay 1)), (2, .ref (ay 0)), (1, .ref xo), (0, .ref b)]) hx hb dL_law_938 hl (by decide) rfl (fun ls hl => ?_)
        refine lv_aload_n hx hb dL_law_940 rfl (lv_at hl 21 rfl) ?_
        refine lv_iconst (v := 5) hx hb dL_law_941 (by decide) ?_
        refine lv_iload hx hb dL_law_942 (lv_at hl 2 rfl) ?_
        refine lv_iload hx hb dL_law_944 (lv_at hl 7 rfl) ?_
        obtain ⟨code, val, σ', hxo, hv9, hZ⟩ := St_hold hR hY hT htd (i := ho) hho hrn c858 c873
        refine k_L_calls_hold D tI tZ tL xo ax σ (nI ho) (nI rec) code val σ' hxo hlf (A_x A) ⟨hx, hb, hml, hown, hts⟩ gL_law_L_calls ⟨Nat.le_of_ble_eq_true rfl, Nat.le_of_ble_eq_true rfl⟩ hl.1 hcap (Nat.le_of_ble_eq_true rfl) hK hPx (w_Emv hE hS) hS (A_xg A) dL_law_946 (fun H locs hPx hz hk hS => ?_)
        replace hPy := y_kept9 hPy (fun q h1 h2 => hk q h1 (A_yx A q h2))
        replace hPu := u_kept9 hPu (hk uo (u_lt9 hPu) (A_ux A))
        refine lv_topc (y := (nI (ct (bt (τ.2 1 (22 + ho) ||| bI rec)) 32))) hv9 ?_
        refine lv_istore (lv' := [(20, .int (nI (ct (bt (τ.2 1 (22 + ho) ||| bI rec)) 32))), (19, .int (nI (ct (bt (τ.2 1 (22 + ho) ||| bI rec)) 32))), (22, .int 1), (21, .int (nI ho)), (18, .int (nI st)), (17, .int (nI pu)), (16, .int (nI sub)), (15, .int (nI rec)), (14, .int (nI act)), (13, .int v), (12, .int (nI i)), (11, .ref uo), (10, .ref (ay 8)), (9, .ref (ay 7)), (8, .ref (ay 6)), (7, .ref (ay 5)), (6, .ref (ay 4)), (5, .ref (ay 3)), (4, .ref (ay 2)), (3, .ref (ay 1)), (2, .ref (ay 0)), (1, .ref xo), (0, .ref b)]) hx hb dL_law_949 hl (by decide) rfl (fun ls hl => ?_)
        refine lv_goto (tgt := 1225) hx hb dL_law_951 (by decide) ?_
        exact kk σ' (s_put τ 1 (22 + ho) (τ.2 1 (22 + ho) ||| bI rec)) υ (nI (ct (bt (τ.2 1 (22 + ho) ||| bI rec)) 32)) _ _ _ hZ hPx hPy hPu hS (lv_sub hl [0, 1, 10, 11, 12, 13, 14, 15, 16, 17, 18, 19, 20, 21, 22] rfl)

set_option maxHeartbeats 4000000 in
set_option maxRecDepth 100000 in
theorem lc_close (E : L_E p l s m meth c b L xs D tI tZ tL) (A : L_A s xo ax ay uo) (hR : RR σ μ td np nr) (hY : YY μ τ υ td np nr T) (hT : T < 110) (htd : td ≤ 4 * T) (hcap : cells + 1 ≤ room_1.cells ∧ slots + 6 ≤ room_1.slots) (v : Int32) (act rec sub pu st : Nat) (hrec : rec ≤ nr) (hsub : sub < 6) (hpu : pu < np) (hst : st < 2 ^ np) (hPx : va_P D vwCl (x_W tI tZ xo ax σ) H) (hPy : va_P D vwCl (y_W tI tZ 0 ay τ) H) (hPu : va_P D vwCl (u_W tL uo υ) H) (hS : va_S (L_g s) s.heap H locs) (hl : lv_has ls 23 [(20, .int 0), (19, .int 0), (18, .int (nI st)), (17, .int (nI pu)), (16, .int (nI sub)), (15, .int (nI rec)), (14, .int (nI act)), (13, .int v), (12, .int (nI i)), (11, .ref uo), (10, .ref (ay 8)), (9, .ref (ay 7)), (8, .ref (ay 6)), (7, .ref (ay 5)), (6, .ref (ay 4)), (5, .ref (ay 3)), (4, .ref (ay 2)), (3, .ref (ay 1)), (2, .ref (ay 0)), (1, .ref xo), (0, .ref b)]) (kk : ∀ (σ' τ' : ST) (υ' : Nat → Int64) (due : Int32) (H' : Heap) (locs' : List Loc) (ls' : Array Slot), ZZ σ' τ' υ' (T + 1) → va_P D vwCl (x_W tI tZ xo ax σ') H' → va_P D vwCl (y_W tI tZ 0 ay τ') H' → va_P D vwCl (u_W tL uo υ') H' → va_S (L_g s) s.heap H' locs' → lv_has ls' 23 (L_w b xo ay uo i due) → W p l e room_1 s m #[Value.ref b] below meth c H' locs' (cells + 1) (slots + 6) Q (F0 m 1225 ls' [])) : W p l e room_1 s m #[Value.ref b] below meth c H locs cells slots Q (F0 m 961 ls []) := by
  obtain ⟨hx, hb, hml, hown, hts, hX, hbl, hK, hE, hlf, hL⟩ := E
  have hn30 := R_nr hR
  have hn8 := R_np hR
  have hc0 : cells ≤ room_1.cells ∧ slots ≤ room_1.slots := ⟨by have := hcap.1; omega, by have := hcap.2; omega⟩
  have hC := St_close hR hY hT htd (i := sub) hsub
  refine lv_aload_n hx hb dL_law_961 rfl (lv_at hl 17 rfl) ?_
  refine k_L_held D tI tZ tL 0 ay τ  ⟨hx, hb, hml, hown, hts⟩ gL_law_L_held ⟨Nat.le_of_ble_eq_true rfl, Nat.le_of_ble_eq_true rfl⟩ hl.1 hc0 (Nat.le_of_ble_eq_true rfl) hK hPy dL_law_962 ?_
  refine k_L_size (y_held τ.2) ⟨hx, hb, hml, hown, hts⟩ gL_law_L_size ⟨Nat.le_of_ble_eq_true rfl, Nat.le_of_ble_eq_true rfl⟩ hl.1 hc0 (Nat.le_of_ble_eq_true rfl) dL_law_965 ?_
  refine lv_istore (lv' := [(21, .int (nI (ct (bt (y_held τ.2)) 32))), (20, .int 0), (19, .int 0), (18, .int (nI st)), (17, .int (nI pu)), (16, .int (nI sub)), (15, .int (nI rec)), (14, .int (nI act)), (13, .int v), (12, .int (nI i)), (11, .ref uo), (10, .ref (ay 8)), (9, .ref (ay 7)), (8, .ref (ay 6)), (7, .ref (ay 5)), (6, .ref (ay 4)), (5, .ref (ay 3)), (4, .ref (ay 2)), (3, .ref (ay 1)), (2, .ref (ay 0)), (1, .ref xo), (0, .ref b)]) hx hb dL_law_968 hl (by decide) rfl (fun ls hl => ?_)
  refine lv_aload_n hx hb dL_law_970 rfl (lv_at hl 18 rfl) ?_
  refine lv_bipush (v := 22) hx hb dL_law_971 (by decide) ?_
  refine lv_iload hx hb dL_law_973 (lv_at hl 5 rfl) ?_
  refine lv_iadd hx hb dL_law_975 ?_
  refine lv_topc (y := nI (22 + sub)) (y_ad 22 sub) ?_
  refine lv_iconst (v := 0) hx hb dL_law_976 (by decide) ?_
  refine zw_p (j := 22 + sub) hx hb hK hPx hPy hPu A hS (by omega) dL_law_977 (fun H locs hPx hPy hPu hS => ?_)
  refine lv_iload hx hb dL_law_978 (lv_at hl 0 rfl) ?_
  refine lv_aload_n hx hb dL_law_980 rfl (lv_at hl 18 rfl) ?_
  refine k_L_held D tI tZ tL 0 ay (s_put τ 1 (22 + sub) 0)  ⟨hx, hb, hml, hown, hts⟩ gL_law_L_held ⟨Nat.le_of_ble_eq_true rfl, Nat.le_of_ble_eq_true rfl⟩ hl.1 hc0 (Nat.le_of_ble_eq_true rfl) hK hPy dL_law_981 ?_
  refine k_L_size (y_held (s_put τ 1 (22 + sub) 0).2) ⟨hx, hb, hml, hown, hts⟩ gL_law_L_size ⟨Nat.le_of_ble_eq_true rfl, Nat.le_of_ble_eq_true rfl⟩ hl.1 hc0 (Nat.le_of_ble_eq_true rfl) dL_law_984 ?_
  refine lv_isub hx hb dL_law_987 ?_
  refine lv_istore (lv' := [(19, .int ((nI (ct (bt (y_held τ.2)) 32)) - (nI (ct (bt (y_held (s_put τ 1 (22 + sub) 0).2)) 32)))), (21, .int (nI (ct (bt (y_held τ.2)) 32))), (20, .int 0), (18, .int (nI st)), (17, .int (nI pu)), (16, .int (nI sub)), (15, .int (nI rec)), (14, .int (nI act)), (13, .int v), (12, .int (nI i)), (11, .ref uo), (10, .ref (ay 8)), (9, .ref (ay 7)), (8, .ref (ay 6)), (7, .ref (ay 5)), (6, .ref (ay 4)), (5, .ref (ay 3)), (4, .ref (ay 2)), (3, .ref (ay 1)), (2, .ref (ay 0)), (1, .ref xo), (0, .ref b)]) hx hb dL_law_988 hl (by decide) rfl (fun ls hl => ?_)
  refine lv_aload_n hx hb dL_law_990 rfl (lv_at hl 20 rfl) ?_
  refine lv_iload hx hb dL_law_991 (lv_at hl 5 rfl) ?_
  refine k_X0_close D tI tZ tL xo ax σ sub (by omega) ⟨hx, hb, hml, hown, hts⟩ gL_law_X0_close ⟨Nat.le_of_ble_eq_true rfl, Nat.le_of_ble_eq_true rfl⟩ hl.1 hc0 (Nat.le_of_ble_eq_true rfl) (A_x A) hK hPx hS (A_xg A) dL_law_993 (fun H locs hPx hz hk hS => ?_)
  replace hPy := y_kept9 hPy (fun q h1 h2 => hk q h1 (A_yx A q h2))
  replace hPu := u_kept9 hPu (hk uo (u_lt9 hPu) (A_ux A))
  refine lv_topc (y := nI (ct (bt (y_held τ.2)) 32) - nI (ct (bt (y_held (s_put τ 1 (22 + sub) 0).2)) 32)) (hC.1) ?_
  refine lv_istore (lv' := [(20, .int (nI (ct (bt (y_held τ.2)) 32) - nI (ct (bt (y_held (s_put τ 1 (22 + sub) 0).2)) 32))), (19, .int ((nI (ct (bt (y_held τ.2)) 32)) - (nI (ct (bt (y_held (s_put τ 1 (22 + sub) 0).2)) 32)))), (21, .int (nI (ct (bt (y_held τ.2)) 32))), (18, .int (nI st)), (17, .int (nI pu)), (16, .int (nI sub)), (15, .int (nI rec)), (14, .int (nI act)), (13, .int v), (12, .int (nI i)), (11, .ref uo), (10, .ref (ay 8)), (9, .ref (ay 7)), (8, .ref (ay 6)), (7, .ref (ay 5)), (6, .ref (ay 4)), (5, .ref (ay 3)), (4, .ref (ay 2)), (3, .ref (ay 1)), (2, .ref (ay 0)), (1, .ref xo), (0, .ref b)]) hx hb dL_law_996 hl (by decide) rfl (fun ls hl => ?_)
  refine lv_goto (tgt := 1225) hx hb dL_law_998 (by decide) ?_
  exact W.widen (Nat.le_add_right _ _) (Nat.le_add_right _ _) (kk (s_put σ 15 sub 0) (s_put τ 1 (22 + sub) 0) υ (nI (ct (bt (y_held τ.2)) 32) - nI (ct (bt (y_held (s_put τ 1 (22 + sub) 0).2)) 32)) _ _ _ hC.2 hPx hPy hPu hS (lv_to (L := [(20, .int (nI (ct (bt (y_held τ.2)) 32) - nI (ct (bt (y_held (s_put τ 1 (22 + sub) 0).2)) 32))), (19, .int ((nI (ct (bt (y_held τ.2)) 32)) - (nI (ct (bt (y_held (s_put τ 1 (22 + sub) 0).2)) 32)))), (12, .int (nI i)), (11, .ref uo), (10, .ref (ay 8)), (9, .ref (ay 7)), (8, .ref (ay 6)), (7, .ref (ay 5)), (6, .ref (ay 4)), (5, .ref (ay 3)), (4, .ref (ay 2)), (3, .ref (ay 1)), (2, .ref (ay 0)), (1, .ref xo), (0, .ref b)]) (lv_sub hl [0, 1, 9, 10, 11, 12, 13, 14, 15, 16, 17, 18, 19, 20, 21] rfl) (lv_cr (lv_ci (rfl) (lv_cr (lv_cr (lv_cr (lv_cr (lv_cr (lv_cr (lv_cr (lv_cr (lv_cr (lv_cr (lv_cr (lv_cr (lv_cr rfl)))))))))))))))))

end LC
