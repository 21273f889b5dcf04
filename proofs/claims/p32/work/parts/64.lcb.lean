section LC
variable {p : Program} {l : Launch} {e : Env} {s : State} {m : MethodId} {below : List Frame} {meth : Method} {c : Code} {H : Heap} {locs : List Loc} {cells slots : Nat} {Q : State → Prop} {ls : Array Slot} {D : va_G} {tI tZ tL : ClassId} {xo uo b L i : Nat} {xs : Nat → Int32} {ax ay : Nat → Nat} {σ μ τ : ST} {υ : Nat → Int64} {td np nr T : Nat}
set_option maxHeartbeats 4000000 in
set_option maxRecDepth 100000 in
theorem lc_der (E : L_E p l s m meth c b L xs D tI tZ tL) (A : L_A s xo ax ay uo) (hR : RR σ μ td np nr) (hY : YY μ τ υ td np nr T) (hT : T < 110) (htd : td ≤ 4 * T) (hcap : cells + 1 ≤ room_1.cells ∧ slots + 6 ≤ room_1.slots) (v : Int32) (act rec sub pu st : Nat) (hrec : rec ≤ nr) (hsub : sub < 6) (hpu : pu < np) (hst : st < 2 ^ np) (hPx : va_P D vwCl (x_W tI tZ xo ax σ) H) (hPy : va_P D vwCl (y_W tI tZ 0 ay τ) H) (hPu : va_P D vwCl (u_W tL uo υ) H) (hS : va_S (L_g s) s.heap H locs) (hl : lv_has ls 23 [(20, .int 0), (19, .int 0), (18, .int (nI st)), (17, .int (nI pu)), (16, .int (nI sub)), (15, .int (nI rec)), (14, .int (nI act)), (13, .int v), (12, .int (nI i)), (11, .ref uo), (10, .ref (ay 8)), (9, .ref (ay 7)), (8, .ref (ay 6)), (7, .ref (ay 5)), (6, .ref (ay 4)), (5, .ref (ay 3)), (4, .ref (ay 2)), (3, .ref (ay 1)), (2, .ref (ay 0)), (1, .ref xo), (0, .ref b)]) (kk : ∀ (σ' τ' : ST) (υ' : Nat → Int64) (due : Int32) (H' : Heap) (locs' : List Loc) (ls' : Array Slot), ZZ σ' τ' υ' (T + 1) → va_P D vwCl (x_W tI tZ xo ax σ') H' → va_P D vwCl (y_W tI tZ 0 ay τ') H' → va_P D vwCl (u_W tL uo υ') H' → va_S (L_g s) s.heap H' locs' → lv_has ls' 23 (L_w b xo ay uo i due) → W p l e room_1 s m #[Value.ref b] below meth c H' locs' (cells + 1) (slots + 6) Q (F0 m 1225 ls' [])) : W p l e room_1 s m #[Value.ref b] below meth c H locs cells slots Q (F0 m 537 ls []) := by
  obtain ⟨hx, hb, hml, hown, hts, hX, hbl, hK, hE, hlf, hL⟩ := E
  have hn30 := R_nr hR
  have hn8 := R_np hR
  have hc0 : cells ≤ room_1.cells ∧ slots ≤ room_1.slots := ⟨by have := hcap.1; omega, by have := hcap.2; omega⟩
  refine lv_iload hx hb dL_law_537 (lv_at hl 5 rfl) ?_
  refine lv_aload_n hx hb dL_law_539 rfl (lv_at hl 18 rfl) ?_
  refine lv_iconst (v := 2) hx hb dL_law_540 (by decide) ?_
  refine lv_topc (y := nI 2) rfl ?_
  refine yr_q (j := 2) hx hb hK hPy (by omega) dL_law_541 ?_
  refine lv_icmp_ne (tgt := 549) hx hb dL_law_542 (by decide) (fun c542 => ?_) (fun c542 => ?_)
  · have hrn : rec < nr := Nat.lt_of_le_of_ne hrec (fun e => c542 (by rw [Y_q2 hY, e]))
    refine lv_iload hx hb dL_law_549 (lv_at hl 2 rfl) ?_
    refine lv_if_ne (tgt := 559) hx hb dL_law_551 (by decide) (fun c551 => ?_) (fun c551 => ?_)
    · refine lv_aload_n hx hb dL_law_559 rfl (lv_at hl 18 rfl) ?_
      refine lv_iconst (v := 2) hx hb dL_law_560 (by decide) ?_
      refine lv_topc (y := nI 2) rfl ?_
      refine yr_q (j := 2) hx hb hK hPy (by omega) dL_law_561 ?_
      refine lv_bipush (v := 30) hx hb dL_law_562 (by decide) ?_
      refine lv_icmp_eq (tgt := 593) hx hb dL_law_564 (by decide) (fun c564 => ?_) (fun c564 => ?_)
      · refine lv_bipush (v := (-3)) hx hb dL_law_593 (by decide) ?_
        refine lv_goto (tgt := 621) hx hb dL_law_595 (by decide) ?_
        refine lv_istore (lv' := [(19, .int (-3)), (20, .int 0), (18, .int (nI st)), (17, .int (nI pu)), (16, .int (nI sub)), (15, .int (nI rec)), (14, .int (nI act)), (13, .int v), (12, .int (nI i)), (11, .ref uo), (10, .ref (ay 8)), (9, .ref (ay 7)), (8, .ref (ay 6)), (7, .ref (ay 5)), (6, .ref (ay 4)), (5, .ref (ay 3)), (4, .ref (ay 2)), (3, .ref (ay 1)), (2, .ref (ay 0)), (1, .ref xo), (0, .ref b)]) hx hb dL_law_621 hl (by decide) rfl (fun ls hl => ?_)
        refine lv_iload hx hb dL_law_623 (lv_at hl 0 rfl) ?_
        refine lv_if_lt (tgt := 637) hx hb dL_law_625 (by decide) (fun c625 => ?_) (fun c625 => absurd (by decide) c625)
        refine lv_aload_n hx hb dL_law_637 rfl (lv_at hl 19 rfl) ?_
        refine lv_iconst (v := 2) hx hb dL_law_638 (by decide) ?_
        refine lv_iload hx hb dL_law_639 (lv_at hl 5 rfl) ?_
        refine lv_iload hx hb dL_law_641 (lv_at hl 2 rfl) ?_
        obtain ⟨code, val, σ', hxo, hv9, hZ⟩ := St_derN hR hY hT htd hrn hst c551 (Or.inl c564)
        refine k_L_calls_derive D tI tZ tL xo ax σ (nI rec) (nI st) code val σ' hxo hlf (A_x A) ⟨hx, hb, hml, hown, hts⟩ gL_law_L_calls ⟨Nat.le_of_ble_eq_true rfl, Nat.le_of_ble_eq_true rfl⟩ hl.1 hcap (Nat.le_of_ble_eq_true rfl) hK hPx (w_Emv hE hS) hS (A_xg A) dL_law_643 (fun H locs hPx hz hk hS => ?_)
        replace hPy := y_kept9 hPy (fun q h1 h2 => hk q h1 (A_yx A q h2))
        replace hPu := u_kept9 hPu (hk uo (u_lt9 hPu) (A_ux A))
        refine lv_topc (y := (-3)) hv9 ?_
        refine lv_istore (lv' := [(20, .int (-3)), (19, .int (-3)), (18, .int (nI st)), (17, .int (nI pu)), (16, .int (nI sub)), (15, .int (nI rec)), (14, .int (nI act)), (13, .int v), (12, .int (nI i)), (11, .ref uo), (10, .ref (ay 8)), (9, .ref (ay 7)), (8, .ref (ay 6)), (7, .ref (ay 5)), (6, .ref (ay 4)), (5, .ref (ay 3)), (4, .ref (ay 2)), (3, .ref (ay 1)), (2, .ref (ay 0)), (1, .ref xo), (0, .ref b)]) hx hb dL_law_646 hl (by decide) rfl (fun ls hl => ?_)
        refine lv_goto (tgt := 1225) hx hb dL_law_648 (by decide) ?_
        exact kk σ' τ υ (-3) _ _ _ hZ hPx hPy hPu hS (lv_sub hl [0, 1, 8, 9, 10, 11, 12, 13, 14, 15, 16, 17, 18, 19, 20] rfl)
      · have h30 := nr_30 hR hY c564
        refine lv_aload hx hb dL_law_567 (lv_at hl 12 rfl) ?_
        refine lv_iload hx hb dL_law_569 (lv_at hl 5 rfl) ?_
        refine yr_t (j := rec) hx hb hK hPy (by omega) dL_law_571 ?_
        refine lv_if_gt (tgt := 593) hx hb dL_law_572 (by decide) (fun c572 => ?_) (fun c572 => ?_)
        · refine lv_bipush (v := (-3)) hx hb dL_law_593 (by decide) ?_
          refine lv_goto (tgt := 621) hx hb dL_law_595 (by decide) ?_
          refine lv_istore (lv' := [(19, .int (-3)), (20, .int 0), (18, .int (nI st)), (17, .int (nI pu)), (16, .int (nI sub)), (15, .int (nI rec)), (14, .int (nI act)), (13, .int v), (12, .int (nI i)), (11, .ref uo), (10, .ref (ay 8)), (9, .ref (ay 7)), (8, .ref (ay 6)), (7, .ref (ay 5)), (6, .ref (ay 4)), (5, .ref (ay 3)), (4, .ref (ay 2)), (3, .ref (ay 1)), (2, .ref (ay 0)), (1, .ref xo), (0, .ref b)]) hx hb dL_law_621 hl (by decide) rfl (fun ls hl => ?_)
          refine lv_iload hx hb dL_law_623 (lv_at hl 0 rfl) ?_
          refine lv_if_lt (tgt := 637) hx hb dL_law_625 (by decide) (fun c625 => ?_) (fun c625 => absurd (by decide) c625)
          refine lv_aload_n hx hb dL_law_637 rfl (lv_at hl 19 rfl) ?_
          refine lv_iconst (v := 2) hx hb dL_law_638 (by decide) ?_
          refine lv_iload hx hb dL_law_639 (lv_at hl 5 rfl) ?_
          refine lv_iload hx hb dL_law_641 (lv_at hl 2 rfl) ?_
          obtain ⟨code, val, σ', hxo, hv9, hZ⟩ := St_derN hR hY hT htd hrn hst c551 (Or.inr (Or.inl c572))
          refine k_L_calls_derive D tI tZ tL xo ax σ (nI rec) (nI st) code val σ' hxo hlf (A_x A) ⟨hx, hb, hml, hown, hts⟩ gL_law_L_calls ⟨Nat.le_of_ble_eq_true rfl, Nat.le_of_ble_eq_true rfl⟩ hl.1 hcap (Nat.le_of_ble_eq_true rfl) hK hPx (w_Emv hE hS) hS (A_xg A) dL_law_643 (fun H locs hPx hz hk hS => ?_)
          replace hPy := y_kept9 hPy (fun q h1 h2 => hk q h1 (A_yx A q h2))
          replace hPu := u_kept9 hPu (hk uo (u_lt9 hPu) (A_ux A))
          refine lv_topc (y := (-3)) hv9 ?_
          refine lv_istore (lv' := [(20, .int (-3)), (19, .int (-3)), (18, .int (nI st)), (17, .int (nI pu)), (16, .int (nI sub)), (15, .int (nI rec)), (14, .int (nI act)), (13, .int v), (12, .int (nI i)), (11, .ref uo), (10, .ref (ay 8)), (9, .ref (ay 7)), (8, .ref (ay 6)), (7, .ref (ay 5)), (6, .ref (ay 4)), (5, .ref (ay 3)), (4, .ref (ay 2)), (3, .ref (ay 1)), (2, .ref (ay 0)), (1, .ref xo), (0, .ref b)]) hx hb dL_law_646 hl (by decide) rfl (fun ls hl => ?_)
          refine lv_goto (tgt := 1225) hx hb dL_law_648 (by decide) ?_
          exact kk σ' τ υ (-3) _ _ _ hZ hPx hPy hPu hS (lv_sub hl [0, 1, 8, 9, 10, 11, 12, 13, 14, 15, 16, 17, 18, 19, 20] rfl)
        · refine lv_iload hx hb dL_law_575 (lv_at hl 2 rfl) ?_
          refine lv_aload hx hb dL_law_577 (lv_at hl 16 rfl) ?_
          refine lv_iload hx hb dL_law_579 (lv_at hl 5 rfl) ?_
          refine yr_r (j := rec) hx hb hK hPy (by omega) dL_law_581 ?_
          refine lv_aload_n hx hb dL_law_582 rfl (lv_at hl 18 rfl) ?_
          refine lv_iconst (v := 0) hx hb dL_law_583 (by decide) ?_
          refine lv_topc (y := nI 0) rfl ?_
          refine yr_q (j := 0) hx hb hK hPy (by omega) dL_law_584 ?_
          refine lv_aload_n hx hb dL_law_585 rfl (lv_at hl 18 rfl) ?_
          refine lv_aload_n hx hb dL_law_586 rfl (lv_at hl 17 rfl) ?_
          refine k_L_isOpen D tI tZ tL 0 ay τ (nI st) (τ.2 2 rec) (τ.2 0 0) np (Y_q1 hY) (hn8) ⟨hx, hb, hml, hown, hts⟩ gL_law_L_isOpen ⟨Nat.le_of_ble_eq_true rfl, Nat.le_of_ble_eq_true rfl⟩ hl.1 hc0 (Nat.le_of_ble_eq_true rfl) hK hPy dL_law_587 ?_
          refine lv_ifne_b (tgt := 598) hx hb dL_law_590 (by decide) (fun c590 => ?_) (fun c590 => ?_)
          · refine lv_aload hx hb dL_law_598 (lv_at hl 16 rfl) ?_
            refine lv_iload hx hb dL_law_600 (lv_at hl 5 rfl) ?_
            refine yr_r (j := rec) hx hb hK hPy (by omega) dL_law_602 ?_
            refine lv_iload hx hb dL_law_603 (lv_at hl 2 rfl) ?_
            refine lv_iload hx hb dL_law_605 (lv_at hl 5 rfl) ?_
            refine lv_aload_n hx hb dL_law_607 rfl (lv_at hl 18 rfl) ?_
            refine lv_aload hx hb dL_law_608 (lv_at hl 16 rfl) ?_
            refine lv_aload hx hb dL_law_610 (lv_at hl 15 rfl) ?_
            refine lv_aload hx hb dL_law_612 (lv_at hl 14 rfl) ?_
            refine lv_aload hx hb dL_law_614 (lv_at hl 13 rfl) ?_
            refine lv_aload hx hb dL_law_616 (lv_at hl 12 rfl) ?_
            refine k_L_lay_d D tI tZ tL 0 ay τ (τ.2 2 rec) (nI st) rec (by omega) nr (Y_q2 hY) (by omega) ⟨hx, hb, hml, hown, hts⟩ gL_law_L_lay ⟨Nat.le_of_ble_eq_true rfl, Nat.le_of_ble_eq_true rfl⟩ hl.1 hc0 (Nat.le_of_ble_eq_true rfl) (A_y A) hK hPy hS (A_yg A) dL_law_618 (fun H locs hPy hz hk hS => ?_)
            replace hPx := x_kept9 hPx (fun q h1 h2 => hk q h1 (A_xy A q h2))
            replace hPu := u_kept9 hPu (hk uo (u_lt9 hPu) (A_uy A))
            refine lv_istore (lv' := [(19, .int (nI nr)), (20, .int 0), (18, .int (nI st)), (17, .int (nI pu)), (16, .int (nI sub)), (15, .int (nI rec)), (14, .int (nI act)), (13, .int v), (12, .int (nI i)), (11, .ref uo), (10, .ref (ay 8)), (9, .ref (ay 7)), (8, .ref (ay 6)), (7, .ref (ay 5)), (6, .ref (ay 4)), (5, .ref (ay 3)), (4, .ref (ay 2)), (3, .ref (ay 1)), (2, .ref (ay 0)), (1, .ref xo), (0, .ref b)]) hx hb dL_law_621 hl (by decide) rfl (fun ls hl => ?_)
            refine lv_iload hx hb dL_law_623 (lv_at hl 0 rfl) ?_
            refine lv_if_lt (tgt := 637) hx hb dL_law_625 (by decide) (fun c625 => absurd c625 (nI_pos (by omega))) (fun c625 => ?_)
            refine lv_aload hx hb dL_law_628 (lv_at hl 11 rfl) ?_
            refine lv_iload hx hb dL_law_630 (lv_at hl 0 rfl) ?_
            refine lv_iconst (v := 1) hx hb dL_law_632 (by decide) ?_
            refine lv_iload hx hb dL_law_633 (lv_at hl 5 rfl) ?_
            refine lv_ishl hx hb dL_law_635 ?_
            refine zw_f (j := nr) hx hb hK hPx hPy hPu A hS (by omega) dL_law_636 (fun H locs hPx hPy hPu hS => ?_)
            refine lv_aload_n hx hb dL_law_637 rfl (lv_at hl 19 rfl) ?_
            refine lv_iconst (v := 2) hx hb dL_law_638 (by decide) ?_
            refine lv_iload hx hb dL_law_639 (lv_at hl 5 rfl) ?_
            refine lv_iload hx hb dL_law_641 (lv_at hl 2 rfl) ?_
            obtain ⟨code, val, σ', hxo, hv9, hZ⟩ := St_der hR hY hT htd hrn hst c551 h30 c572 c590
            refine k_L_calls_derive D tI tZ tL xo ax σ (nI rec) (nI st) code val σ' hxo hlf (A_x A) ⟨hx, hb, hml, hown, hts⟩ gL_law_L_calls ⟨Nat.le_of_ble_eq_true rfl, Nat.le_of_ble_eq_true rfl⟩ hl.1 hcap (Nat.le_of_ble_eq_true rfl) hK hPx (w_Emv hE hS) hS (A_xg A) dL_law_643 (fun H locs hPx hz hk hS => ?_)
            replace hPy := y_kept9 hPy (fun q h1 h2 => hk q h1 (A_yx A q h2))
            replace hPu := u_kept9 hPu (hk uo (u_lt9 hPu) (A_ux A))
            refine lv_topc (y := (nI nr)) hv9 ?_
            refine lv_istore (lv' := [(20, .int (nI nr)), (19, .int (nI nr)), (18, .int (nI st)), (17, .int (nI pu)), (16, .int (nI sub)), (15, .int (nI rec)), (14, .int (nI act)), (13, .int v), (12, .int (nI i)), (11, .ref uo), (10, .ref (ay 8)), (9, .ref (ay 7)), (8, .ref (ay 6)), (7, .ref (ay 5)), (6, .ref (ay 4)), (5, .ref (ay 3)), (4, .ref (ay 2)), (3, .ref (ay 1)), (2, .ref (ay 0)), (1, .ref xo), (0, .ref b)]) hx hb dL_law_646 hl (by decide) rfl (fun ls hl => ?_)
            refine lv_goto (tgt := 1225) hx hb dL_law_648 (by decide) ?_
            exact kk σ' (s_put (y_layD τ nr (τ.2 2 rec) (nI st) rec) 7 nr (1 <<< ((nI rec) &&& 31))) υ (nI nr) _ _ _ hZ hPx hPy hPu hS (lv_sub hl [0, 1, 8, 9, 10, 11, 12, 13, 14, 15, 16, 17, 18, 19, 20] rfl)
          · refine lv_bipush (v := (-3)) hx hb dL_law_593 (by decide) ?_
            refine lv_goto (tgt := 621) hx hb dL_law_595 (by decide) ?_
            refine lv_istore (lv' := [(19, .int (-3)), (20, .int 0), (18, .int (nI st)), (17, .int (nI pu)), (16, .int (nI sub)), (15, .int (nI rec)), (14, .int (nI act)), (13, .int v), (12, .int (nI i)), (11, .ref uo), (10, .ref (ay 8)), (9, .ref (ay 7)), (8, .ref (ay 6)), (7, .ref (ay 5)), (6, .ref (ay 4)), (5, .ref (ay 3)), (4, .ref (ay 2)), (3, .ref (ay 1)), (2, .ref (ay 0)), (1, .ref xo), (0, .ref b)]) hx hb dL_law_621 hl (by decide) rfl (fun ls hl => ?_)
            refine lv_iload hx hb dL_law_623 (lv_at hl 0 rfl) ?_
            refine lv_if_lt (tgt := 637) hx hb dL_law_625 (by decide) (fun c625 => ?_) (fun c625 => absurd (by decide) c625)
            refine lv_aload_n hx hb dL_law_637 rfl (lv_at hl 19 rfl) ?_
            refine lv_iconst (v := 2) hx hb dL_law_638 (by decide) ?_
            refine lv_iload hx hb dL_law_639 (lv_at hl 5 rfl) ?_
            refine lv_iload hx hb dL_law_641 (lv_at hl 2 rfl) ?_
            obtain ⟨code, val, σ', hxo, hv9, hZ⟩ := St_derN hR hY hT htd hrn hst c551 (Or.inr (Or.inr c590))
            refine k_L_calls_derive D tI tZ tL xo ax σ (nI rec) (nI st) code val σ' hxo hlf (A_x A) ⟨hx, hb, hml, hown, hts⟩ gL_law_L_calls ⟨Nat.le_of_ble_eq_true rfl, Nat.le_of_ble_eq_true rfl⟩ hl.1 hcap (Nat.le_of_ble_eq_true rfl) hK hPx (w_Emv hE hS) hS (A_xg A) dL_law_643 (fun H locs hPx hz hk hS => ?_)
            replace hPy := y_kept9 hPy (fun q h1 h2 => hk q h1 (A_yx A q h2))
            replace hPu := u_kept9 hPu (hk uo (u_lt9 hPu) (A_ux A))
            refine lv_topc (y := (-3)) hv9 ?_
            refine lv_istore (lv' := [(20, .int (-3)), (19, .int (-3)), (18, .int (nI st)), (17, .int (nI pu)), (16, .int (nI sub)), (15, .int (nI rec)), (14, .int (nI act)), (13, .int v), (12, .int (nI i)), (11, .ref uo), (10, .ref (ay 8)), (9, .ref (ay 7)), (8, .ref (ay 6)), (7, .ref (ay 5)), (6, .ref (ay 4)), (5, .ref (ay 3)), (4, .ref (ay 2)), (3, .ref (ay 1)), (2, .ref (ay 0)), (1, .ref xo), (0, .ref b)]) hx hb dL_law_646 hl (by decide) rfl (fun ls hl => ?_)
            refine lv_goto (tgt := 1225) hx hb dL_law_648 (by decide) ?_
            exact kk σ' τ υ (-3) _ _ _ hZ hPx hPy hPu hS (lv_sub hl [0, 1, 8, 9, 10, 11, 12, 13, 14, 15, 16, 17, 18, 19, 20] rfl)
    · refine lv_bipush (v := (-2)) hx hb dL_law_554 (by decide) ?_
      refine lv_goto (tgt := 621) hx hb dL_law_556 (by decide) ?_
      refine lv_istore (lv' := [(19, .int (-2)), (20, .int 0), (18, .int (nI st)), (17, .int (nI pu)), (16, .int (nI sub)), (15, .int (nI rec)), (14, .int (nI act)), (13, .int v), (12, .int (nI i)), (11, .ref uo), (10, .ref (ay 8)), (9, .ref (ay 7)), (8, .ref (ay 6)), (7, .ref (ay 5)), (6, .ref (ay 4)), (5, .ref (ay 3)), (4, .ref (ay 2)), (3, .ref (ay 1)), (2, .ref (ay 0)), (1, .ref xo), (0, .ref b)]) hx hb dL_law_621 hl (by decide) rfl (fun ls hl => ?_)
      refine lv_iload hx hb dL_law_623 (lv_at hl 0 rfl) ?_
      refine lv_if_lt (tgt := 637) hx hb dL_law_625 (by decide) (fun c625 => ?_) (fun c625 => absurd (by decide) c625)
      refine lv_aload_n hx hb dL_law_637 rfl (lv_at hl 19 rfl) ?_
      refine lv_iconst (v := 2) hx hb dL_law_638 (by decide) ?_
      refine lv_iload hx hb dL_law_639 (lv_at hl 5 rfl) ?_
      refine lv_iload hx hb dL_law_641 (lv_at hl 2 rfl) ?_
      obtain ⟨code, val, σ', hxo, hv9, hZ⟩ := St_der0 hR hY hT htd hrn hst c551
      refine k_L_calls_derive D tI tZ tL xo ax σ (nI rec) (nI st) code val σ' hxo hlf (A_x A) ⟨hx, hb, hml, hown, hts⟩ gL_law_L_calls ⟨Nat.le_of_ble_eq_true rfl, Nat.le_of_ble_eq_true rfl⟩ hl.1 hcap (Nat.le_of_ble_eq_true rfl) hK hPx (w_Emv hE hS) hS (A_xg A) dL_law_643 (fun H locs hPx hz hk hS => ?_)
      replace hPy := y_kept9 hPy (fun q h1 h2 => hk q h1 (A_yx A q h2))
      replace hPu := u_kept9 hPu (hk uo (u_lt9 hPu) (A_ux A))
      refine lv_topc (y := (-2)) hv9 ?_
      refine lv_istore (lv' := [(20, .int (-2)), (19, .int (-2)), (18, .int (nI st)), (17, .int (nI pu)), (16, .int (nI sub)), (15, .int (nI rec)), (14, .int (nI act)), (13, .int v), (12, .int (nI i)), (11, .ref uo), (10, .ref (ay 8)), (9, .ref (ay 7)), (8, .ref (ay 6)), (7, .ref (ay 5)), (6, .ref (ay 4)), (5, .ref (ay 3)), (4, .ref (ay 2)), (3, .ref (ay 1)), (2, .ref (ay 0)), (1, .ref xo), (0, .ref b)]) hx hb dL_law_646 hl (by decide) rfl (fun ls hl => ?_)
      refine lv_goto (tgt := 1225) hx hb dL_law_648 (by decide) ?_
      exact kk σ' τ υ (-2) _ _ _ hZ hPx hPy hPu hS (lv_sub hl [0, 1, 8, 9, 10, 11, 12, 13, 14, 15, 16, 17, 18, 19, 20] rfl)
  · have hrn : nr ≤ rec := by rw [Y_q2 hY] at c542; exact Nat.le_of_eq ((nI_eq (by omega) (by omega)).mp c542).symm
    refine lv_iconst (v := (-1)) hx hb dL_law_545 (by decide) ?_
    refine lv_goto (tgt := 621) hx hb dL_law_546 (by decide) ?_
    refine lv_istore (lv' := [(19, .int (-1)), (20, .int 0), (18, .int (nI st)), (17, .int (nI pu)), (16, .int (nI sub)), (15, .int (nI rec)), (14, .int (nI act)), (13, .int v), (12, .int (nI i)), (11, .ref uo), (10, .ref (ay 8)), (9, .ref (ay 7)), (8, .ref (ay 6)), (7, .ref (ay 5)), (6, .ref (ay 4)), (5, .ref (ay 3)), (4, .ref (ay 2)), (3, .ref (ay 1)), (2, .ref (ay 0)), (1, .ref xo), (0, .ref b)]) hx hb dL_law_621 hl (by decide) rfl (fun ls hl => ?_)
    refine lv_iload hx hb dL_law_623 (lv_at hl 0 rfl) ?_
    refine lv_if_lt (tgt := 637) hx hb dL_law_625 (by decide) (fun c625 => ?_) (fun c625 => absurd (by decide) c625)
    refine lv_aload_n hx hb dL_law_637 rfl (lv_at hl 19 rfl) ?_
    refine lv_iconst (v := 2) hx hb dL_law_638 (by decide) ?_
    refine lv_iload hx hb dL_law_639 (lv_at hl 5 rfl) ?_
    refine lv_iload hx hb dL_law_641 (lv_at hl 2 rfl) ?_
    obtain ⟨code, val, σ', hxo, hv9, hZ⟩ := St_der1 hR hY hT htd (r := rec) (nI st) (by omega) (by omega)
    refine k_L_calls_derive D tI tZ tL xo ax σ (nI rec) (nI st) code val σ' hxo hlf (A_x A) ⟨hx, hb, hml, hown, hts⟩ gL_law_L_calls ⟨Nat.le_of_ble_eq_true rfl, Nat.le_of_ble_eq_true rfl⟩ hl.1 hcap (Nat.le_of_ble_eq_true rfl) hK hPx (w_Emv hE hS) hS (A_xg A) dL_law_643 (fun H locs hPx hz hk hS => ?_)
    replace hPy := y_kept9 hPy (fun q h1 h2 => hk q h1 (A_yx A q h2))
    replace hPu := u_kept9 hPu (hk uo (u_lt9 hPu) (A_ux A))
    refine lv_topc (y := (-1)) hv9 ?_
    refine lv_istore (lv' := [(20, .int (-1)), (19, .int (-1)), (18, .int (nI st)), (17, .int (nI pu)), (16, .int (nI sub)), (15, .int (nI rec)), (14, .int (nI act)), (13, .int v), (12, .int (nI i)), (11, .ref uo), (10, .ref (ay 8)), (9, .ref (ay 7)), (8, .ref (ay 6)), (7, .ref (ay 5)), (6, .ref (ay 4)), (5, .ref (ay 3)), (4, .ref (ay 2)), (3, .ref (ay 1)), (2, .ref (ay 0)), (1, .ref xo), (0, .ref b)]) hx hb dL_law_646 hl (by decide) rfl (fun ls hl => ?_)
    refine lv_goto (tgt := 1225) hx hb dL_law_648 (by decide) ?_
    exact kk σ' τ υ (-1) _ _ _ hZ hPx hPy hPu hS (lv_sub hl [0, 1, 8, 9, 10, 11, 12, 13, 14, 15, 16, 17, 18, 19, 20] rfl)

set_option maxHeartbeats 4000000 in
set_option maxRecDepth 100000 in
theorem lc_src (E : L_E p l s m meth c b L xs D tI tZ tL) (A : L_A s xo ax ay uo) (hR : RR σ μ td np nr) (hY : YY μ τ υ td np nr T) (hT : T < 110) (htd : td ≤ 4 * T) (hcap : cells + 1 ≤ room_1.cells ∧ slots + 6 ≤ room_1.slots) (v : Int32) (act rec sub pu st : Nat) (hrec : rec ≤ nr) (hsub : sub < 6) (hpu : pu < np) (hst : st < 2 ^ np) (hPx : va_P D vwCl (x_W tI tZ xo ax σ) H) (hPy : va_P D vwCl (y_W tI tZ 0 ay τ) H) (hPu : va_P D vwCl (u_W tL uo υ) H) (hS : va_S (L_g s) s.heap H locs) (hl : lv_has ls 23 [(20, .int 0), (19, .int 0), (18, .int (nI st)), (17, .int (nI pu)), (16, .int (nI sub)), (15, .int (nI rec)), (14, .int (nI act)), (13, .int v), (12, .int (nI i)), (11, .ref uo), (10, .ref (ay 8)), (9, .ref (ay 7)), (8, .ref (ay 6)), (7, .ref (ay 5)), (6, .ref (ay 4)), (5, .ref (ay 3)), (4, .ref (ay 2)), (3, .ref (ay 1)), (2, .ref (ay 0)), (1, .ref xo), (0, .ref b)]) (kk : ∀ (σ' τ' : ST) (υ' : Nat → Int64) (due : Int32) (H' : Heap) (locs' : List Loc) (ls' : Array Slot), ZZ σ' τ' υ' (T + 1) → va_P D vwCl (x_W tI tZ xo ax σ') H' → va_P D vwCl (y_W tI tZ 0 ay τ') H' → va_P D vwCl (u_W tL uo υ') H' → va_S (L_g s) s.heap H' locs' → lv_has ls' 23 (L_w b xo ay uo i due) → W p l e room_1 s m #[Value.ref b] below meth c H' locs' (cells + 1) (slots + 6) Q (F0 m 1225 ls' [])) : W p l e room_1 s m #[Value.ref b] below meth c H locs cells slots Q (F0 m 658 ls []) := by
  obtain ⟨hx, hb, hml, hown, hts, hX, hbl, hK, hE, hlf, hL⟩ := E
  have hn30 := R_nr hR
  have hn8 := R_np hR
  have hc0 : cells ≤ room_1.cells ∧ slots ≤ room_1.slots := ⟨by have := hcap.1; omega, by have := hcap.2; omega⟩
  refine lv_iload hx hb dL_law_658 (lv_at hl 7 rfl) ?_
  refine lv_bipush (v := 14) hx hb dL_law_660 (by decide) ?_
  refine lv_ishr hx hb dL_law_662 ?_
  refine lv_aload_n hx hb dL_law_663 rfl (lv_at hl 18 rfl) ?_
  refine lv_iconst (v := 2) hx hb dL_law_664 (by decide) ?_
  refine lv_topc (y := nI 2) rfl ?_
  refine yr_q (j := 2) hx hb hK hPy (by omega) dL_law_665 ?_
  refine lv_iconst (v := 1) hx hb dL_law_666 (by decide) ?_
  refine lv_iadd hx hb dL_law_667 ?_
  refine lv_topc (y := nI (nr + 1)) (by rw [Y_q2 hY, nI_1]) ?_
  refine k_L_low (v >>> (14 &&& 31)) (nr + 1) (by omega) (by omega) ⟨hx, hb, hml, hown, hts⟩ gL_law_L_low ⟨Nat.le_of_ble_eq_true rfl, Nat.le_of_ble_eq_true rfl⟩ hl.1 hc0 (Nat.le_of_ble_eq_true rfl) dL_law_668 ?_
  obtain ⟨oth, hoth, eoth⟩ := y_low_lt (v >>> (14 &&& 31)) (n := nr + 1) (by omega) (by omega)
  refine lv_topc (y := nI oth) (eoth) ?_
  refine lv_istore (lv' := [(21, .int (nI oth)), (20, .int 0), (19, .int 0), (18, .int (nI st)), (17, .int (nI pu)), (16, .int (nI sub)), (15, .int (nI rec)), (14, .int (nI act)), (13, .int v), (12, .int (nI i)), (11, .ref uo), (10, .ref (ay 8)), (9, .ref (ay 7)), (8, .ref (ay 6)), (7, .ref (ay 5)), (6, .ref (ay 4)), (5, .ref (ay 3)), (4, .ref (ay 2)), (3, .ref (ay 1)), (2, .ref (ay 0)), (1, .ref xo), (0, .ref b)]) hx hb dL_law_671 hl (by decide) rfl (fun ls hl => ?_)
  rcases src_cases nr rec oth (bt (τ.2 7 rec) oth = true) (τ.2 6 (30 + rec) = 1) (0 < τ.2 6 rec) (0 < τ.2 6 oth) with hc9 | hc9 | hc9 | hc9
  · refine lv_iload hx hb dL_law_673 (lv_at hl 6 rfl) ?_
    refine lv_iload hx hb dL_law_675 (lv_at hl 0 rfl) ?_
    refine lv_aload hx hb dL_law_677 (lv_at hl 12 rfl) ?_
    refine lv_aload_n hx hb dL_law_679 rfl (lv_at hl 19 rfl) ?_
    refine lv_aload hx hb dL_law_680 (lv_at hl 17 rfl) ?_
    refine lv_aload hx hb dL_law_682 (lv_at hl 16 rfl) ?_
    refine lv_aload hx hb dL_law_684 (lv_at hl 13 rfl) ?_
    refine k_L_source_a D tI tZ tL 0 ay τ rec oth (by omega) (by omega) nr (Y_q2 hY) (hn30) (hc9) ⟨hx, hb, hml, hown, hts⟩ gL_law_L_source ⟨Nat.le_of_ble_eq_true rfl, Nat.le_of_ble_eq_true rfl⟩ hl.1 hc0 (Nat.le_of_ble_eq_true rfl) (A_y A) hK hPy hS (A_yg A) dL_law_686 (fun H locs hPy hz hk hS => ?_)
    replace hPx := x_kept9 hPx (fun q h1 h2 => hk q h1 (A_xy A q h2))
    replace hPu := u_kept9 hPu (hk uo (u_lt9 hPu) (A_uy A))
    refine lv_istore (lv' := [(19, .int (-1)), (21, .int (nI oth)), (20, .int 0), (18, .int (nI st)), (17, .int (nI pu)), (16, .int (nI sub)), (15, .int (nI rec)), (14, .int (nI act)), (13, .int v), (12, .int (nI i)), (11, .ref uo), (10, .ref (ay 8)), (9, .ref (ay 7)), (8, .ref (ay 6)), (7, .ref (ay 5)), (6, .ref (ay 4)), (5, .ref (ay 3)), (4, .ref (ay 2)), (3, .ref (ay 1)), (2, .ref (ay 0)), (1, .ref xo), (0, .ref b)]) hx hb dL_law_689 hl (by decide) rfl (fun ls hl => ?_)
    refine lv_aload_n hx hb dL_law_691 rfl (lv_at hl 20 rfl) ?_
    refine lv_iconst (v := 3) hx hb dL_law_692 (by decide) ?_
    refine lv_iload hx hb dL_law_693 (lv_at hl 6 rfl) ?_
    refine lv_iload hx hb dL_law_695 (lv_at hl 1 rfl) ?_
    obtain ⟨code, val, σ', hxo, hv9, hZ⟩ := St_src1 hR hY hT htd (r := rec) (sr := oth) (by omega) (by omega) hc9
    refine k_L_calls_addSource D tI tZ tL xo ax σ (nI rec) (nI oth) code val σ' hxo hlf (A_x A) ⟨hx, hb, hml, hown, hts⟩ gL_law_L_calls ⟨Nat.le_of_ble_eq_true rfl, Nat.le_of_ble_eq_true rfl⟩ hl.1 hcap (Nat.le_of_ble_eq_true rfl) hK hPx (w_Emv hE hS) hS (A_xg A) dL_law_697 (fun H locs hPx hz hk hS => ?_)
    replace hPy := y_kept9 hPy (fun q h1 h2 => hk q h1 (A_yx A q h2))
    replace hPu := u_kept9 hPu (hk uo (u_lt9 hPu) (A_ux A))
    refine lv_topc (y := (-1)) hv9 ?_
    refine lv_istore (lv' := [(20, .int (-1)), (19, .int (-1)), (21, .int (nI oth)), (18, .int (nI st)), (17, .int (nI pu)), (16, .int (nI sub)), (15, .int (nI rec)), (14, .int (nI act)), (13, .int v), (12, .int (nI i)), (11, .ref uo), (10, .ref (ay 8)), (9, .ref (ay 7)), (8, .ref (ay 6)), (7, .ref (ay 5)), (6, .ref (ay 4)), (5, .ref (ay 3)), (4, .ref (ay 2)), (3, .ref (ay 1)), (2, .ref (ay 0)), (1, .ref xo), (0, .ref b)]) hx hb dL_law_700 hl (by decide) rfl (fun ls hl => ?_)
    refine lv_goto (tgt := 1225) hx hb dL_law_702 (by decide) ?_
    exact kk σ' τ υ (-1) _ _ _ hZ hPx hPy hPu hS (lv_sub hl [0, 1, 9, 10, 11, 12, 13, 14, 15, 16, 17, 18, 19, 20, 21] rfl)
  · refine lv_iload hx hb dL_law_673 (lv_at hl 6 rfl) ?_
    refine lv_iload hx hb dL_law_675 (lv_at hl 0 rfl) ?_
    refine lv_aload hx hb dL_law_677 (lv_at hl 12 rfl) ?_
    refine lv_aload_n hx hb dL_law_679 rfl (lv_at hl 19 rfl) ?_
    refine lv_aload hx hb dL_law_680 (lv_at hl 17 rfl) ?_
    refine lv_aload hx hb dL_law_682 (lv_at hl 16 rfl) ?_
    refine lv_aload hx hb dL_law_684 (lv_at hl 13 rfl) ?_
    refine k_L_source_b D tI tZ tL 0 ay τ rec oth (by omega) (by omega) nr (Y_q2 hY) (hn30) (hc9.1.1) (hc9.1.2) (hc9.2) ⟨hx, hb, hml, hown, hts⟩ gL_law_L_source ⟨Nat.le_of_ble_eq_true rfl, Nat.le_of_ble_eq_true rfl⟩ hl.1 hc0 (Nat.le_of_ble_eq_true rfl) (A_y A) hK hPy hS (A_yg A) dL_law_686 (fun H locs hPy hz hk hS => ?_)
    replace hPx := x_kept9 hPx (fun q h1 h2 => hk q h1 (A_xy A q h2))
    replace hPu := u_kept9 hPu (hk uo (u_lt9 hPu) (A_uy A))
    refine lv_istore (lv' := [(19, .int (-2)), (21, .int (nI oth)), (20, .int 0), (18, .int (nI st)), (17, .int (nI pu)), (16, .int (nI sub)), (15, .int (nI rec)), (14, .int (nI act)), (13, .int v), (12, .int (nI i)), (11, .ref uo), (10, .ref (ay 8)), (9, .ref (ay 7)), (8, .ref (ay 6)), (7, .ref (ay 5)), (6, .ref (ay 4)), (5, .ref (ay 3)), (4, .ref (ay 2)), (3, .ref (ay 1)), (2, .ref (ay 0)), (1, .ref xo), (0, .ref b)]) hx hb dL_law_689 hl (by decide) rfl (fun ls hl => ?_)
    refine lv_aload_n hx hb dL_law_691 rfl (lv_at hl 20 rfl) ?_
    refine lv_iconst (v := 3) hx hb dL_law_692 (by decide) ?_
    refine lv_iload hx hb dL_law_693 (lv_at hl 6 rfl) ?_
    refine lv_iload hx hb dL_law_695 (lv_at hl 1 rfl) ?_
    obtain ⟨code, val, σ', hxo, hv9, hZ⟩ := St_src2 hR hY hT htd hc9.1.1 hc9.1.2 hc9.2
    refine k_L_calls_addSource D tI tZ tL xo ax σ (nI rec) (nI oth) code val σ' hxo hlf (A_x A) ⟨hx, hb, hml, hown, hts⟩ gL_law_L_calls ⟨Nat.le_of_ble_eq_true rfl, Nat.le_of_ble_eq_true rfl⟩ hl.1 hcap (Nat.le_of_ble_eq_true rfl) hK hPx (w_Emv hE hS) hS (A_xg A) dL_law_697 (fun H locs hPx hz hk hS => ?_)
    replace hPy := y_kept9 hPy (fun q h1 h2 => hk q h1 (A_yx A q h2))
    replace hPu := u_kept9 hPu (hk uo (u_lt9 hPu) (A_ux A))
    refine lv_topc (y := (-2)) hv9 ?_
    refine lv_istore (lv' := [(20, .int (-2)), (19, .int (-2)), (21, .int (nI oth)), (18, .int (nI st)), (17, .int (nI pu)), (16, .int (nI sub)), (15, .int (nI rec)), (14, .int (nI act)), (13, .int v), (12, .int (nI i)), (11, .ref uo), (10, .ref (ay 8)), (9, .ref (ay 7)), (8, .ref (ay 6)), (7, .ref (ay 5)), (6, .ref (ay 4)), (5, .ref (ay 3)), (4, .ref (ay 2)), (3, .ref (ay 1)), (2, .ref (ay 0)), (1, .ref xo), (0, .ref b)]) hx hb dL_law_700 hl (by decide) rfl (fun ls hl => ?_)
    refine lv_goto (tgt := 1225) hx hb dL_law_702 (by decide) ?_
    exact kk σ' τ υ (-2) _ _ _ hZ hPx hPy hPu hS (lv_sub hl [0, 1, 9, 10, 11, 12, 13, 14, 15, 16, 17, 18, 19, 20, 21] rfl)
  · refine lv_iload hx hb dL_law_673 (lv_at hl 6 rfl) ?_
    refine lv_iload hx hb dL_law_675 (lv_at hl 0 rfl) ?_
    refine lv_aload hx hb dL_law_677 (lv_at hl 12 rfl) ?_
    refine lv_aload_n hx hb dL_law_679 rfl (lv_at hl 19 rfl) ?_
    refine lv_aload hx hb dL_law_680 (lv_at hl 17 rfl) ?_
    refine lv_aload hx hb dL_law_682 (lv_at hl 16 rfl) ?_
    refine lv_aload hx hb dL_law_684 (lv_at hl 13 rfl) ?_
    refine k_L_source_c D tI tZ tL 0 ay τ rec oth (by omega) (by omega) nr (Y_q2 hY) (hn30) (hc9.1.1) (hc9.1.2) (hc9.2.1) (bl_f hc9.2.2.1) (hc9.2.2.2) ⟨hx, hb, hml, hown, hts⟩ gL_law_L_source ⟨Nat.le_of_ble_eq_true rfl, Nat.le_of_ble_eq_true rfl⟩ hl.1 hc0 (Nat.le_of_ble_eq_true rfl) (A_y A) hK hPy hS (A_yg A) dL_law_686 (fun H locs hPy hz hk hS => ?_)
    replace hPx := x_kept9 hPx (fun q h1 h2 => hk q h1 (A_xy A q h2))
    replace hPu := u_kept9 hPu (hk uo (u_lt9 hPu) (A_uy A))
    refine lv_istore (lv' := [(19, .int (-3)), (21, .int (nI oth)), (20, .int 0), (18, .int (nI st)), (17, .int (nI pu)), (16, .int (nI sub)), (15, .int (nI rec)), (14, .int (nI act)), (13, .int v), (12, .int (nI i)), (11, .ref uo), (10, .ref (ay 8)), (9, .ref (ay 7)), (8, .ref (ay 6)), (7, .ref (ay 5)), (6, .ref (ay 4)), (5, .ref (ay 3)), (4, .ref (ay 2)), (3, .ref (ay 1)), (2, .ref (ay 0)), (1, .ref xo), (0, .ref b)]) hx hb dL_law_689 hl (by decide) rfl (fun ls hl => ?_)
    refine lv_aload_n hx hb dL_law_691 rfl (lv_at hl 20 rfl) ?_
    refine lv_iconst (v := 3) hx hb dL_law_692 (by decide) ?_
    refine lv_iload hx hb dL_law_693 (lv_at hl 6 rfl) ?_
    refine lv_iload hx hb dL_law_695 (lv_at hl 1 rfl) ?_
    obtain ⟨code, val, σ', hxo, hv9, hZ⟩ := St_src3 hR hY hT htd hc9.1.1 hc9.1.2 hc9.2.1 hc9.2.2.1 hc9.2.2.2
    refine k_L_calls_addSource D tI tZ tL xo ax σ (nI rec) (nI oth) code val σ' hxo hlf (A_x A) ⟨hx, hb, hml, hown, hts⟩ gL_law_L_calls ⟨Nat.le_of_ble_eq_true rfl, Nat.le_of_ble_eq_true rfl⟩ hl.1 hcap (Nat.le_of_ble_eq_true rfl) hK hPx (w_Emv hE hS) hS (A_xg A) dL_law_697 (fun H locs hPx hz hk hS => ?_)
    replace hPy := y_kept9 hPy (fun q h1 h2 => hk q h1 (A_yx A q h2))
    replace hPu := u_kept9 hPu (hk uo (u_lt9 hPu) (A_ux A))
    refine lv_topc (y := (-3)) hv9 ?_
    refine lv_istore (lv' := [(20, .int (-3)), (19, .int (-3)), (21, .int (nI oth)), (18, .int (nI st)), (17, .int (nI pu)), (16, .int (nI sub)), (15, .int (nI rec)), (14, .int (nI act)), (13, .int v), (12, .int (nI i)), (11, .ref uo), (10, .ref (ay 8)), (9, .ref (ay 7)), (8, .ref (ay 6)), (7, .ref (ay 5)), (6, .ref (ay 4)), (5, .ref (ay 3)), (4, .ref (ay 2)), (3, .ref (ay 1)), (2, .ref (ay 0)), (1, .ref xo), (0, .ref b)]) hx hb dL_law_700 hl (by decide) rfl (fun ls hl => ?_)
    refine lv_goto (tgt := 1225) hx hb dL_law_702 (by decide) ?_
    exact kk σ' τ υ (-3) _ _ _ hZ hPx hPy hPu hS (lv_sub hl [0, 1, 9, 10, 11, 12, 13, 14, 15, 16, 17, 18, 19, 20, 21] rfl)
  · refine lv_iload hx hb dL_law_673 (lv_at hl 6 rfl) ?_
    refine lv_iload hx hb dL_law_675 (lv_at hl 0 rfl) ?_
    refine lv_aload hx hb dL_law_677 (lv_at hl 12 rfl) ?_
    refine lv_aload_n hx hb dL_law_679 rfl (lv_at hl 19 rfl) ?_
    refine lv_aload hx hb dL_law_680 (lv_at hl 17 rfl) ?_
    refine lv_aload hx hb dL_law_682 (lv_at hl 16 rfl) ?_
    refine lv_aload hx hb dL_law_684 (lv_at hl 13 rfl) ?_
    refine k_L_source D tI tZ tL 0 ay τ rec oth (by omega) (by omega) nr (Y_q2 hY) (hn30) (hc9.1.1) (hc9.1.2) (hc9.2.1) (bl_f hc9.2.2.1) (hc9.2.2.2.1) (hc9.2.2.2.2.1) (hc9.2.2.2.2.2) (l_low hR hY hc9.1.1 hc9.2.1) ⟨hx, hb, hml, hown, hts⟩ gL_law_L_source ⟨Nat.le_of_ble_eq_true rfl, Nat.le_of_ble_eq_true rfl⟩ hl.1 hc0 (Nat.le_of_ble_eq_true rfl) (A_y A) hK hPy hS (A_yg A) dL_law_686 (fun H locs hPy hz hk hS => ?_)
    replace hPx := x_kept9 hPx (fun q h1 h2 => hk q h1 (A_xy A q h2))
    replace hPu := u_kept9 hPu (hk uo (u_lt9 hPu) (A_uy A))
    refine lv_istore (lv' := [(19, .int (nI (ct (bt (τ.2 2 rec ||| τ.2 2 oth)) 32))), (21, .int (nI oth)), (20, .int 0), (18, .int (nI st)), (17, .int (nI pu)), (16, .int (nI sub)), (15, .int (nI rec)), (14, .int (nI act)), (13, .int v), (12, .int (nI i)), (11, .ref uo), (10, .ref (ay 8)), (9, .ref (ay 7)), (8, .ref (ay 6)), (7, .ref (ay 5)), (6, .ref (ay 4)), (5, .ref (ay 3)), (4, .ref (ay 2)), (3, .ref (ay 1)), (2, .ref (ay 0)), (1, .ref xo), (0, .ref b)]) hx hb dL_law_689 hl (by decide) rfl (fun ls hl => ?_)
    refine lv_aload_n hx hb dL_law_691 rfl (lv_at hl 20 rfl) ?_
    refine lv_iconst (v := 3) hx hb dL_law_692 (by decide) ?_
    refine lv_iload hx hb dL_law_693 (lv_at hl 6 rfl) ?_
    refine lv_iload hx hb dL_law_695 (lv_at hl 1 rfl) ?_
    obtain ⟨code, val, σ', hxo, hv9, hZ⟩ := St_src hR hY hT htd hc9.1.1 hc9.1.2 hc9.2.1 hc9.2.2.1 hc9.2.2.2.1 hc9.2.2.2.2.1 hc9.2.2.2.2.2
    refine k_L_calls_addSource D tI tZ tL xo ax σ (nI rec) (nI oth) code val σ' hxo hlf (A_x A) ⟨hx, hb, hml, hown, hts⟩ gL_law_L_calls ⟨Nat.le_of_ble_eq_true rfl, Nat.le_of_ble_eq_true rfl⟩ hl.1 hcap (Nat.le_of_ble_eq_true rfl) hK hPx (w_Emv hE hS) hS (A_xg A) dL_law_697 (fun H locs hPx hz hk hS => ?_)
    replace hPy := y_kept9 hPy (fun q h1 h2 => hk q h1 (A_yx A q h2))
    replace hPu := u_kept9 hPu (hk uo (u_lt9 hPu) (A_ux A))
    refine lv_topc (y := (nI (ct (bt (τ.2 2 rec ||| τ.2 2 oth)) 32))) hv9 ?_
    refine lv_istore (lv' := [(20, .int (nI (ct (bt (τ.2 2 rec ||| τ.2 2 oth)) 32))), (19, .int (nI (ct (bt (τ.2 2 rec ||| τ.2 2 oth)) 32))), (21, .int (nI oth)), (18, .int (nI st)), (17, .int (nI pu)), (16, .int (nI sub)), (15, .int (nI rec)), (14, .int (nI act)), (13, .int v), (12, .int (nI i)), (11, .ref uo), (10, .ref (ay 8)), (9, .ref (ay 7)), (8, .ref (ay 6)), (7, .ref (ay 5)), (6, .ref (ay 4)), (5, .ref (ay 3)), (4, .ref (ay 2)), (3, .ref (ay 1)), (2, .ref (ay 0)), (1, .ref xo), (0, .ref b)]) hx hb dL_law_700 hl (by decide) rfl (fun ls hl => ?_)
    refine lv_goto (tgt := 1225) hx hb dL_law_702 (by decide) ?_
    exact kk σ' (y_so3 τ nr rec oth nr) υ (nI (ct (bt (τ.2 2 rec ||| τ.2 2 oth)) 32)) _ _ _ hZ hPx hPy hPu hS (lv_sub hl [0, 1, 9, 10, 11, 12, 13, 14, 15, 16, 17, 18, 19, 20, 21] rfl)

end LC
