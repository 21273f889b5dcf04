set_option maxHeartbeats 4000000 in
set_option maxRecDepth 100000 in
theorem c_L_isSo (l : Launch) (D : va_G) (tI tZ tL : ClassId) (xo : Nat) (ax : Nat → Nat) (σ : ST) (ay : Nat → Nat) (τ : ST) (uo : Nat) (υ : Nat → Int64) (μ : ST) (td np nr T : Nat) (hR : RR σ μ td np nr) (hY : YY μ τ υ td np nr T) : Met l yL_isSo wsL_isSo ({ frames := 6, cells := 0, slots := 0, locals := 131 } : Room) (va_Pc ([.ref xo, .ref (ay 0), .ref (ay 1), .ref (ay 2), .ref (ay 3), .ref (ay 4), .ref (ay 5), .ref (ay 6), .ref uo, .ref (ay 8)] : List Value) (i_B D tI tZ tL xo ax σ ay τ uo υ)) (q_Q (some (.int (b01 true)))) 0 0 q_no := by
  refine q_met (cc := cL_isSo) (maxL := 19) (ret := (some .boolean)) (by decide) rfl (Nat.le_of_ble_eq_true rfl) ?_
  intro p e s m below meth c hx hb hml hr hts hown hlocks hB ls hl
  have hown : s.vm.findClass RL = some m.cls := hown
  obtain ⟨hPx, hPy, hPu, hK⟩ := hB
  have hl : lv_has ls 19 [(0, .ref xo), (1, .ref (ay 0)), (2, .ref (ay 1)), (3, .ref (ay 2)), (4, .ref (ay 3)), (5, .ref (ay 4)), (6, .ref (ay 5)), (7, .ref (ay 6)), (8, .ref uo), (9, .ref (ay 8))] := hl
  have hn30 := R_nr hR
  have hn8 := R_np hR
  refine lv_aload_n hx hb dL_isSo_0 rfl (lv_at hl 0 rfl) ?_
  refine k_X0_day D tI tZ tL xo ax σ  ⟨hx, hb, hml, hown, hts⟩ gL_isSo_X0_day ⟨Nat.le_of_ble_eq_true rfl, Nat.le_of_ble_eq_true rfl⟩ hl.1 ⟨Nat.zero_le _, Nat.zero_le _⟩ (Nat.le_of_ble_eq_true rfl) hK hPx dL_isSo_1 ?_
  refine lv_aload_n hx hb dL_isSo_4 rfl (lv_at hl 1 rfl) ?_
  refine lv_iconst (v := 0) hx hb dL_isSo_5 (by decide) ?_
  refine lv_topc (y := nI 0) rfl ?_
  refine yr_q (j := 0) hx hb hK hPy (by omega) dL_isSo_6 ?_
  refine lv_icmp_ne (tgt := 35) hx hb dL_isSo_7 (by decide) (fun c7 => absurd ((R_x0 hR).trans (Y_q0 hY).symm) c7) (fun c7 => ?_)
  refine lv_aload_n hx hb dL_isSo_10 rfl (lv_at hl 0 rfl) ?_
  refine k_X0_records D tI tZ tL xo ax σ  ⟨hx, hb, hml, hown, hts⟩ gL_isSo_X0_records ⟨Nat.le_of_ble_eq_true rfl, Nat.le_of_ble_eq_true rfl⟩ hl.1 ⟨Nat.zero_le _, Nat.zero_le _⟩ (Nat.le_of_ble_eq_true rfl) hK hPx dL_isSo_11 ?_
  refine lv_aload_n hx hb dL_isSo_14 rfl (lv_at hl 1 rfl) ?_
  refine lv_iconst (v := 2) hx hb dL_isSo_15 (by decide) ?_
  refine lv_topc (y := nI 2) rfl ?_
  refine yr_q (j := 2) hx hb hK hPy (by omega) dL_isSo_16 ?_
  refine lv_icmp_ne (tgt := 35) hx hb dL_isSo_17 (by decide) (fun c17 => absurd ((R_x6 hR).trans (Y_q2 hY).symm) c17) (fun c17 => ?_)
  refine lv_aload_n hx hb dL_isSo_20 rfl (lv_at hl 0 rfl) ?_
  refine k_X0_held D tI tZ tL xo ax σ  ⟨hx, hb, hml, hown, hts⟩ gL_isSo_X0_held ⟨Nat.le_of_ble_eq_true rfl, Nat.le_of_ble_eq_true rfl⟩ hl.1 ⟨Nat.zero_le _, Nat.zero_le _⟩ (Nat.le_of_ble_eq_true rfl) hK hPx dL_isSo_21 ?_
  refine lv_aload_n hx hb dL_isSo_24 rfl (lv_at hl 2 rfl) ?_
  refine k_L_held D tI tZ tL 0 ay τ  ⟨hx, hb, hml, hown, hts⟩ gL_isSo_L_held ⟨Nat.le_of_ble_eq_true rfl, Nat.le_of_ble_eq_true rfl⟩ hl.1 ⟨Nat.zero_le _, Nat.zero_le _⟩ (Nat.le_of_ble_eq_true rfl) hK hPy dL_isSo_25 ?_
  refine lv_icmp_ne (tgt := 35) hx hb dL_isSo_28 (by decide) (fun c28 => absurd (show x_held (σ.2 15) 6 = y_held τ.2 by rw [Y_held hY, (R_rows hR).2.2.2.2.2]) c28) (fun c28 => ?_)
  refine lv_iconst (v := 1) hx hb dL_isSo_31 (by decide) ?_
  refine lv_goto (tgt := 36) hx hb dL_isSo_32 (by decide) ?_
  refine lv_istore (lv' := [(10, .int 1), (0, .ref xo), (1, .ref (ay 0)), (2, .ref (ay 1)), (3, .ref (ay 2)), (4, .ref (ay 3)), (5, .ref (ay 4)), (6, .ref (ay 5)), (7, .ref (ay 6)), (8, .ref uo), (9, .ref (ay 8))]) hx hb dL_isSo_36 hl (by decide) rfl (fun ls hl => ?_)
  refine lv_iconst (v := 0) hx hb dL_isSo_38 (by decide) ?_
  refine lv_istore (lv' := [(11, .int 0), (10, .int 1), (0, .ref xo), (1, .ref (ay 0)), (2, .ref (ay 1)), (3, .ref (ay 2)), (4, .ref (ay 3)), (5, .ref (ay 4)), (6, .ref (ay 5)), (7, .ref (ay 6)), (8, .ref uo), (9, .ref (ay 8))]) hx hb dL_isSo_39 hl (by decide) rfl (fun ls hl => ?_)
  refine lv_iconst (v := (-1)) hx hb dL_isSo_41 (by decide) ?_
  refine lv_istore (lv' := [(12, .int (-1)), (11, .int 0), (10, .int 1), (0, .ref xo), (1, .ref (ay 0)), (2, .ref (ay 1)), (3, .ref (ay 2)), (4, .ref (ay 3)), (5, .ref (ay 4)), (6, .ref (ay 5)), (7, .ref (ay 6)), (8, .ref uo), (9, .ref (ay 8))]) hx hb dL_isSo_42 hl (by decide) rfl (fun ls hl => ?_)
  refine lv_iconst (v := 0) hx hb dL_isSo_44 (by decide) ?_
  refine lv_istore (lv' := [(13, .int 0), (12, .int (-1)), (11, .int 0), (10, .int 1), (0, .ref xo), (1, .ref (ay 0)), (2, .ref (ay 1)), (3, .ref (ay 2)), (4, .ref (ay 3)), (5, .ref (ay 4)), (6, .ref (ay 5)), (7, .ref (ay 6)), (8, .ref uo), (9, .ref (ay 8))]) hx hb dL_isSo_45 hl (by decide) rfl (fun ls hl => ?_)
  have loop47 : ∀ (n k : Nat), k ≤ nr → nr + 1 ≤ k + n → ∀ ls, lv_has ls 19 [(0, .ref xo), (1, .ref (ay 0)), (2, .ref (ay 1)), (3, .ref (ay 2)), (4, .ref (ay 3)), (5, .ref (ay 4)), (6, .ref (ay 5)), (7, .ref (ay 6)), (8, .ref uo), (9, .ref (ay 8)), (10, .int 1), (11, .int (x_due σ np k)), (12, .int (x_nend σ np k)), (13, .int (nI k))] → q_G p l e ({ frames := 6, cells := 0, slots := 0, locals := 131 } : Room) s m ([.ref xo, .ref (ay 0), .ref (ay 1), .ref (ay 2), .ref (ay 3), .ref (ay 4), .ref (ay 5), .ref (ay 6), .ref uo, .ref (ay 8)] : List Value).toArray below meth c (some (.int (b01 true))) (F0 m 47 ls []) := by
    intro n
    induction n with
    | zero => intro k h1 h2; omega
    | succ n ihk =>
      intro k hk_k hn_k   ls hl
      refine lv_iload hx hb dL_isSo_47 (lv_at hl 13 rfl) ?_
      refine lv_aload_n hx hb dL_isSo_49 rfl (lv_at hl 1 rfl) ?_
      refine lv_iconst (v := 2) hx hb dL_isSo_50 (by decide) ?_
      refine lv_topc (y := nI 2) rfl ?_
      refine yr_q (j := 2) hx hb hK hPy (by omega) dL_isSo_51 ?_
      refine lv_icmp_ge (tgt := 343) hx hb dL_isSo_52 (by decide) (fun c52 => ?_) (fun c52 => ?_)
      · have hkkk : k = nr := Nat.le_antisymm hk_k (ge_t (Y_q2 hY) (by omega) (by omega) c52)
        refine lv_iconst (v := 0) hx hb dL_isSo_343 (by decide) ?_
        refine lv_istore (lv' := [(13, .int 0), (0, .ref xo), (1, .ref (ay 0)), (2, .ref (ay 1)), (3, .ref (ay 2)), (4, .ref (ay 3)), (5, .ref (ay 4)), (6, .ref (ay 5)), (7, .ref (ay 6)), (8, .ref uo), (9, .ref (ay 8)), (10, .int 1), (11, .int (x_due σ np k)), (12, .int (x_nend σ np k))]) hx hb dL_isSo_344 hl (by decide) rfl (fun ls hl => ?_)
        have loop346 : ∀ (n s9 : Nat), s9 ≤ 6 → 6 + 1 ≤ s9 + n → ∀ ls, lv_has ls 19 [(0, .ref xo), (1, .ref (ay 0)), (2, .ref (ay 1)), (3, .ref (ay 2)), (4, .ref (ay 3)), (5, .ref (ay 4)), (6, .ref (ay 5)), (7, .ref (ay 6)), (8, .ref uo), (9, .ref (ay 8)), (10, .int 1), (11, .int (x_due σ np nr)), (12, .int (x_nend σ np nr)), (13, .int (nI s9))] → q_G p l e ({ frames := 6, cells := 0, slots := 0, locals := 131 } : Room) s m ([.ref xo, .ref (ay 0), .ref (ay 1), .ref (ay 2), .ref (ay 3), .ref (ay 4), .ref (ay 5), .ref (ay 6), .ref uo, .ref (ay 8)] : List Value).toArray below meth c (some (.int (b01 true))) (F0 m 346 ls []) := by
          intro n
          induction n with
          | zero => intro s9 h1 h2; omega
          | succ n ihs9 =>
            intro s9 hk_s9 hn_s9   ls hl
            refine lv_iload hx hb dL_isSo_346 (lv_at hl 13 rfl) ?_
            refine lv_bipush (v := 6) hx hb dL_isSo_348 (by decide) ?_
            refine lv_icmp_ge (tgt := 585) hx hb dL_isSo_350 (by decide) (fun c350 => ?_) (fun c350 => ?_)
            · have hks : s9 = 6 := Nat.le_antisymm hk_s9 (ge_t (n := 6) rfl (by omega) (by omega) c350)
              refine lv_iload hx hb dL_isSo_585 (lv_at hl 10 rfl) ?_
              refine lv_if_eq (tgt := 612) hx hb dL_isSo_587 (by decide) (fun c587 => absurd c587 (by decide)) (fun c587 => ?_)
              refine lv_aload_n hx hb dL_isSo_590 rfl (lv_at hl 0 rfl) ?_
              refine k_X0_due D tI tZ tL xo ax σ np (R_x1 hR) (hn8) nr (R_x6 hR) (hn30) ⟨hx, hb, hml, hown, hts⟩ gL_isSo_X0_due ⟨Nat.le_of_ble_eq_true rfl, Nat.le_of_ble_eq_true rfl⟩ hl.1 ⟨Nat.zero_le _, Nat.zero_le _⟩ (Nat.le_of_ble_eq_true rfl) hK hPx dL_isSo_591 ?_
              refine lv_iload hx hb dL_isSo_594 (lv_at hl 11 rfl) ?_
              refine lv_icmp_ne (tgt := 612) hx hb dL_isSo_596 (by decide) (fun c596 => absurd rfl c596) (fun c596 => ?_)
              refine lv_aload_n hx hb dL_isSo_599 rfl (lv_at hl 0 rfl) ?_
              refine k_X0_nextEnd D tI tZ tL xo ax σ np (R_x1 hR) (hn8) nr (R_x6 hR) (hn30) ⟨hx, hb, hml, hown, hts⟩ gL_isSo_X0_nextEnd ⟨Nat.le_of_ble_eq_true rfl, Nat.le_of_ble_eq_true rfl⟩ hl.1 ⟨Nat.zero_le _, Nat.zero_le _⟩ (Nat.le_of_ble_eq_true rfl) hK hPx dL_isSo_600 ?_
              refine lv_iload hx hb dL_isSo_603 (lv_at hl 12 rfl) ?_
              refine lv_icmp_ne (tgt := 612) hx hb dL_isSo_605 (by decide) (fun c605 => absurd rfl c605) (fun c605 => ?_)
              refine lv_iconst (v := 1) hx hb dL_isSo_608 (by decide) ?_
              refine lv_goto (tgt := 613) hx hb dL_isSo_609 (by decide) ?_
              exact q_zret hx hb hr hlocks (rfl) dL_isSo_613
            · have hks : s9 < 6 := ge_f (n := 6) rfl (by omega) c350
              refine lv_iload hx hb dL_isSo_353 (lv_at hl 10 rfl) ?_
              refine lv_if_eq (tgt := 585) hx hb dL_isSo_355 (by decide) (fun c355 => absurd c355 (by decide)) (fun c355 => ?_)
              refine lv_iconst (v := 0) hx hb dL_isSo_358 (by decide) ?_
              refine lv_istore (lv' := [(14, .int 0), (0, .ref xo), (1, .ref (ay 0)), (2, .ref (ay 1)), (3, .ref (ay 2)), (4, .ref (ay 3)), (5, .ref (ay 4)), (6, .ref (ay 5)), (7, .ref (ay 6)), (8, .ref uo), (9, .ref (ay 8)), (10, .int 1), (11, .int (x_due σ np nr)), (12, .int (x_nend σ np nr)), (13, .int (nI s9))]) hx hb dL_isSo_359 hl (by decide) rfl (fun ls hl => ?_)
              refine lv_iconst (v := 0) hx hb dL_isSo_361 (by decide) ?_
              refine lv_istore (lv' := [(15, .int 0), (14, .int 0), (0, .ref xo), (1, .ref (ay 0)), (2, .ref (ay 1)), (3, .ref (ay 2)), (4, .ref (ay 3)), (5, .ref (ay 4)), (6, .ref (ay 5)), (7, .ref (ay 6)), (8, .ref uo), (9, .ref (ay 8)), (10, .int 1), (11, .int (x_due σ np nr)), (12, .int (x_nend σ np nr)), (13, .int (nI s9))]) hx hb dL_isSo_362 hl (by decide) rfl (fun ls hl => ?_)
              have loop364 : ∀ (n z : Nat), z ≤ nr → nr + 1 ≤ z + n → ∀ ls, lv_has ls 19 [(0, .ref xo), (1, .ref (ay 0)), (2, .ref (ay 1)), (3, .ref (ay 2)), (4, .ref (ay 3)), (5, .ref (ay 4)), (6, .ref (ay 5)), (7, .ref (ay 6)), (8, .ref uo), (9, .ref (ay 8)), (10, .int 1), (11, .int (x_due σ np nr)), (12, .int (x_nend σ np nr)), (13, .int (nI s9)), (14, .int (m_trc μ.2 s9 z)), (15, .int (nI z))] → q_G p l e ({ frames := 6, cells := 0, slots := 0, locals := 131 } : Room) s m ([.ref xo, .ref (ay 0), .ref (ay 1), .ref (ay 2), .ref (ay 3), .ref (ay 4), .ref (ay 5), .ref (ay 6), .ref uo, .ref (ay 8)] : List Value).toArray below meth c (some (.int (b01 true))) (F0 m 364 ls []) := by
                intro n
                induction n with
                | zero => intro z h1 h2; omega
                | succ n ihz =>
                  intro z hk_z hn_z   ls hl
                  refine lv_iload hx hb dL_isSo_364 (lv_at hl 15 rfl) ?_
                  refine lv_aload_n hx hb dL_isSo_366 rfl (lv_at hl 1 rfl) ?_
                  refine lv_iconst (v := 2) hx hb dL_isSo_367 (by decide) ?_
                  refine lv_topc (y := nI 2) rfl ?_
                  refine yr_q (j := 2) hx hb hK hPy (by omega) dL_isSo_368 ?_
                  refine lv_icmp_ge (tgt := 412) hx hb dL_isSo_369 (by decide) (fun c369 => ?_) (fun c369 => ?_)
                  · have hkzz : z = nr := Nat.le_antisymm hk_z (ge_t (Y_q2 hY) (by omega) (by omega) c369)
                    refine lv_aload_n hx hb dL_isSo_412 rfl (lv_at hl 0 rfl) ?_
                    refine lv_iload hx hb dL_isSo_413 (lv_at hl 13 rfl) ?_
                    refine k_X0_consents D tI tZ tL xo ax σ s9 (by omega) ⟨hx, hb, hml, hown, hts⟩ gL_isSo_X0_consents ⟨Nat.le_of_ble_eq_true rfl, Nat.le_of_ble_eq_true rfl⟩ hl.1 ⟨Nat.zero_le _, Nat.zero_le _⟩ (Nat.le_of_ble_eq_true rfl) hK hPx dL_isSo_415 ?_
                    refine lv_aload_n hx hb dL_isSo_418 rfl (lv_at hl 2 rfl) ?_
                    refine lv_bipush (v := 16) hx hb dL_isSo_419 (by decide) ?_
                    refine lv_iload hx hb dL_isSo_421 (lv_at hl 13 rfl) ?_
                    refine lv_iadd hx hb dL_isSo_423 ?_
                    refine lv_topc (y := nI (16 + s9)) (y_ad 16 s9) ?_
                    refine yr_p (j := 16 + s9) hx hb hK hPy (by omega) dL_isSo_424 ?_
                    refine lv_icmp_ne (tgt := 454) hx hb dL_isSo_425 (by decide) (fun c425 => absurd (show σ.2 4 s9 = τ.2 1 (16 + s9) by rw [R_e4 hR, Y_c hY hks]) c425) (fun c425 => ?_)
                    refine lv_aload_n hx hb dL_isSo_428 rfl (lv_at hl 0 rfl) ?_
                    refine lv_iload hx hb dL_isSo_429 (lv_at hl 13 rfl) ?_
                    refine k_X0_traces D tI tZ tL xo ax σ s9 (by omega) nr (R_x6 hR) (hn30) ⟨hx, hb, hml, hown, hts⟩ gL_isSo_X0_traces ⟨Nat.le_of_ble_eq_true rfl, Nat.le_of_ble_eq_true rfl⟩ hl.1 ⟨Nat.zero_le _, Nat.zero_le _⟩ (Nat.le_of_ble_eq_true rfl) hK hPx dL_isSo_431 ?_
                    refine lv_iload hx hb dL_isSo_434 (lv_at hl 14 rfl) ?_
                    refine lv_icmp_ne (tgt := 454) hx hb dL_isSo_436 (by decide) (fun c436 => absurd (by rw [hkzz]; exact tr_eq hR s9) c436) (fun c436 => ?_)
                    refine lv_aload_n hx hb dL_isSo_439 rfl (lv_at hl 0 rfl) ?_
                    refine lv_iload hx hb dL_isSo_440 (lv_at hl 13 rfl) ?_
                    refine k_X0_tracesFromRoots D tI tZ tL xo ax σ s9 (by omega) nr (R_x6 hR) (hn30) ⟨hx, hb, hml, hown, hts⟩ gL_isSo_X0_tracesFromRoots ⟨Nat.le_of_ble_eq_true rfl, Nat.le_of_ble_eq_true rfl⟩ hl.1 ⟨Nat.zero_le _, Nat.zero_le _⟩ (Nat.le_of_ble_eq_true rfl) hK hPx dL_isSo_442 ?_
                    refine lv_iload hx hb dL_isSo_445 (lv_at hl 14 rfl) ?_
                    refine lv_icmp_ne (tgt := 454) hx hb dL_isSo_447 (by decide) (fun c447 => absurd (by rw [hkzz]; exact trr_eq hR s9) c447) (fun c447 => ?_)
                    refine lv_iconst (v := 1) hx hb dL_isSo_450 (by decide) ?_
                    refine lv_goto (tgt := 455) hx hb dL_isSo_451 (by decide) ?_
                    refine lv_istore (lv' := [(10, .int 1), (0, .ref xo), (1, .ref (ay 0)), (2, .ref (ay 1)), (3, .ref (ay 2)), (4, .ref (ay 3)), (5, .ref (ay 4)), (6, .ref (ay 5)), (7, .ref (ay 6)), (8, .ref uo), (9, .ref (ay 8)), (11, .int (x_due σ np nr)), (12, .int (x_nend σ np nr)), (13, .int (nI s9)), (14, .int (m_trc μ.2 s9 z)), (15, .int (nI z))]) hx hb dL_isSo_455 hl (by decide) rfl (fun ls hl => ?_)
                    refine lv_iconst (v := 0) hx hb dL_isSo_457 (by decide) ?_
                    refine lv_istore (lv' := [(15, .int 0), (10, .int 1), (0, .ref xo), (1, .ref (ay 0)), (2, .ref (ay 1)), (3, .ref (ay 2)), (4, .ref (ay 3)), (5, .ref (ay 4)), (6, .ref (ay 5)), (7, .ref (ay 6)), (8, .ref uo), (9, .ref (ay 8)), (11, .int (x_due σ np nr)), (12, .int (x_nend σ np nr)), (13, .int (nI s9)), (14, .int (m_trc μ.2 s9 z))]) hx hb dL_isSo_458 hl (by decide) rfl (fun ls hl => ?_)
                    have loop460 : ∀ (n i : Nat), i ≤ np → np + 1 ≤ i + n → ∀ ls, lv_has ls 19 [(0, .ref xo), (1, .ref (ay 0)), (2, .ref (ay 1)), (3, .ref (ay 2)), (4, .ref (ay 3)), (5, .ref (ay 4)), (6, .ref (ay 5)), (7, .ref (ay 6)), (8, .ref uo), (9, .ref (ay 8)), (10, .int 1), (11, .int (x_due σ np nr)), (12, .int (x_nend σ np nr)), (13, .int (nI s9)), (15, .int (nI i))] → q_G p l e ({ frames := 6, cells := 0, slots := 0, locals := 131 } : Room) s m ([.ref xo, .ref (ay 0), .ref (ay 1), .ref (ay 2), .ref (ay 3), .ref (ay 4), .ref (ay 5), .ref (ay 6), .ref uo, .ref (ay 8)] : List Value).toArray below meth c (some (.int (b01 true))) (F0 m 460 ls []) := by
                      intro n
                      induction n with
                      | zero => intro i h1 h2; omega
                      | succ n ihi =>
                        intro i hk_i hn_i   ls hl
                        refine lv_iload hx hb dL_isSo_460 (lv_at hl 14 rfl) ?_
                        refine lv_aload_n hx hb dL_isSo_462 rfl (lv_at hl 1 rfl) ?_
                        refine lv_iconst (v := 1) hx hb dL_isSo_463 (by decide) ?_
                        refine lv_topc (y := nI 1) rfl ?_
                        refine yr_q (j := 1) hx hb hK hPy (by omega) dL_isSo_464 ?_
                        refine lv_icmp_ge (tgt := 579) hx hb dL_isSo_465 (by decide) (fun c465 => ?_) (fun c465 => ?_)
                        · have hkii : i = np := Nat.le_antisymm hk_i (ge_t (Y_q1 hY) (by omega) (by omega) c465)
                          refine lv_iinc (v := (nI s9) + 1) (lv' := [(13, .int ((nI s9) + 1)), (0, .ref xo), (1, .ref (ay 0)), (2, .ref (ay 1)), (3, .ref (ay 2)), (4, .ref (ay 3)), (5, .ref (ay 4)), (6, .ref (ay 5)), (7, .ref (ay 6)), (8, .ref uo), (9, .ref (ay 8)), (10, .int 1), (11, .int (x_due σ np nr)), (12, .int (x_nend σ np nr)), (15, .int (nI i))]) hx hb dL_isSo_579 hl (k := 13) rfl rfl (by decide) rfl (fun ls hl => ?_)
                          refine lv_goto (tgt := 346) hx hb dL_isSo_582 (by decide) ?_
                          exact ihs9 (s9 + 1) (by omega) (by omega)   _ (lv_to (L := [(0, .ref xo), (1, .ref (ay 0)), (2, .ref (ay 1)), (3, .ref (ay 2)), (4, .ref (ay 3)), (5, .ref (ay 4)), (6, .ref (ay 5)), (7, .ref (ay 6)), (8, .ref uo), (9, .ref (ay 8)), (10, .int 1), (11, .int (x_due σ np nr)), (12, .int (x_nend σ np nr)), (13, .int ((nI s9) + 1))]) (lv_sub hl [1, 2, 3, 4, 5, 6, 7, 8, 9, 10, 11, 12, 13, 0] rfl) (lv_cr (lv_cr (lv_cr (lv_cr (lv_cr (lv_cr (lv_cr (lv_cr (lv_cr (lv_cr (lv_cr (lv_cr (lv_cr (lv_ci (nI_1 s9) rfl)))))))))))))))
                        · have hkii : i < np := ge_f (Y_q1 hY) (by omega) c465
                          refine lv_iload hx hb dL_isSo_468 (lv_at hl 10 rfl) ?_
                          refine lv_if_eq (tgt := 579) hx hb dL_isSo_470 (by decide) (fun c470 => absurd c470 (by decide)) (fun c470 => ?_)
                          refine lv_lconst (v := 0) hx hb dL_isSo_473 (by decide) ?_
                          refine lv_lstore (lv' := [(16, .long 0), (0, .ref xo), (1, .ref (ay 0)), (2, .ref (ay 1)), (3, .ref (ay 2)), (4, .ref (ay 3)), (5, .ref (ay 4)), (6, .ref (ay 5)), (7, .ref (ay 6)), (8, .ref uo), (9, .ref (ay 8)), (10, .int 1), (11, .int (x_due σ np nr)), (12, .int (x_nend σ np nr)), (13, .int (nI s9)), (15, .int (nI i))]) hx hb dL_isSo_474 hl (by decide) rfl (fun ls hl => ?_)
                          refine lv_iconst (v := 0) hx hb dL_isSo_476 (by decide) ?_
                          refine lv_istore (lv' := [(18, .int 0), (16, .long 0), (0, .ref xo), (1, .ref (ay 0)), (2, .ref (ay 1)), (3, .ref (ay 2)), (4, .ref (ay 3)), (5, .ref (ay 4)), (6, .ref (ay 5)), (7, .ref (ay 6)), (8, .ref uo), (9, .ref (ay 8)), (10, .int 1), (11, .int (x_due σ np nr)), (12, .int (x_nend σ np nr)), (13, .int (nI s9)), (15, .int (nI i))]) hx hb dL_isSo_477 hl (by decide) rfl (fun ls hl => ?_)
                          have loop479 : ∀ (n z : Nat), z ≤ nr → nr + 1 ≤ z + n → ∀ ls, lv_has ls 19 [(0, .ref xo), (1, .ref (ay 0)), (2, .ref (ay 1)), (3, .ref (ay 2)), (4, .ref (ay 3)), (5, .ref (ay 4)), (6, .ref (ay 5)), (7, .ref (ay 6)), (8, .ref uo), (9, .ref (ay 8)), (10, .int 1), (11, .int (x_due σ np nr)), (12, .int (x_nend σ np nr)), (13, .int (nI s9)), (15, .int (nI i)), (16, .long (y_us τ.2 υ s9 i z)), (18, .int (nI z))] → q_G p l e ({ frames := 6, cells := 0, slots := 0, locals := 131 } : Room) s m ([.ref xo, .ref (ay 0), .ref (ay 1), .ref (ay 2), .ref (ay 3), .ref (ay 4), .ref (ay 5), .ref (ay 6), .ref uo, .ref (ay 8)] : List Value).toArray below meth c (some (.int (b01 true))) (F0 m 479 ls []) := by
                            intro n
                            induction n with
                            | zero => intro z h1 h2; omega
                            | succ n ihz =>
                              intro z hk_z hn_z   ls hl
                              refine lv_iload hx hb dL_isSo_479 (lv_at hl 16 rfl) ?_
                              refine lv_aload_n hx hb dL_isSo_481 rfl (lv_at hl 1 rfl) ?_
                              refine lv_iconst (v := 2) hx hb dL_isSo_482 (by decide) ?_
                              refine lv_topc (y := nI 2) rfl ?_
                              refine yr_q (j := 2) hx hb hK hPy (by omega) dL_isSo_483 ?_
                              refine lv_icmp_ge (tgt := 529) hx hb dL_isSo_484 (by decide) (fun c484 => ?_) (fun c484 => ?_)
                              · have hkzz : z = nr := Nat.le_antisymm hk_z (ge_t (Y_q2 hY) (by omega) (by omega) c484)
                                refine lv_aload_n hx hb dL_isSo_529 rfl (lv_at hl 0 rfl) ?_
                                refine lv_iload hx hb dL_isSo_530 (lv_at hl 13 rfl) ?_
                                refine lv_iload hx hb dL_isSo_532 (lv_at hl 14 rfl) ?_
                                refine k_X0_uses D tI tZ tL xo ax σ s9 (by omega) i np (R_x1 hR) (hn8) (by omega) nr (R_x6 hR) (hn30) ⟨hx, hb, hml, hown, hts⟩ gL_isSo_X0_uses ⟨Nat.le_of_ble_eq_true rfl, Nat.le_of_ble_eq_true rfl⟩ hl.1 ⟨Nat.zero_le _, Nat.zero_le _⟩ (Nat.le_of_ble_eq_true rfl) hK hPx dL_isSo_534 ?_
                                refine lv_i2l hx hb dL_isSo_537 rfl ?_
                                refine lv_lload hx hb dL_isSo_538 (lv_at hl 15 rfl) ?_
                                refine lb_lcmp (by rw [hkzz]; exact Y_uses hR hY s9 (by omega)) hx hb dL_isSo_540 ?_
                                refine lv_if_ne (tgt := 570) hx hb dL_isSo_541 (by decide) (fun c541 => absurd rfl c541) (fun c541 => ?_)
                                refine lv_aload_n hx hb dL_isSo_544 rfl (lv_at hl 0 rfl) ?_
                                refine lv_iload hx hb dL_isSo_545 (lv_at hl 13 rfl) ?_
                                refine lv_iload hx hb dL_isSo_547 (lv_at hl 14 rfl) ?_
                                refine k_X0_daysWithConsent D tI tZ tL xo ax σ s9 (by omega) i np (R_x1 hR) (hn8) (by omega) ⟨hx, hb, hml, hown, hts⟩ gL_isSo_X0_daysWithConsent ⟨Nat.le_of_ble_eq_true rfl, Nat.le_of_ble_eq_true rfl⟩ hl.1 ⟨Nat.zero_le _, Nat.zero_le _⟩ (Nat.le_of_ble_eq_true rfl) hK hPx dL_isSo_549 ?_
                                refine lv_aload hx hb dL_isSo_552 (lv_at hl 9 rfl) ?_
                                refine lv_bipush (v := 8) hx hb dL_isSo_554 (by decide) ?_
                                refine lv_iload hx hb dL_isSo_556 (lv_at hl 13 rfl) ?_
                                refine lv_imul hx hb dL_isSo_558 ?_
                                refine lv_topc (y := nI (8 * s9)) (by rw [show (8 : Int32) = nI 8 from rfl, pk_mul]) ?_
                                refine lv_iload hx hb dL_isSo_559 (lv_at hl 14 rfl) ?_
                                refine lv_iadd hx hb dL_isSo_561 ?_
                                refine lv_topc (y := nI (8 * s9 + i)) (nI_add _ _) ?_
                                refine yr_d (j := 8 * s9 + i) hx hb hK hPy (by omega) dL_isSo_562 ?_
                                refine lv_icmp_ne (tgt := 570) hx hb dL_isSo_563 (by decide) (fun c563 => absurd (show σ.2 5 (s9 * 8 + i) = τ.2 8 (8 * s9 + i) by rw [Y_d hY (by omega), (R_rows hR).1, Nat.mul_comm]) c563) (fun c563 => ?_)
                                refine lv_iconst (v := 1) hx hb dL_isSo_566 (by decide) ?_
                                refine lv_goto (tgt := 571) hx hb dL_isSo_567 (by decide) ?_
                                refine lv_istore (lv' := [(10, .int 1), (0, .ref xo), (1, .ref (ay 0)), (2, .ref (ay 1)), (3, .ref (ay 2)), (4, .ref (ay 3)), (5, .ref (ay 4)), (6, .ref (ay 5)), (7, .ref (ay 6)), (8, .ref uo), (9, .ref (ay 8)), (11, .int (x_due σ np nr)), (12, .int (x_nend σ np nr)), (13, .int (nI s9)), (15, .int (nI i)), (16, .long (y_us τ.2 υ s9 i z)), (18, .int (nI z))]) hx hb dL_isSo_571 hl (by decide) rfl (fun ls hl => ?_)
                                refine lv_iinc (v := (nI i) + 1) (lv' := [(15, .int ((nI i) + 1)), (10, .int 1), (0, .ref xo), (1, .ref (ay 0)), (2, .ref (ay 1)), (3, .ref (ay 2)), (4, .ref (ay 3)), (5, .ref (ay 4)), (6, .ref (ay 5)), (7, .ref (ay 6)), (8, .ref uo), (9, .ref (ay 8)), (11, .int (x_due σ np nr)), (12, .int (x_nend σ np nr)), (13, .int (nI s9)), (16, .long (y_us τ.2 υ s9 i z)), (18, .int (nI z))]) hx hb dL_isSo_573 hl (k := 14) rfl rfl (by decide) rfl (fun ls hl => ?_)
                                refine lv_goto (tgt := 460) hx hb dL_isSo_576 (by decide) ?_
                                exact ihi (i + 1) (by omega) (by omega)   _ (lv_to (L := [(0, .ref xo), (1, .ref (ay 0)), (2, .ref (ay 1)), (3, .ref (ay 2)), (4, .ref (ay 3)), (5, .ref (ay 4)), (6, .ref (ay 5)), (7, .ref (ay 6)), (8, .ref uo), (9, .ref (ay 8)), (10, .int 1), (11, .int (x_due σ np nr)), (12, .int (x_nend σ np nr)), (13, .int (nI s9)), (15, .int ((nI i) + 1))]) (lv_sub hl [2, 3, 4, 5, 6, 7, 8, 9, 10, 11, 1, 12, 13, 14, 0] rfl) (lv_cr (lv_cr (lv_cr (lv_cr (lv_cr (lv_cr (lv_cr (lv_cr (lv_cr (lv_cr (lv_cr (lv_cr (lv_cr (lv_cr (lv_ci (nI_1 i) rfl))))))))))))))))
                              · have hkzz : z < nr := ge_f (Y_q2 hY) (by omega) c484
                                refine lv_lload hx hb dL_isSo_487 (lv_at hl 15 rfl) ?_
                                refine lv_aload_n hx hb dL_isSo_489 rfl (lv_at hl 3 rfl) ?_
                                refine lv_iload hx hb dL_isSo_490 (lv_at hl 16 rfl) ?_
                                refine yr_r (j := z) hx hb hK hPy (by omega) dL_isSo_492 ?_
                                refine lv_iload hx hb dL_isSo_493 (lv_at hl 13 rfl) ?_
                                refine k_L_has (τ.2 2 z) s9 (by omega) ⟨hx, hb, hml, hown, hts⟩ gL_isSo_L_has ⟨Nat.le_of_ble_eq_true rfl, Nat.le_of_ble_eq_true rfl⟩ hl.1 ⟨Nat.zero_le _, Nat.zero_le _⟩ (Nat.le_of_ble_eq_true rfl) dL_isSo_495 ?_
                                refine lv_ifeq_b (tgt := 519) hx hb dL_isSo_498 (by decide) (fun c498 => ?_) (fun c498 => ?_)
                                · refine lv_lconst (v := 0) hx hb dL_isSo_519 (by decide) ?_
                                  refine lv_ladd hx hb dL_isSo_520 ?_
                                  refine lv_lstore (lv' := [(16, .long ((y_us τ.2 υ s9 i z) + 0)), (0, .ref xo), (1, .ref (ay 0)), (2, .ref (ay 1)), (3, .ref (ay 2)), (4, .ref (ay 3)), (5, .ref (ay 4)), (6, .ref (ay 5)), (7, .ref (ay 6)), (8, .ref uo), (9, .ref (ay 8)), (10, .int 1), (11, .int (x_due σ np nr)), (12, .int (x_nend σ np nr)), (13, .int (nI s9)), (15, .int (nI i)), (18, .int (nI z))]) hx hb dL_isSo_521 hl (by decide) rfl (fun ls hl => ?_)
                                  refine lv_iinc (v := (nI z) + 1) (lv' := [(18, .int ((nI z) + 1)), (16, .long ((y_us τ.2 υ s9 i z) + 0)), (0, .ref xo), (1, .ref (ay 0)), (2, .ref (ay 1)), (3, .ref (ay 2)), (4, .ref (ay 3)), (5, .ref (ay 4)), (6, .ref (ay 5)), (7, .ref (ay 6)), (8, .ref uo), (9, .ref (ay 8)), (10, .int 1), (11, .int (x_due σ np nr)), (12, .int (x_nend σ np nr)), (13, .int (nI s9)), (15, .int (nI i))]) hx hb dL_isSo_523 hl (k := 16) rfl rfl (by decide) rfl (fun ls hl => ?_)
                                  refine lv_goto (tgt := 479) hx hb dL_isSo_526 (by decide) ?_
                                  exact ihz (z + 1) (by omega) (by omega)   _ (lv_to (L := [(0, .ref xo), (1, .ref (ay 0)), (2, .ref (ay 1)), (3, .ref (ay 2)), (4, .ref (ay 3)), (5, .ref (ay 4)), (6, .ref (ay 5)), (7, .ref (ay 6)), (8, .ref uo), (9, .ref (ay 8)), (10, .int 1), (11, .int (x_due σ np nr)), (12, .int (x_nend σ np nr)), (13, .int (nI s9)), (15, .int (nI i)), (16, .long ((y_us τ.2 υ s9 i z) + 0)), (18, .int ((nI z) + 1))]) (lv_sub hl [2, 3, 4, 5, 6, 7, 8, 9, 10, 11, 12, 13, 14, 15, 16, 1, 0] rfl) (lv_cr (lv_cr (lv_cr (lv_cr (lv_cr (lv_cr (lv_cr (lv_cr (lv_cr (lv_cr (lv_cr (lv_cr (lv_cr (lv_cr (lv_cr (lv_cl (by rw [y_us, if_neg (by rw [c498]; decide)]) (lv_ci (nI_1 z) rfl))))))))))))))))))
                                · refine lv_aload hx hb dL_isSo_501 (lv_at hl 8 rfl) ?_
                                  refine lv_iload hx hb dL_isSo_503 (lv_at hl 16 rfl) ?_
                                  refine ur_u (j := z) hx hb hK hPu (by omega) dL_isSo_505 ?_
                                  refine lv_bipush (v := 7) hx hb dL_isSo_506 (by decide) ?_
                                  refine lv_iload hx hb dL_isSo_508 (lv_at hl 14 rfl) ?_
                                  refine lv_imul hx hb dL_isSo_510 ?_
                                  refine lv_topc (y := nI (7 * i)) (by rw [show (7 : Int32) = nI 7 from rfl, pk_mul]) ?_
                                  refine lv_lshr hx hb dL_isSo_511 rfl ?_
                                  refine lv_ldc2 hx hb hown (hts (.constantLong RL 111 127) (by decide +kernel)) dL_isSo_512 ?_
                                  refine lv_land hx hb dL_isSo_515 ?_
                                  refine lv_goto (tgt := 520) hx hb dL_isSo_516 (by decide) ?_
                                  refine lv_ladd hx hb dL_isSo_520 ?_
                                  refine lv_lstore (lv' := [(16, .long ((y_us τ.2 υ s9 i z) + (((υ z) >>> ((nI (7 * i)).toInt64 &&& 63)) &&& 127))), (0, .ref xo), (1, .ref (ay 0)), (2, .ref (ay 1)), (3, .ref (ay 2)), (4, .ref (ay 3)), (5, .ref (ay 4)), (6, .ref (ay 5)), (7, .ref (ay 6)), (8, .ref uo), (9, .ref (ay 8)), (10, .int 1), (11, .int (x_due σ np nr)), (12, .int (x_nend σ np nr)), (13, .int (nI s9)), (15, .int (nI i)), (18, .int (nI z))]) hx hb dL_isSo_521 hl (by decide) rfl (fun ls hl => ?_)
                                  refine lv_iinc (v := (nI z) + 1) (lv' := [(18, .int ((nI z) + 1)), (16, .long ((y_us τ.2 υ s9 i z) + (((υ z) >>> ((nI (7 * i)).toInt64 &&& 63)) &&& 127))), (0, .ref xo), (1, .ref (ay 0)), (2, .ref (ay 1)), (3, .ref (ay 2)), (4, .ref (ay 3)), (5, .ref (ay 4)), (6, .ref (ay 5)), (7, .ref (ay 6)), (8, .ref uo), (9, .ref (ay 8)), (10, .int 1), (11, .int (x_due σ np nr)), (12, .int (x_nend σ np nr)), (13, .int (nI s9)), (15, .int (nI i))]) hx hb dL_isSo_523 hl (k := 16) rfl rfl (by decide) rfl (fun ls hl => ?_)
                                  refine lv_goto (tgt := 479) hx hb dL_isSo_526 (by decide) ?_
                                  exact ihz (z + 1) (by omega) (by omega)   _ (lv_to (L := [(0, .ref xo), (1, .ref (ay 0)), (2, .ref (ay 1)), (3, .ref (ay 2)), (4, .ref (ay 3)), (5, .ref (ay 4)), (6, .ref (ay 5)), (7, .ref (ay 6)), (8, .ref uo), (9, .ref (ay 8)), (10, .int 1), (11, .int (x_due σ np nr)), (12, .int (x_nend σ np nr)), (13, .int (nI s9)), (15, .int (nI i)), (16, .long ((y_us τ.2 υ s9 i z) + (((υ z) >>> ((nI (7 * i)).toInt64 &&& 63)) &&& 127))), (18, .int ((nI z) + 1))]) (lv_sub hl [2, 3, 4, 5, 6, 7, 8, 9, 10, 11, 12, 13, 14, 15, 16, 1, 0] rfl) (lv_cr (lv_cr (lv_cr (lv_cr (lv_cr (lv_cr (lv_cr (lv_cr (lv_cr (lv_cr (lv_cr (lv_cr (lv_cr (lv_cr (lv_cr (lv_cl (by rw [y_us, if_pos c498]) (lv_ci (nI_1 z) rfl))))))))))))))))))
                          exact loop479 (nr + 1) 0 (by omega) (by omega)   _ (lv_to (L := [(0, .ref xo), (1, .ref (ay 0)), (2, .ref (ay 1)), (3, .ref (ay 2)), (4, .ref (ay 3)), (5, .ref (ay 4)), (6, .ref (ay 5)), (7, .ref (ay 6)), (8, .ref uo), (9, .ref (ay 8)), (10, .int 1), (11, .int (x_due σ np nr)), (12, .int (x_nend σ np nr)), (13, .int (nI s9)), (15, .int (nI i)), (16, .long 0), (18, .int 0)]) (lv_sub hl [2, 3, 4, 5, 6, 7, 8, 9, 10, 11, 12, 13, 14, 15, 16, 1, 0] rfl) (lv_cr (lv_cr (lv_cr (lv_cr (lv_cr (lv_cr (lv_cr (lv_cr (lv_cr (lv_cr (lv_cr (lv_cr (lv_cr (lv_cr (lv_cr (lv_cl (rfl) (lv_ci (rfl) rfl))))))))))))))))))
                    exact loop460 (np + 1) 0 (by omega) (by omega)   _ (lv_to (L := [(0, .ref xo), (1, .ref (ay 0)), (2, .ref (ay 1)), (3, .ref (ay 2)), (4, .ref (ay 3)), (5, .ref (ay 4)), (6, .ref (ay 5)), (7, .ref (ay 6)), (8, .ref uo), (9, .ref (ay 8)), (10, .int 1), (11, .int (x_due σ np nr)), (12, .int (x_nend σ np nr)), (13, .int (nI s9)), (15, .int 0)]) (lv_sub hl [2, 3, 4, 5, 6, 7, 8, 9, 10, 11, 1, 12, 13, 14, 0] rfl) (lv_cr (lv_cr (lv_cr (lv_cr (lv_cr (lv_cr (lv_cr (lv_cr (lv_cr (lv_cr (lv_cr (lv_cr (lv_cr (lv_cr (lv_ci (rfl) rfl))))))))))))))))
                  · have hkzz : z < nr := ge_f (Y_q2 hY) (by omega) c369
                    refine lv_iload hx hb dL_isSo_372 (lv_at hl 14 rfl) ?_
                    refine lv_aload_n hx hb dL_isSo_374 rfl (lv_at hl 3 rfl) ?_
                    refine lv_iload hx hb dL_isSo_375 (lv_at hl 15 rfl) ?_
                    refine yr_r (j := z) hx hb hK hPy (by omega) dL_isSo_377 ?_
                    refine lv_topc (y := m_subj μ.2 z) (Y_r hY hkzz) ?_
                    refine lv_iload hx hb dL_isSo_378 (lv_at hl 13 rfl) ?_
                    refine k_L_has (m_subj μ.2 z) s9 (by omega) ⟨hx, hb, hml, hown, hts⟩ gL_isSo_L_has ⟨Nat.le_of_ble_eq_true rfl, Nat.le_of_ble_eq_true rfl⟩ hl.1 ⟨Nat.zero_le _, Nat.zero_le _⟩ (Nat.le_of_ble_eq_true rfl) dL_isSo_380 ?_
                    refine lv_ifeq_b (tgt := 402) hx hb dL_isSo_383 (by decide) (fun c383 => ?_) (fun c383 => ?_)
                    · refine lv_iconst (v := 0) hx hb dL_isSo_402 (by decide) ?_
                      refine lv_ior hx hb dL_isSo_403 ?_
                      refine lv_istore (lv' := [(14, .int ((m_trc μ.2 s9 z) ||| 0)), (0, .ref xo), (1, .ref (ay 0)), (2, .ref (ay 1)), (3, .ref (ay 2)), (4, .ref (ay 3)), (5, .ref (ay 4)), (6, .ref (ay 5)), (7, .ref (ay 6)), (8, .ref uo), (9, .ref (ay 8)), (10, .int 1), (11, .int (x_due σ np nr)), (12, .int (x_nend σ np nr)), (13, .int (nI s9)), (15, .int (nI z))]) hx hb dL_isSo_404 hl (by decide) rfl (fun ls hl => ?_)
                      refine lv_iinc (v := (nI z) + 1) (lv' := [(15, .int ((nI z) + 1)), (14, .int ((m_trc μ.2 s9 z) ||| 0)), (0, .ref xo), (1, .ref (ay 0)), (2, .ref (ay 1)), (3, .ref (ay 2)), (4, .ref (ay 3)), (5, .ref (ay 4)), (6, .ref (ay 5)), (7, .ref (ay 6)), (8, .ref uo), (9, .ref (ay 8)), (10, .int 1), (11, .int (x_due σ np nr)), (12, .int (x_nend σ np nr)), (13, .int (nI s9))]) hx hb dL_isSo_406 hl (k := 15) rfl rfl (by decide) rfl (fun ls hl => ?_)
                      refine lv_goto (tgt := 364) hx hb dL_isSo_409 (by decide) ?_
                      exact ihz (z + 1) (by omega) (by omega)   _ (lv_to (L := [(0, .ref xo), (1, .ref (ay 0)), (2, .ref (ay 1)), (3, .ref (ay 2)), (4, .ref (ay 3)), (5, .ref (ay 4)), (6, .ref (ay 5)), (7, .ref (ay 6)), (8, .ref uo), (9, .ref (ay 8)), (10, .int 1), (11, .int (x_due σ np nr)), (12, .int (x_nend σ np nr)), (13, .int (nI s9)), (14, .int ((m_trc μ.2 s9 z) ||| 0)), (15, .int ((nI z) + 1))]) (lv_sub hl [2, 3, 4, 5, 6, 7, 8, 9, 10, 11, 12, 13, 14, 15, 1, 0] rfl) (lv_cr (lv_cr (lv_cr (lv_cr (lv_cr (lv_cr (lv_cr (lv_cr (lv_cr (lv_cr (lv_cr (lv_cr (lv_cr (lv_cr (lv_ci (by rw [or0, Y_trc hR hY hkzz, if_neg (fun h => by rw [c383] at h; cases h.1)]) (lv_ci (nI_1 z) rfl)))))))))))))))))
                    · refine lv_aload hx hb dL_isSo_386 (lv_at hl 7 rfl) ?_
                      refine lv_iload hx hb dL_isSo_388 (lv_at hl 15 rfl) ?_
                      refine yr_t (j := z) hx hb hK hPy (by omega) dL_isSo_390 ?_
                      refine lv_iconst (v := 2) hx hb dL_isSo_391 (by decide) ?_
                      refine lv_icmp_ge (tgt := 402) hx hb dL_isSo_392 (by decide) (fun c392 => ?_) (fun c392 => ?_)
                      · refine lv_iconst (v := 0) hx hb dL_isSo_402 (by decide) ?_
                        refine lv_ior hx hb dL_isSo_403 ?_
                        refine lv_istore (lv' := [(14, .int ((m_trc μ.2 s9 z) ||| 0)), (0, .ref xo), (1, .ref (ay 0)), (2, .ref (ay 1)), (3, .ref (ay 2)), (4, .ref (ay 3)), (5, .ref (ay 4)), (6, .ref (ay 5)), (7, .ref (ay 6)), (8, .ref uo), (9, .ref (ay 8)), (10, .int 1), (11, .int (x_due σ np nr)), (12, .int (x_nend σ np nr)), (13, .int (nI s9)), (15, .int (nI z))]) hx hb dL_isSo_404 hl (by decide) rfl (fun ls hl => ?_)
                        refine lv_iinc (v := (nI z) + 1) (lv' := [(15, .int ((nI z) + 1)), (14, .int ((m_trc μ.2 s9 z) ||| 0)), (0, .ref xo), (1, .ref (ay 0)), (2, .ref (ay 1)), (3, .ref (ay 2)), (4, .ref (ay 3)), (5, .ref (ay 4)), (6, .ref (ay 5)), (7, .ref (ay 6)), (8, .ref uo), (9, .ref (ay 8)), (10, .int 1), (11, .int (x_due σ np nr)), (12, .int (x_nend σ np nr)), (13, .int (nI s9))]) hx hb dL_isSo_406 hl (k := 15) rfl rfl (by decide) rfl (fun ls hl => ?_)
                        refine lv_goto (tgt := 364) hx hb dL_isSo_409 (by decide) ?_
                        exact ihz (z + 1) (by omega) (by omega)   _ (lv_to (L := [(0, .ref xo), (1, .ref (ay 0)), (2, .ref (ay 1)), (3, .ref (ay 2)), (4, .ref (ay 3)), (5, .ref (ay 4)), (6, .ref (ay 5)), (7, .ref (ay 6)), (8, .ref uo), (9, .ref (ay 8)), (10, .int 1), (11, .int (x_due σ np nr)), (12, .int (x_nend σ np nr)), (13, .int (nI s9)), (14, .int ((m_trc μ.2 s9 z) ||| 0)), (15, .int ((nI z) + 1))]) (lv_sub hl [2, 3, 4, 5, 6, 7, 8, 9, 10, 11, 12, 13, 14, 15, 1, 0] rfl) (lv_cr (lv_cr (lv_cr (lv_cr (lv_cr (lv_cr (lv_cr (lv_cr (lv_cr (lv_cr (lv_cr (lv_cr (lv_cr (lv_cr (lv_ci (by rw [or0, Y_trc hR hY hkzz, if_neg (fun h => absurd h.2 (Int32.not_lt.mpr c392))]) (lv_ci (nI_1 z) rfl)))))))))))))))))
                      · refine lv_iconst (v := 1) hx hb dL_isSo_395 (by decide) ?_
                        refine lv_iload hx hb dL_isSo_396 (lv_at hl 15 rfl) ?_
                        refine lv_ishl hx hb dL_isSo_398 ?_
                        refine lv_goto (tgt := 403) hx hb dL_isSo_399 (by decide) ?_
                        refine lv_ior hx hb dL_isSo_403 ?_
                        refine lv_istore (lv' := [(14, .int ((m_trc μ.2 s9 z) ||| (1 <<< ((nI z) &&& 31)))), (0, .ref xo), (1, .ref (ay 0)), (2, .ref (ay 1)), (3, .ref (ay 2)), (4, .ref (ay 3)), (5, .ref (ay 4)), (6, .ref (ay 5)), (7, .ref (ay 6)), (8, .ref uo), (9, .ref (ay 8)), (10, .int 1), (11, .int (x_due σ np nr)), (12, .int (x_nend σ np nr)), (13, .int (nI s9)), (15, .int (nI z))]) hx hb dL_isSo_404 hl (by decide) rfl (fun ls hl => ?_)
                        refine lv_iinc (v := (nI z) + 1) (lv' := [(15, .int ((nI z) + 1)), (14, .int ((m_trc μ.2 s9 z) ||| (1 <<< ((nI z) &&& 31)))), (0, .ref xo), (1, .ref (ay 0)), (2, .ref (ay 1)), (3, .ref (ay 2)), (4, .ref (ay 3)), (5, .ref (ay 4)), (6, .ref (ay 5)), (7, .ref (ay 6)), (8, .ref uo), (9, .ref (ay 8)), (10, .int 1), (11, .int (x_due σ np nr)), (12, .int (x_nend σ np nr)), (13, .int (nI s9))]) hx hb dL_isSo_406 hl (k := 15) rfl rfl (by decide) rfl (fun ls hl => ?_)
                        refine lv_goto (tgt := 364) hx hb dL_isSo_409 (by decide) ?_
                        exact ihz (z + 1) (by omega) (by omega)   _ (lv_to (L := [(0, .ref xo), (1, .ref (ay 0)), (2, .ref (ay 1)), (3, .ref (ay 2)), (4, .ref (ay 3)), (5, .ref (ay 4)), (6, .ref (ay 5)), (7, .ref (ay 6)), (8, .ref uo), (9, .ref (ay 8)), (10, .int 1), (11, .int (x_due σ np nr)), (12, .int (x_nend σ np nr)), (13, .int (nI s9)), (14, .int ((m_trc μ.2 s9 z) ||| (1 <<< ((nI z) &&& 31)))), (15, .int ((nI z) + 1))]) (lv_sub hl [2, 3, 4, 5, 6, 7, 8, 9, 10, 11, 12, 13, 14, 15, 1, 0] rfl) (lv_cr (lv_cr (lv_cr (lv_cr (lv_cr (lv_cr (lv_cr (lv_cr (lv_cr (lv_cr (lv_cr (lv_cr (lv_cr (lv_cr (lv_ci (by rw [Y_trc hR hY hkzz, if_pos ⟨c383, Int32.not_le.mp c392⟩]; rfl) (lv_ci (nI_1 z) rfl)))))))))))))))))
              exact loop364 (nr + 1) 0 (by omega) (by omega)   _ (lv_to (L := [(0, .ref xo), (1, .ref (ay 0)), (2, .ref (ay 1)), (3, .ref (ay 2)), (4, .ref (ay 3)), (5, .ref (ay 4)), (6, .ref (ay 5)), (7, .ref (ay 6)), (8, .ref uo), (9, .ref (ay 8)), (10, .int 1), (11, .int (x_due σ np nr)), (12, .int (x_nend σ np nr)), (13, .int (nI s9)), (14, .int 0), (15, .int 0)]) (lv_sub hl [2, 3, 4, 5, 6, 7, 8, 9, 10, 11, 12, 13, 14, 15, 1, 0] rfl) (lv_cr (lv_cr (lv_cr (lv_cr (lv_cr (lv_cr (lv_cr (lv_cr (lv_cr (lv_cr (lv_cr (lv_cr (lv_cr (lv_cr (lv_ci (rfl) (lv_ci (rfl) rfl)))))))))))))))))
        exact loop346 (6 + 1) 0 (by omega) (by omega)   _ (lv_to (L := [(0, .ref xo), (1, .ref (ay 0)), (2, .ref (ay 1)), (3, .ref (ay 2)), (4, .ref (ay 3)), (5, .ref (ay 4)), (6, .ref (ay 5)), (7, .ref (ay 6)), (8, .ref uo), (9, .ref (ay 8)), (10, .int 1), (11, .int (x_due σ np k)), (12, .int (x_nend σ np k)), (13, .int 0)]) (lv_sub hl [1, 2, 3, 4, 5, 6, 7, 8, 9, 10, 11, 12, 13, 0] rfl) (lv_cr (lv_cr (lv_cr (lv_cr (lv_cr (lv_cr (lv_cr (lv_cr (lv_cr (lv_cr (lv_cr (lv_ci (by rw [hkkk]) (lv_ci (by rw [hkkk]) (lv_ci (rfl) rfl)))))))))))))))
      · have hkkk : k < nr := ge_f (Y_q2 hY) (by omega) c52
        refine lv_iload hx hb dL_isSo_55 (lv_at hl 10 rfl) ?_
        refine lv_if_eq (tgt := 343) hx hb dL_isSo_57 (by decide) (fun c57 => absurd c57 (by decide)) (fun c57 => ?_)
        refine lv_aload hx hb dL_isSo_60 (lv_at hl 6 rfl) ?_
        refine lv_iload hx hb dL_isSo_62 (lv_at hl 13 rfl) ?_
        refine yr_a (j := k) hx hb hK hPy (by omega) dL_isSo_64 ?_
        refine lv_istore (lv' := [(14, .int (τ.2 5 k)), (0, .ref xo), (1, .ref (ay 0)), (2, .ref (ay 1)), (3, .ref (ay 2)), (4, .ref (ay 3)), (5, .ref (ay 4)), (6, .ref (ay 5)), (7, .ref (ay 6)), (8, .ref uo), (9, .ref (ay 8)), (10, .int 1), (11, .int (x_due σ np k)), (12, .int (x_nend σ np k)), (13, .int (nI k))]) hx hb dL_isSo_65 hl (by decide) rfl (fun ls hl => ?_)
        refine lv_iconst (v := 0) hx hb dL_isSo_67 (by decide) ?_
        refine lv_istore (lv' := [(15, .int 0), (14, .int (τ.2 5 k)), (0, .ref xo), (1, .ref (ay 0)), (2, .ref (ay 1)), (3, .ref (ay 2)), (4, .ref (ay 3)), (5, .ref (ay 4)), (6, .ref (ay 5)), (7, .ref (ay 6)), (8, .ref uo), (9, .ref (ay 8)), (10, .int 1), (11, .int (x_due σ np k)), (12, .int (x_nend σ np k)), (13, .int (nI k))]) hx hb dL_isSo_68 hl (by decide) rfl (fun ls hl => ?_)
        have loop70 : ∀ (n i : Nat), i ≤ np → np + 1 ≤ i + n → ∀ ls, lv_has ls 19 [(0, .ref xo), (1, .ref (ay 0)), (2, .ref (ay 1)), (3, .ref (ay 2)), (4, .ref (ay 3)), (5, .ref (ay 4)), (6, .ref (ay 5)), (7, .ref (ay 6)), (8, .ref uo), (9, .ref (ay 8)), (10, .int 1), (11, .int (x_due σ np k)), (12, .int (x_nend σ np k)), (13, .int (nI k)), (14, .int (m_enf μ.2 (μ.2 10 k) (m_subj μ.2 k) (μ.2 11 k) i)), (15, .int (nI i))] → q_G p l e ({ frames := 6, cells := 0, slots := 0, locals := 131 } : Room) s m ([.ref xo, .ref (ay 0), .ref (ay 1), .ref (ay 2), .ref (ay 3), .ref (ay 4), .ref (ay 5), .ref (ay 6), .ref uo, .ref (ay 8)] : List Value).toArray below meth c (some (.int (b01 true))) (F0 m 70 ls []) := by
          intro n
          induction n with
          | zero => intro i h1 h2; omega
          | succ n ihi =>
            intro i hk_i hn_i   ls hl
            refine lv_iload hx hb dL_isSo_70 (lv_at hl 15 rfl) ?_
            refine lv_aload_n hx hb dL_isSo_72 rfl (lv_at hl 1 rfl) ?_
            refine lv_iconst (v := 1) hx hb dL_isSo_73 (by decide) ?_
            refine lv_topc (y := nI 1) rfl ?_
            refine yr_q (j := 1) hx hb hK hPy (by omega) dL_isSo_74 ?_
            refine lv_icmp_ge (tgt := 181) hx hb dL_isSo_75 (by decide) (fun c75 => ?_) (fun c75 => ?_)
            · have hkii : i = np := Nat.le_antisymm hk_i (ge_t (Y_q1 hY) (by omega) (by omega) c75)
              refine lv_iload hx hb dL_isSo_181 (lv_at hl 11 rfl) ?_
              refine lv_aload hx hb dL_isSo_183 (lv_at hl 7 rfl) ?_
              refine lv_iload hx hb dL_isSo_185 (lv_at hl 13 rfl) ?_
              refine yr_t (j := k) hx hb hK hPy (by omega) dL_isSo_187 ?_
              refine lv_if_ne (tgt := 220) hx hb dL_isSo_188 (by decide) (fun c188 => ?_) (fun c188 => ?_)
              · refine lv_iconst (v := 0) hx hb dL_isSo_220 (by decide) ?_
                refine lv_ior hx hb dL_isSo_221 ?_
                refine lv_istore (lv' := [(11, .int ((x_due σ np k) ||| 0)), (0, .ref xo), (1, .ref (ay 0)), (2, .ref (ay 1)), (3, .ref (ay 2)), (4, .ref (ay 3)), (5, .ref (ay 4)), (6, .ref (ay 5)), (7, .ref (ay 6)), (8, .ref uo), (9, .ref (ay 8)), (10, .int 1), (12, .int (x_nend σ np k)), (13, .int (nI k)), (14, .int (m_enf μ.2 (μ.2 10 k) (m_subj μ.2 k) (μ.2 11 k) i)), (15, .int (nI i))]) hx hb dL_isSo_222 hl (by decide) rfl (fun ls hl => ?_)
                refine lv_aload hx hb dL_isSo_224 (lv_at hl 8 rfl) ?_
                refine lv_iload hx hb dL_isSo_226 (lv_at hl 13 rfl) ?_
                refine yr_t (j := k) hx hb hK hPy (by omega) dL_isSo_228 ?_
                refine lv_if_ne (tgt := 249) hx hb dL_isSo_229 (by decide) (fun c229 => ?_) (fun c229 => ?_)
                · refine lv_iload hx hb dL_isSo_249 (lv_at hl 12 rfl) ?_
                  refine lv_istore (lv' := [(12, .int (x_nend σ np k)), (11, .int ((x_due σ np k) ||| 0)), (0, .ref xo), (1, .ref (ay 0)), (2, .ref (ay 1)), (3, .ref (ay 2)), (4, .ref (ay 3)), (5, .ref (ay 4)), (6, .ref (ay 5)), (7, .ref (ay 6)), (8, .ref uo), (9, .ref (ay 8)), (10, .int 1), (13, .int (nI k)), (14, .int (m_enf μ.2 (μ.2 10 k) (m_subj μ.2 k) (μ.2 11 k) i)), (15, .int (nI i))]) hx hb dL_isSo_251 hl (by decide) rfl (fun ls hl => ?_)
                  refine lv_iload hx hb dL_isSo_253 (lv_at hl 12 rfl) ?_
                  refine lv_if_eq (tgt := 334) hx hb dL_isSo_255 (by decide) (fun c255 => absurd c255 (by decide)) (fun c255 => ?_)
                  refine lv_aload_n hx hb dL_isSo_258 rfl (lv_at hl 2 rfl) ?_
                  refine lv_iload hx hb dL_isSo_259 (lv_at hl 13 rfl) ?_
                  refine k_X0_stateOf D tI tZ tL xo ax σ k nr (R_x6 hR) (hn30) (by omega) ⟨hx, hb, hml, hown, hts⟩ gL_isSo_X0_stateOf ⟨Nat.le_of_ble_eq_true rfl, Nat.le_of_ble_eq_true rfl⟩ hl.1 ⟨Nat.zero_le _, Nat.zero_le _⟩ (Nat.le_of_ble_eq_true rfl) hK hPx dL_isSo_261 ?_
                  refine lv_aload hx hb dL_isSo_264 (lv_at hl 9 rfl) ?_
                  refine lv_iload hx hb dL_isSo_266 (lv_at hl 13 rfl) ?_
                  refine yr_t (j := k) hx hb hK hPy (by omega) dL_isSo_268 ?_
                  refine lv_icmp_ne (tgt := 334) hx hb dL_isSo_269 (by decide) (fun c269 => absurd ((state_eq hR hkkk).trans (Y_t hY hkkk).symm) c269) (fun c269 => ?_)
                  refine lv_aload_n hx hb dL_isSo_272 rfl (lv_at hl 2 rfl) ?_
                  refine lv_iload hx hb dL_isSo_273 (lv_at hl 13 rfl) ?_
                  refine k_X0_subjectsOf D tI tZ tL xo ax σ k nr (R_x6 hR) (hn30) (by omega) ⟨hx, hb, hml, hown, hts⟩ gL_isSo_X0_subjectsOf ⟨Nat.le_of_ble_eq_true rfl, Nat.le_of_ble_eq_true rfl⟩ hl.1 ⟨Nat.zero_le _, Nat.zero_le _⟩ (Nat.le_of_ble_eq_true rfl) hK hPx dL_isSo_275 ?_
                  refine lv_aload_n hx hb dL_isSo_278 rfl (lv_at hl 5 rfl) ?_
                  refine lv_iload hx hb dL_isSo_279 (lv_at hl 13 rfl) ?_
                  refine yr_r (j := k) hx hb hK hPy (by omega) dL_isSo_281 ?_
                  refine lv_icmp_ne (tgt := 334) hx hb dL_isSo_282 (by decide) (fun c282 => absurd ((R_su hR k hkkk).trans (Y_r hY hkkk).symm) c282) (fun c282 => ?_)
                  refine lv_aload_n hx hb dL_isSo_285 rfl (lv_at hl 2 rfl) ?_
                  refine lv_iload hx hb dL_isSo_286 (lv_at hl 13 rfl) ?_
                  refine k_X0_below D tI tZ tL xo ax σ k nr (R_x6 hR) (hn30) (by omega) ⟨hx, hb, hml, hown, hts⟩ gL_isSo_X0_below ⟨Nat.le_of_ble_eq_true rfl, Nat.le_of_ble_eq_true rfl⟩ hl.1 ⟨Nat.zero_le _, Nat.zero_le _⟩ (Nat.le_of_ble_eq_true rfl) hK hPx dL_isSo_288 ?_
                  refine lv_aload hx hb dL_isSo_291 (lv_at hl 6 rfl) ?_
                  refine lv_iload hx hb dL_isSo_293 (lv_at hl 13 rfl) ?_
                  refine yr_l (j := k) hx hb hK hPy (by omega) dL_isSo_295 ?_
                  refine lv_icmp_ne (tgt := 334) hx hb dL_isSo_296 (by decide) (fun c296 => absurd (show x_bel σ nr k = τ.2 3 k by rw [bel_eq (R_sl hR) hn30 hkkk, (R_rows hR).2.2.2.1, Y_l hY hkkk]) c296) (fun c296 => ?_)
                  refine lv_aload_n hx hb dL_isSo_299 rfl (lv_at hl 2 rfl) ?_
                  refine lv_iload hx hb dL_isSo_300 (lv_at hl 13 rfl) ?_
                  refine k_X0_endOf D tI tZ tL xo ax σ k nr (R_x6 hR) (hn30) (by omega) np (R_x1 hR) (hn8) ⟨hx, hb, hml, hown, hts⟩ gL_isSo_X0_endOf ⟨Nat.le_of_ble_eq_true rfl, Nat.le_of_ble_eq_true rfl⟩ hl.1 ⟨Nat.zero_le _, Nat.zero_le _⟩ (Nat.le_of_ble_eq_true rfl) hK hPx dL_isSo_302 ?_
                  refine lv_iload hx hb dL_isSo_305 (lv_at hl 14 rfl) ?_
                  refine lv_icmp_ne (tgt := 334) hx hb dL_isSo_307 (by decide) (fun c307 => absurd (by rw [endR_eq hR hkkk, hkii]; rfl) c307) (fun c307 => ?_)
                  refine lv_aload_n hx hb dL_isSo_310 rfl (lv_at hl 2 rfl) ?_
                  refine lv_iload hx hb dL_isSo_311 (lv_at hl 13 rfl) ?_
                  refine k_X0_whyKept D tI tZ tL xo ax σ k nr (R_x6 hR) (hn30) (by omega) ⟨hx, hb, hml, hown, hts⟩ gL_isSo_X0_whyKept ⟨Nat.le_of_ble_eq_true rfl, Nat.le_of_ble_eq_true rfl⟩ hl.1 ⟨Nat.zero_le _, Nat.zero_le _⟩ (Nat.le_of_ble_eq_true rfl) hK hPx dL_isSo_313 ?_
                  refine lv_iload hx hb dL_isSo_316 (lv_at hl 13 rfl) ?_
                  refine lv_aload_n hx hb dL_isSo_318 rfl (lv_at hl 3 rfl) ?_
                  refine lv_aload_n hx hb dL_isSo_319 rfl (lv_at hl 4 rfl) ?_
                  refine lv_aload hx hb dL_isSo_320 (lv_at hl 6 rfl) ?_
                  refine lv_aload hx hb dL_isSo_322 (lv_at hl 9 rfl) ?_
                  refine k_L_kept D tI tZ tL 0 ay τ k nr (Y_q2 hY) (hn30) (by omega) ⟨hx, hb, hml, hown, hts⟩ gL_isSo_L_kept ⟨Nat.le_of_ble_eq_true rfl, Nat.le_of_ble_eq_true rfl⟩ hl.1 ⟨Nat.zero_le _, Nat.zero_le _⟩ (Nat.le_of_ble_eq_true rfl) hK hPy dL_isSo_324 ?_
                  refine lv_icmp_ne (tgt := 334) hx hb dL_isSo_327 (by decide) (fun c327 => absurd ((kept_R hR hkkk).trans (Y_kept hR hY hkkk).symm) c327) (fun c327 => ?_)
                  refine lv_iconst (v := 1) hx hb dL_isSo_330 (by decide) ?_
                  refine lv_goto (tgt := 335) hx hb dL_isSo_331 (by decide) ?_
                  refine lv_istore (lv' := [(10, .int 1), (12, .int (x_nend σ np k)), (11, .int ((x_due σ np k) ||| 0)), (0, .ref xo), (1, .ref (ay 0)), (2, .ref (ay 1)), (3, .ref (ay 2)), (4, .ref (ay 3)), (5, .ref (ay 4)), (6, .ref (ay 5)), (7, .ref (ay 6)), (8, .ref uo), (9, .ref (ay 8)), (13, .int (nI k)), (14, .int (m_enf μ.2 (μ.2 10 k) (m_subj μ.2 k) (μ.2 11 k) i)), (15, .int (nI i))]) hx hb dL_isSo_335 hl (by decide) rfl (fun ls hl => ?_)
                  refine lv_iinc (v := (nI k) + 1) (lv' := [(13, .int ((nI k) + 1)), (10, .int 1), (12, .int (x_nend σ np k)), (11, .int ((x_due σ np k) ||| 0)), (0, .ref xo), (1, .ref (ay 0)), (2, .ref (ay 1)), (3, .ref (ay 2)), (4, .ref (ay 3)), (5, .ref (ay 4)), (6, .ref (ay 5)), (7, .ref (ay 6)), (8, .ref uo), (9, .ref (ay 8)), (14, .int (m_enf μ.2 (μ.2 10 k) (m_subj μ.2 k) (μ.2 11 k) i)), (15, .int (nI i))]) hx hb dL_isSo_337 hl (k := 13) rfl rfl (by decide) rfl (fun ls hl => ?_)
                  refine lv_goto (tgt := 47) hx hb dL_isSo_340 (by decide) ?_
                  exact ihk (k + 1) (by omega) (by omega)   _ (lv_to (L := [(0, .ref xo), (1, .ref (ay 0)), (2, .ref (ay 1)), (3, .ref (ay 2)), (4, .ref (ay 3)), (5, .ref (ay 4)), (6, .ref (ay 5)), (7, .ref (ay 6)), (8, .ref uo), (9, .ref (ay 8)), (10, .int 1), (11, .int ((x_due σ np k) ||| 0)), (12, .int (x_nend σ np k)), (13, .int ((nI k) + 1))]) (lv_sub hl [4, 5, 6, 7, 8, 9, 10, 11, 12, 13, 1, 3, 2, 0] rfl) (lv_cr (lv_cr (lv_cr (lv_cr (lv_cr (lv_cr (lv_cr (lv_cr (lv_cr (lv_cr (lv_cr (lv_ci (by rw [or0, Y_due hR hY hkkk, if_neg (fun h => c188 h.1)]) (lv_ci (by rw [Y_nend hR hY hkkk, if_neg (fun h => c229 h.1)]) (lv_ci (nI_1 k) rfl)))))))))))))))
                · refine lv_iload hx hb dL_isSo_232 (lv_at hl 12 rfl) ?_
                  refine lv_if_lt (tgt := 244) hx hb dL_isSo_234 (by decide) (fun c234 => ?_) (fun c234 => ?_)
                  · refine lv_iload hx hb dL_isSo_244 (lv_at hl 14 rfl) ?_
                    refine lv_goto (tgt := 251) hx hb dL_isSo_246 (by decide) ?_
                    refine lv_istore (lv' := [(12, .int (m_enf μ.2 (μ.2 10 k) (m_subj μ.2 k) (μ.2 11 k) i)), (11, .int ((x_due σ np k) ||| 0)), (0, .ref xo), (1, .ref (ay 0)), (2, .ref (ay 1)), (3, .ref (ay 2)), (4, .ref (ay 3)), (5, .ref (ay 4)), (6, .ref (ay 5)), (7, .ref (ay 6)), (8, .ref uo), (9, .ref (ay 8)), (10, .int 1), (13, .int (nI k)), (14, .int (m_enf μ.2 (μ.2 10 k) (m_subj μ.2 k) (μ.2 11 k) i)), (15, .int (nI i))]) hx hb dL_isSo_251 hl (by decide) rfl (fun ls hl => ?_)
                    refine lv_iload hx hb dL_isSo_253 (lv_at hl 12 rfl) ?_
                    refine lv_if_eq (tgt := 334) hx hb dL_isSo_255 (by decide) (fun c255 => absurd c255 (by decide)) (fun c255 => ?_)
                    refine lv_aload_n hx hb dL_isSo_258 rfl (lv_at hl 2 rfl) ?_
                    refine lv_iload hx hb dL_isSo_259 (lv_at hl 13 rfl) ?_
                    refine k_X0_stateOf D tI tZ tL xo ax σ k nr (R_x6 hR) (hn30) (by omega) ⟨hx, hb, hml, hown, hts⟩ gL_isSo_X0_stateOf ⟨Nat.le_of_ble_eq_true rfl, Nat.le_of_ble_eq_true rfl⟩ hl.1 ⟨Nat.zero_le _, Nat.zero_le _⟩ (Nat.le_of_ble_eq_true rfl) hK hPx dL_isSo_261 ?_
                    refine lv_aload hx hb dL_isSo_264 (lv_at hl 9 rfl) ?_
                    refine lv_iload hx hb dL_isSo_266 (lv_at hl 13 rfl) ?_
                    refine yr_t (j := k) hx hb hK hPy (by omega) dL_isSo_268 ?_
                    refine lv_icmp_ne (tgt := 334) hx hb dL_isSo_269 (by decide) (fun c269 => absurd ((state_eq hR hkkk).trans (Y_t hY hkkk).symm) c269) (fun c269 => ?_)
                    refine lv_aload_n hx hb dL_isSo_272 rfl (lv_at hl 2 rfl) ?_
                    refine lv_iload hx hb dL_isSo_273 (lv_at hl 13 rfl) ?_
                    refine k_X0_subjectsOf D tI tZ tL xo ax σ k nr (R_x6 hR) (hn30) (by omega) ⟨hx, hb, hml, hown, hts⟩ gL_isSo_X0_subjectsOf ⟨Nat.le_of_ble_eq_true rfl, Nat.le_of_ble_eq_true rfl⟩ hl.1 ⟨Nat.zero_le _, Nat.zero_le _⟩ (Nat.le_of_ble_eq_true rfl) hK hPx dL_isSo_275 ?_
                    refine lv_aload_n hx hb dL_isSo_278 rfl (lv_at hl 5 rfl) ?_
                    refine lv_iload hx hb dL_isSo_279 (lv_at hl 13 rfl) ?_
                    refine yr_r (j := k) hx hb hK hPy (by omega) dL_isSo_281 ?_
                    refine lv_icmp_ne (tgt := 334) hx hb dL_isSo_282 (by decide) (fun c282 => absurd ((R_su hR k hkkk).trans (Y_r hY hkkk).symm) c282) (fun c282 => ?_)
                    refine lv_aload_n hx hb dL_isSo_285 rfl (lv_at hl 2 rfl) ?_
                    refine lv_iload hx hb dL_isSo_286 (lv_at hl 13 rfl) ?_
                    refine k_X0_below D tI tZ tL xo ax σ k nr (R_x6 hR) (hn30) (by omega) ⟨hx, hb, hml, hown, hts⟩ gL_isSo_X0_below ⟨Nat.le_of_ble_eq_true rfl, Nat.le_of_ble_eq_true rfl⟩ hl.1 ⟨Nat.zero_le _, Nat.zero_le _⟩ (Nat.le_of_ble_eq_true rfl) hK hPx dL_isSo_288 ?_
                    refine lv_aload hx hb dL_isSo_291 (lv_at hl 6 rfl) ?_
                    refine lv_iload hx hb dL_isSo_293 (lv_at hl 13 rfl) ?_
                    refine yr_l (j := k) hx hb hK hPy (by omega) dL_isSo_295 ?_
                    refine lv_icmp_ne (tgt := 334) hx hb dL_isSo_296 (by decide) (fun c296 => absurd (show x_bel σ nr k = τ.2 3 k by rw [bel_eq (R_sl hR) hn30 hkkk, (R_rows hR).2.2.2.1, Y_l hY hkkk]) c296) (fun c296 => ?_)
                    refine lv_aload_n hx hb dL_isSo_299 rfl (lv_at hl 2 rfl) ?_
                    refine lv_iload hx hb dL_isSo_300 (lv_at hl 13 rfl) ?_
                    refine k_X0_endOf D tI tZ tL xo ax σ k nr (R_x6 hR) (hn30) (by omega) np (R_x1 hR) (hn8) ⟨hx, hb, hml, hown, hts⟩ gL_isSo_X0_endOf ⟨Nat.le_of_ble_eq_true rfl, Nat.le_of_ble_eq_true rfl⟩ hl.1 ⟨Nat.zero_le _, Nat.zero_le _⟩ (Nat.le_of_ble_eq_true rfl) hK hPx dL_isSo_302 ?_
                    refine lv_iload hx hb dL_isSo_305 (lv_at hl 14 rfl) ?_
                    refine lv_icmp_ne (tgt := 334) hx hb dL_isSo_307 (by decide) (fun c307 => absurd (by rw [endR_eq hR hkkk, hkii]; rfl) c307) (fun c307 => ?_)
                    refine lv_aload_n hx hb dL_isSo_310 rfl (lv_at hl 2 rfl) ?_
                    refine lv_iload hx hb dL_isSo_311 (lv_at hl 13 rfl) ?_
                    refine k_X0_whyKept D tI tZ tL xo ax σ k nr (R_x6 hR) (hn30) (by omega) ⟨hx, hb, hml, hown, hts⟩ gL_isSo_X0_whyKept ⟨Nat.le_of_ble_eq_true rfl, Nat.le_of_ble_eq_true rfl⟩ hl.1 ⟨Nat.zero_le _, Nat.zero_le _⟩ (Nat.le_of_ble_eq_true rfl) hK hPx dL_isSo_313 ?_
                    refine lv_iload hx hb dL_isSo_316 (lv_at hl 13 rfl) ?_
                    refine lv_aload_n hx hb dL_isSo_318 rfl (lv_at hl 3 rfl) ?_
                    refine lv_aload_n hx hb dL_isSo_319 rfl (lv_at hl 4 rfl) ?_
                    refine lv_aload hx hb dL_isSo_320 (lv_at hl 6 rfl) ?_
                    refine lv_aload hx hb dL_isSo_322 (lv_at hl 9 rfl) ?_
                    refine k_L_kept D tI tZ tL 0 ay τ k nr (Y_q2 hY) (hn30) (by omega) ⟨hx, hb, hml, hown, hts⟩ gL_isSo_L_kept ⟨Nat.le_of_ble_eq_true rfl, Nat.le_of_ble_eq_true rfl⟩ hl.1 ⟨Nat.zero_le _, Nat.zero_le _⟩ (Nat.le_of_ble_eq_true rfl) hK hPy dL_isSo_324 ?_
                    refine lv_icmp_ne (tgt := 334) hx hb dL_isSo_327 (by decide) (fun c327 => absurd ((kept_R hR hkkk).trans (Y_kept hR hY hkkk).symm) c327) (fun c327 => ?_)
                    refine lv_iconst (v := 1) hx hb dL_isSo_330 (by decide) ?_
                    refine lv_goto (tgt := 335) hx hb dL_isSo_331 (by decide) ?_
                    refine lv_istore (lv' := [(10, .int 1), (12, .int (m_enf μ.2 (μ.2 10 k) (m_subj μ.2 k) (μ.2 11 k) i)), (11, .int ((x_due σ np k) ||| 0)), (0, .ref xo), (1, .ref (ay 0)), (2, .ref (ay 1)), (3, .ref (ay 2)), (4, .ref (ay 3)), (5, .ref (ay 4)), (6, .ref (ay 5)), (7, .ref (ay 6)), (8, .ref uo), (9, .ref (ay 8)), (13, .int (nI k)), (14, .int (m_enf μ.2 (μ.2 10 k) (m_subj μ.2 k) (μ.2 11 k) i)), (15, .int (nI i))]) hx hb dL_isSo_335 hl (by decide) rfl (fun ls hl => ?_)
                    refine lv_iinc (v := (nI k) + 1) (lv' := [(13, .int ((nI k) + 1)), (10, .int 1), (12, .int (m_enf μ.2 (μ.2 10 k) (m_subj μ.2 k) (μ.2 11 k) i)), (11, .int ((x_due σ np k) ||| 0)), (0, .ref xo), (1, .ref (ay 0)), (2, .ref (ay 1)), (3, .ref (ay 2)), (4, .ref (ay 3)), (5, .ref (ay 4)), (6, .ref (ay 5)), (7, .ref (ay 6)), (8, .ref uo), (9, .ref (ay 8)), (14, .int (m_enf μ.2 (μ.2 10 k) (m_subj μ.2 k) (μ.2 11 k) i)), (15, .int (nI i))]) hx hb dL_isSo_337 hl (k := 13) rfl rfl (by decide) rfl (fun ls hl => ?_)
                    refine lv_goto (tgt := 47) hx hb dL_isSo_340 (by decide) ?_
                    exact ihk (k + 1) (by omega) (by omega)   _ (lv_to (L := [(0, .ref xo), (1, .ref (ay 0)), (2, .ref (ay 1)), (3, .ref (ay 2)), (4, .ref (ay 3)), (5, .ref (ay 4)), (6, .ref (ay 5)), (7, .ref (ay 6)), (8, .ref uo), (9, .ref (ay 8)), (10, .int 1), (11, .int ((x_due σ np k) ||| 0)), (12, .int (m_enf μ.2 (μ.2 10 k) (m_subj μ.2 k) (μ.2 11 k) i)), (13, .int ((nI k) + 1))]) (lv_sub hl [4, 5, 6, 7, 8, 9, 10, 11, 12, 13, 1, 3, 2, 0] rfl) (lv_cr (lv_cr (lv_cr (lv_cr (lv_cr (lv_cr (lv_cr (lv_cr (lv_cr (lv_cr (lv_cr (lv_ci (by rw [or0, Y_due hR hY hkkk, if_neg (fun h => c188 h.1)]) (lv_ci (by rw [Y_nend hR hY hkkk, if_pos ⟨c229, Or.inl c234⟩, hkii]; rfl) (lv_ci (nI_1 k) rfl)))))))))))))))
                  · refine lv_iload hx hb dL_isSo_237 (lv_at hl 14 rfl) ?_
                    refine lv_iload hx hb dL_isSo_239 (lv_at hl 12 rfl) ?_
                    refine lv_icmp_ge (tgt := 249) hx hb dL_isSo_241 (by decide) (fun c241 => ?_) (fun c241 => ?_)
                    · refine lv_iload hx hb dL_isSo_249 (lv_at hl 12 rfl) ?_
                      refine lv_istore (lv' := [(12, .int (x_nend σ np k)), (11, .int ((x_due σ np k) ||| 0)), (0, .ref xo), (1, .ref (ay 0)), (2, .ref (ay 1)), (3, .ref (ay 2)), (4, .ref (ay 3)), (5, .ref (ay 4)), (6, .ref (ay 5)), (7, .ref (ay 6)), (8, .ref uo), (9, .ref (ay 8)), (10, .int 1), (13, .int (nI k)), (14, .int (m_enf μ.2 (μ.2 10 k) (m_subj μ.2 k) (μ.2 11 k) i)), (15, .int (nI i))]) hx hb dL_isSo_251 hl (by decide) rfl (fun ls hl => ?_)
                      refine lv_iload hx hb dL_isSo_253 (lv_at hl 12 rfl) ?_
                      refine lv_if_eq (tgt := 334) hx hb dL_isSo_255 (by decide) (fun c255 => absurd c255 (by decide)) (fun c255 => ?_)
                      refine lv_aload_n hx hb dL_isSo_258 rfl (lv_at hl 2 rfl) ?_
                      refine lv_iload hx hb dL_isSo_259 (lv_at hl 13 rfl) ?_
                      refine k_X0_stateOf D tI tZ tL xo ax σ k nr (R_x6 hR) (hn30) (by omega) ⟨hx, hb, hml, hown, hts⟩ gL_isSo_X0_stateOf ⟨Nat.le_of_ble_eq_true rfl, Nat.le_of_ble_eq_true rfl⟩ hl.1 ⟨Nat.zero_le _, Nat.zero_le _⟩ (Nat.le_of_ble_eq_true rfl) hK hPx dL_isSo_261 ?_
                      refine lv_aload hx hb dL_isSo_264 (lv_at hl 9 rfl) ?_
                      refine lv_iload hx hb dL_isSo_266 (lv_at hl 13 rfl) ?_
                      refine yr_t (j := k) hx hb hK hPy (by omega) dL_isSo_268 ?_
                      refine lv_icmp_ne (tgt := 334) hx hb dL_isSo_269 (by decide) (fun c269 => absurd ((state_eq hR hkkk).trans (Y_t hY hkkk).symm) c269) (fun c269 => ?_)
                      refine lv_aload_n hx hb dL_isSo_272 rfl (lv_at hl 2 rfl) ?_
                      refine lv_iload hx hb dL_isSo_273 (lv_at hl 13 rfl) ?_
                      refine k_X0_subjectsOf D tI tZ tL xo ax σ k nr (R_x6 hR) (hn30) (by omega) ⟨hx, hb, hml, hown, hts⟩ gL_isSo_X0_subjectsOf ⟨Nat.le_of_ble_eq_true rfl, Nat.le_of_ble_eq_true rfl⟩ hl.1 ⟨Nat.zero_le _, Nat.zero_le _⟩ (Nat.le_of_ble_eq_true rfl) hK hPx dL_isSo_275 ?_
                      refine lv_aload_n hx hb dL_isSo_278 rfl (lv_at hl 5 rfl) ?_
                      refine lv_iload hx hb dL_isSo_279 (lv_at hl 13 rfl) ?_
                      refine yr_r (j := k) hx hb hK hPy (by omega) dL_isSo_281 ?_
                      refine lv_icmp_ne (tgt := 334) hx hb dL_isSo_282 (by decide) (fun c282 => absurd ((R_su hR k hkkk).trans (Y_r hY hkkk).symm) c282) (fun c282 => ?_)
                      refine lv_aload_n hx hb dL_isSo_285 rfl (lv_at hl 2 rfl) ?_
                      refine lv_iload hx hb dL_isSo_286 (lv_at hl 13 rfl) ?_
                      refine k_X0_below D tI tZ tL xo ax σ k nr (R_x6 hR) (hn30) (by omega) ⟨hx, hb, hml, hown, hts⟩ gL_isSo_X0_below ⟨Nat.le_of_ble_eq_true rfl, Nat.le_of_ble_eq_true rfl⟩ hl.1 ⟨Nat.zero_le _, Nat.zero_le _⟩ (Nat.le_of_ble_eq_true rfl) hK hPx dL_isSo_288 ?_
                      refine lv_aload hx hb dL_isSo_291 (lv_at hl 6 rfl) ?_
                      refine lv_iload hx hb dL_isSo_293 (lv_at hl 13 rfl) ?_
                      refine yr_l (j := k) hx hb hK hPy (by omega) dL_isSo_295 ?_
                      refine lv_icmp_ne (tgt := 334) hx hb dL_isSo_296 (by decide) (fun c296 => absurd (show x_bel σ nr k = τ.2 3 k by rw [bel_eq (R_sl hR) hn30 hkkk, (R_rows hR).2.2.2.1, Y_l hY hkkk]) c296) (fun c296 => ?_)
                      refine lv_aload_n hx hb dL_isSo_299 rfl (lv_at hl 2 rfl) ?_
                      refine lv_iload hx hb dL_isSo_300 (lv_at hl 13 rfl) ?_
                      refine k_X0_endOf D tI tZ tL xo ax σ k nr (R_x6 hR) (hn30) (by omega) np (R_x1 hR) (hn8) ⟨hx, hb, hml, hown, hts⟩ gL_isSo_X0_endOf ⟨Nat.le_of_ble_eq_true rfl, Nat.le_of_ble_eq_true rfl⟩ hl.1 ⟨Nat.zero_le _, Nat.zero_le _⟩ (Nat.le_of_ble_eq_true rfl) hK hPx dL_isSo_302 ?_
                      refine lv_iload hx hb dL_isSo_305 (lv_at hl 14 rfl) ?_
                      refine lv_icmp_ne (tgt := 334) hx hb dL_isSo_307 (by decide) (fun c307 => absurd (by rw [endR_eq hR hkkk, hkii]; rfl) c307) (fun c307 => ?_)
                      refine lv_aload_n hx hb dL_isSo_310 rfl (lv_at hl 2 rfl) ?_
                      refine lv_iload hx hb dL_isSo_311 (lv_at hl 13 rfl) ?_
                      refine k_X0_whyKept D tI tZ tL xo ax σ k nr (R_x6 hR) (hn30) (by omega) ⟨hx, hb, hml, hown, hts⟩ gL_isSo_X0_whyKept ⟨Nat.le_of_ble_eq_true rfl, Nat.le_of_ble_eq_true rfl⟩ hl.1 ⟨Nat.zero_le _, Nat.zero_le _⟩ (Nat.le_of_ble_eq_true rfl) hK hPx dL_isSo_313 ?_
                      refine lv_iload hx hb dL_isSo_316 (lv_at hl 13 rfl) ?_
                      refine lv_aload_n hx hb dL_isSo_318 rfl (lv_at hl 3 rfl) ?_
                      refine lv_aload_n hx hb dL_isSo_319 rfl (lv_at hl 4 rfl) ?_
                      refine lv_aload hx hb dL_isSo_320 (lv_at hl 6 rfl) ?_
                      refine lv_aload hx hb dL_isSo_322 (lv_at hl 9 rfl) ?_
                      refine k_L_kept D tI tZ tL 0 ay τ k nr (Y_q2 hY) (hn30) (by omega) ⟨hx, hb, hml, hown, hts⟩ gL_isSo_L_kept ⟨Nat.le_of_ble_eq_true rfl, Nat.le_of_ble_eq_true rfl⟩ hl.1 ⟨Nat.zero_le _, Nat.zero_le _⟩ (Nat.le_of_ble_eq_true rfl) hK hPy dL_isSo_324 ?_
                      refine lv_icmp_ne (tgt := 334) hx hb dL_isSo_327 (by decide) (fun c327 => absurd ((kept_R hR hkkk).trans (Y_kept hR hY hkkk).symm) c327) (fun c327 => ?_)
                      refine lv_iconst (v := 1) hx hb dL_isSo_330 (by decide) ?_
                      refine lv_goto (tgt := 335) hx hb dL_isSo_331 (by decide) ?_
                      refine lv_istore (lv' := [(10, .int 1), (12, .int (x_nend σ np k)), (11, .int ((x_due σ np k) ||| 0)), (0, .ref xo), (1, .ref (ay 0)), (2, .ref (ay 1)), (3, .ref (ay 2)), (4, .ref (ay 3)), (5, .ref (ay 4)), (6, .ref (ay 5)), (7, .ref (ay 6)), (8, .ref uo), (9, .ref (ay 8)), (13, .int (nI k)), (14, .int (m_enf μ.2 (μ.2 10 k) (m_subj μ.2 k) (μ.2 11 k) i)), (15, .int (nI i))]) hx hb dL_isSo_335 hl (by decide) rfl (fun ls hl => ?_)
                      refine lv_iinc (v := (nI k) + 1) (lv' := [(13, .int ((nI k) + 1)), (10, .int 1), (12, .int (x_nend σ np k)), (11, .int ((x_due σ np k) ||| 0)), (0, .ref xo), (1, .ref (ay 0)), (2, .ref (ay 1)), (3, .ref (ay 2)), (4, .ref (ay 3)), (5, .ref (ay 4)), (6, .ref (ay 5)), (7, .ref (ay 6)), (8, .ref uo), (9, .ref (ay 8)), (14, .int (m_enf μ.2 (μ.2 10 k) (m_subj μ.2 k) (μ.2 11 k) i)), (15, .int (nI i))]) hx hb dL_isSo_337 hl (k := 13) rfl rfl (by decide) rfl (fun ls hl => ?_)
                      refine lv_goto (tgt := 47) hx hb dL_isSo_340 (by decide) ?_
                      exact ihk (k + 1) (by omega) (by omega)   _ (lv_to (L := [(0, .ref xo), (1, .ref (ay 0)), (2, .ref (ay 1)), (3, .ref (ay 2)), (4, .ref (ay 3)), (5, .ref (ay 4)), (6, .ref (ay 5)), (7, .ref (ay 6)), (8, .ref uo), (9, .ref (ay 8)), (10, .int 1), (11, .int ((x_due σ np k) ||| 0)), (12, .int (x_nend σ np k)), (13, .int ((nI k) + 1))]) (lv_sub hl [4, 5, 6, 7, 8, 9, 10, 11, 12, 13, 1, 3, 2, 0] rfl) (lv_cr (lv_cr (lv_cr (lv_cr (lv_cr (lv_cr (lv_cr (lv_cr (lv_cr (lv_cr (lv_cr (lv_ci (by rw [or0, Y_due hR hY hkkk, if_neg (fun h => c188 h.1)]) (lv_ci (by rw [hkii] at c241; rw [Y_nend hR hY hkkk, if_neg (fun h => h.2.elim (fun g => c234 g) (fun g => absurd g (Int32.not_lt.mpr c241)))]) (lv_ci (nI_1 k) rfl)))))))))))))))
                    · refine lv_iload hx hb dL_isSo_244 (lv_at hl 14 rfl) ?_
                      refine lv_goto (tgt := 251) hx hb dL_isSo_246 (by decide) ?_
                      refine lv_istore (lv' := [(12, .int (m_enf μ.2 (μ.2 10 k) (m_subj μ.2 k) (μ.2 11 k) i)), (11, .int ((x_due σ np k) ||| 0)), (0, .ref xo), (1, .ref (ay 0)), (2, .ref (ay 1)), (3, .ref (ay 2)), (4, .ref (ay 3)), (5, .ref (ay 4)), (6, .ref (ay 5)), (7, .ref (ay 6)), (8, .ref uo), (9, .ref (ay 8)), (10, .int 1), (13, .int (nI k)), (14, .int (m_enf μ.2 (μ.2 10 k) (m_subj μ.2 k) (μ.2 11 k) i)), (15, .int (nI i))]) hx hb dL_isSo_251 hl (by decide) rfl (fun ls hl => ?_)
                      refine lv_iload hx hb dL_isSo_253 (lv_at hl 12 rfl) ?_
                      refine lv_if_eq (tgt := 334) hx hb dL_isSo_255 (by decide) (fun c255 => absurd c255 (by decide)) (fun c255 => ?_)
                      refine lv_aload_n hx hb dL_isSo_258 rfl (lv_at hl 2 rfl) ?_
                      refine lv_iload hx hb dL_isSo_259 (lv_at hl 13 rfl) ?_
                      refine k_X0_stateOf D tI tZ tL xo ax σ k nr (R_x6 hR) (hn30) (by omega) ⟨hx, hb, hml, hown, hts⟩ gL_isSo_X0_stateOf ⟨Nat.le_of_ble_eq_true rfl, Nat.le_of_ble_eq_true rfl⟩ hl.1 ⟨Nat.zero_le _, Nat.zero_le _⟩ (Nat.le_of_ble_eq_true rfl) hK hPx dL_isSo_261 ?_
                      refine lv_aload hx hb dL_isSo_264 (lv_at hl 9 rfl) ?_
                      refine lv_iload hx hb dL_isSo_266 (lv_at hl 13 rfl) ?_
                      refine yr_t (j := k) hx hb hK hPy (by omega) dL_isSo_268 ?_
                      refine lv_icmp_ne (tgt := 334) hx hb dL_isSo_269 (by decide) (fun c269 => absurd ((state_eq hR hkkk).trans (Y_t hY hkkk).symm) c269) (fun c269 => ?_)
                      refine lv_aload_n hx hb dL_isSo_272 rfl (lv_at hl 2 rfl) ?_
                      refine lv_iload hx hb dL_isSo_273 (lv_at hl 13 rfl) ?_
                      refine k_X0_subjectsOf D tI tZ tL xo ax σ k nr (R_x6 hR) (hn30) (by omega) ⟨hx, hb, hml, hown, hts⟩ gL_isSo_X0_subjectsOf ⟨Nat.le_of_ble_eq_true rfl, Nat.le_of_ble_eq_true rfl⟩ hl.1 ⟨Nat.zero_le _, Nat.zero_le _⟩ (Nat.le_of_ble_eq_true rfl) hK hPx dL_isSo_275 ?_
                      refine lv_aload_n hx hb dL_isSo_278 rfl (lv_at hl 5 rfl) ?_
                      refine lv_iload hx hb dL_isSo_279 (lv_at hl 13 rfl) ?_
                      refine yr_r (j := k) hx hb hK hPy (by omega) dL_isSo_281 ?_
                      refine lv_icmp_ne (tgt := 334) hx hb dL_isSo_282 (by decide) (fun c282 => absurd ((R_su hR k hkkk).trans (Y_r hY hkkk).symm) c282) (fun c282 => ?_)
                      refine lv_aload_n hx hb dL_isSo_285 rfl (lv_at hl 2 rfl) ?_
                      refine lv_iload hx hb dL_isSo_286 (lv_at hl 13 rfl) ?_
                      refine k_X0_below D tI tZ tL xo ax σ k nr (R_x6 hR) (hn30) (by omega) ⟨hx, hb, hml, hown, hts⟩ gL_isSo_X0_below ⟨Nat.le_of_ble_eq_true rfl, Nat.le_of_ble_eq_true rfl⟩ hl.1 ⟨Nat.zero_le _, Nat.zero_le _⟩ (Nat.le_of_ble_eq_true rfl) hK hPx dL_isSo_288 ?_
                      refine lv_aload hx hb dL_isSo_291 (lv_at hl 6 rfl) ?_
                      refine lv_iload hx hb dL_isSo_293 (lv_at hl 13 rfl) ?_
                      refine yr_l (j := k) hx hb hK hPy (by omega) dL_isSo_295 ?_
                      refine lv_icmp_ne (tgt := 334) hx hb dL_isSo_296 (by decide) (fun c296 => absurd (show x_bel σ nr k = τ.2 3 k by rw [bel_eq (R_sl hR) hn30 hkkk, (R_rows hR).2.2.2.1, Y_l hY hkkk]) c296) (fun c296 => ?_)
                      refine lv_aload_n hx hb dL_isSo_299 rfl (lv_at hl 2 rfl) ?_
                      refine lv_iload hx hb dL_isSo_300 (lv_at hl 13 rfl) ?_
                      refine k_X0_endOf D tI tZ tL xo ax σ k nr (R_x6 hR) (hn30) (by omega) np (R_x1 hR) (hn8) ⟨hx, hb, hml, hown, hts⟩ gL_isSo_X0_endOf ⟨Nat.le_of_ble_eq_true rfl, Nat.le_of_ble_eq_true rfl⟩ hl.1 ⟨Nat.zero_le _, Nat.zero_le _⟩ (Nat.le_of_ble_eq_true rfl) hK hPx dL_isSo_302 ?_
                      refine lv_iload hx hb dL_isSo_305 (lv_at hl 14 rfl) ?_
                      refine lv_icmp_ne (tgt := 334) hx hb dL_isSo_307 (by decide) (fun c307 => absurd (by rw [endR_eq hR hkkk, hkii]; rfl) c307) (fun c307 => ?_)
                      refine lv_aload_n hx hb dL_isSo_310 rfl (lv_at hl 2 rfl) ?_
                      refine lv_iload hx hb dL_isSo_311 (lv_at hl 13 rfl) ?_
                      refine k_X0_whyKept D tI tZ tL xo ax σ k nr (R_x6 hR) (hn30) (by omega) ⟨hx, hb, hml, hown, hts⟩ gL_isSo_X0_whyKept ⟨Nat.le_of_ble_eq_true rfl, Nat.le_of_ble_eq_true rfl⟩ hl.1 ⟨Nat.zero_le _, Nat.zero_le _⟩ (Nat.le_of_ble_eq_true rfl) hK hPx dL_isSo_313 ?_
                      refine lv_iload hx hb dL_isSo_316 (lv_at hl 13 rfl) ?_
                      refine lv_aload_n hx hb dL_isSo_318 rfl (lv_at hl 3 rfl) ?_
                      refine lv_aload_n hx hb dL_isSo_319 rfl (lv_at hl 4 rfl) ?_
                      refine lv_aload hx hb dL_isSo_320 (lv_at hl 6 rfl) ?_
                      refine lv_aload hx hb dL_isSo_322 (lv_at hl 9 rfl) ?_
                      refine k_L_kept D tI tZ tL 0 ay τ k nr (Y_q2 hY) (hn30) (by omega) ⟨hx, hb, hml, hown, hts⟩ gL_isSo_L_kept ⟨Nat.le_of_ble_eq_true rfl, Nat.le_of_ble_eq_true rfl⟩ hl.1 ⟨Nat.zero_le _, Nat.zero_le _⟩ (Nat.le_of_ble_eq_true rfl) hK hPy dL_isSo_324 ?_
                      refine lv_icmp_ne (tgt := 334) hx hb dL_isSo_327 (by decide) (fun c327 => absurd ((kept_R hR hkkk).trans (Y_kept hR hY hkkk).symm) c327) (fun c327 => ?_)
                      refine lv_iconst (v := 1) hx hb dL_isSo_330 (by decide) ?_
                      refine lv_goto (tgt := 335) hx hb dL_isSo_331 (by decide) ?_
                      refine lv_istore (lv' := [(10, .int 1), (12, .int (m_enf μ.2 (μ.2 10 k) (m_subj μ.2 k) (μ.2 11 k) i)), (11, .int ((x_due σ np k) ||| 0)), (0, .ref xo), (1, .ref (ay 0)), (2, .ref (ay 1)), (3, .ref (ay 2)), (4, .ref (ay 3)), (5, .ref (ay 4)), (6, .ref (ay 5)), (7, .ref (ay 6)), (8, .ref uo), (9, .ref (ay 8)), (13, .int (nI k)), (14, .int (m_enf μ.2 (μ.2 10 k) (m_subj μ.2 k) (μ.2 11 k) i)), (15, .int (nI i))]) hx hb dL_isSo_335 hl (by decide) rfl (fun ls hl => ?_)
                      refine lv_iinc (v := (nI k) + 1) (lv' := [(13, .int ((nI k) + 1)), (10, .int 1), (12, .int (m_enf μ.2 (μ.2 10 k) (m_subj μ.2 k) (μ.2 11 k) i)), (11, .int ((x_due σ np k) ||| 0)), (0, .ref xo), (1, .ref (ay 0)), (2, .ref (ay 1)), (3, .ref (ay 2)), (4, .ref (ay 3)), (5, .ref (ay 4)), (6, .ref (ay 5)), (7, .ref (ay 6)), (8, .ref uo), (9, .ref (ay 8)), (14, .int (m_enf μ.2 (μ.2 10 k) (m_subj μ.2 k) (μ.2 11 k) i)), (15, .int (nI i))]) hx hb dL_isSo_337 hl (k := 13) rfl rfl (by decide) rfl (fun ls hl => ?_)
                      refine lv_goto (tgt := 47) hx hb dL_isSo_340 (by decide) ?_
                      exact ihk (k + 1) (by omega) (by omega)   _ (lv_to (L := [(0, .ref xo), (1, .ref (ay 0)), (2, .ref (ay 1)), (3, .ref (ay 2)), (4, .ref (ay 3)), (5, .ref (ay 4)), (6, .ref (ay 5)), (7, .ref (ay 6)), (8, .ref uo), (9, .ref (ay 8)), (10, .int 1), (11, .int ((x_due σ np k) ||| 0)), (12, .int (m_enf μ.2 (μ.2 10 k) (m_subj μ.2 k) (μ.2 11 k) i)), (13, .int ((nI k) + 1))]) (lv_sub hl [4, 5, 6, 7, 8, 9, 10, 11, 12, 13, 1, 3, 2, 0] rfl) (lv_cr (lv_cr (lv_cr (lv_cr (lv_cr (lv_cr (lv_cr (lv_cr (lv_cr (lv_cr (lv_cr (lv_ci (by rw [or0, Y_due hR hY hkkk, if_neg (fun h => c188 h.1)]) (lv_ci (by rw [hkii] at c241; rw [Y_nend hR hY hkkk, if_pos ⟨c229, Or.inr (Int32.not_le.mp c241)⟩, hkii]; rfl) (lv_ci (nI_1 k) rfl)))))))))))))))
              · refine lv_aload hx hb dL_isSo_191 (lv_at hl 5 rfl) ?_
                refine lv_iload hx hb dL_isSo_193 (lv_at hl 13 rfl) ?_
                refine yr_g (j := k) hx hb hK hPy (by omega) dL_isSo_195 ?_
                refine lv_aload_n hx hb dL_isSo_196 rfl (lv_at hl 3 rfl) ?_
                refine lv_iload hx hb dL_isSo_197 (lv_at hl 13 rfl) ?_
                refine yr_r (j := k) hx hb hK hPy (by omega) dL_isSo_199 ?_
                refine lv_aload hx hb dL_isSo_200 (lv_at hl 6 rfl) ?_
                refine lv_iload hx hb dL_isSo_202 (lv_at hl 13 rfl) ?_
                refine yr_a (j := k) hx hb hK hPy (by omega) dL_isSo_204 ?_
                refine lv_aload_n hx hb dL_isSo_205 rfl (lv_at hl 1 rfl) ?_
                refine lv_aload_n hx hb dL_isSo_206 rfl (lv_at hl 2 rfl) ?_
                refine k_L_isOpen D tI tZ tL 0 ay τ (τ.2 4 k) (τ.2 2 k) (τ.2 5 k) np (Y_q1 hY) (hn8) ⟨hx, hb, hml, hown, hts⟩ gL_isSo_L_isOpen ⟨Nat.le_of_ble_eq_true rfl, Nat.le_of_ble_eq_true rfl⟩ hl.1 ⟨Nat.zero_le _, Nat.zero_le _⟩ (Nat.le_of_ble_eq_true rfl) hK hPy dL_isSo_207 ?_
                refine lv_ifne_b (tgt := 220) hx hb dL_isSo_210 (by decide) (fun c210 => ?_) (fun c210 => ?_)
                · refine lv_iconst (v := 0) hx hb dL_isSo_220 (by decide) ?_
                  refine lv_ior hx hb dL_isSo_221 ?_
                  refine lv_istore (lv' := [(11, .int ((x_due σ np k) ||| 0)), (0, .ref xo), (1, .ref (ay 0)), (2, .ref (ay 1)), (3, .ref (ay 2)), (4, .ref (ay 3)), (5, .ref (ay 4)), (6, .ref (ay 5)), (7, .ref (ay 6)), (8, .ref uo), (9, .ref (ay 8)), (10, .int 1), (12, .int (x_nend σ np k)), (13, .int (nI k)), (14, .int (m_enf μ.2 (μ.2 10 k) (m_subj μ.2 k) (μ.2 11 k) i)), (15, .int (nI i))]) hx hb dL_isSo_222 hl (by decide) rfl (fun ls hl => ?_)
                  refine lv_aload hx hb dL_isSo_224 (lv_at hl 8 rfl) ?_
                  refine lv_iload hx hb dL_isSo_226 (lv_at hl 13 rfl) ?_
                  refine yr_t (j := k) hx hb hK hPy (by omega) dL_isSo_228 ?_
                  refine lv_if_ne (tgt := 249) hx hb dL_isSo_229 (by decide) (fun c229 => ?_) (fun c229 => ?_)
                  · refine lv_iload hx hb dL_isSo_249 (lv_at hl 12 rfl) ?_
                    refine lv_istore (lv' := [(12, .int (x_nend σ np k)), (11, .int ((x_due σ np k) ||| 0)), (0, .ref xo), (1, .ref (ay 0)), (2, .ref (ay 1)), (3, .ref (ay 2)), (4, .ref (ay 3)), (5, .ref (ay 4)), (6, .ref (ay 5)), (7, .ref (ay 6)), (8, .ref uo), (9, .ref (ay 8)), (10, .int 1), (13, .int (nI k)), (14, .int (m_enf μ.2 (μ.2 10 k) (m_subj μ.2 k) (μ.2 11 k) i)), (15, .int (nI i))]) hx hb dL_isSo_251 hl (by decide) rfl (fun ls hl => ?_)
                    refine lv_iload hx hb dL_isSo_253 (lv_at hl 12 rfl) ?_
                    refine lv_if_eq (tgt := 334) hx hb dL_isSo_255 (by decide) (fun c255 => absurd c255 (by decide)) (fun c255 => ?_)
                    refine lv_aload_n hx hb dL_isSo_258 rfl (lv_at hl 2 rfl) ?_
                    refine lv_iload hx hb dL_isSo_259 (lv_at hl 13 rfl) ?_
                    refine k_X0_stateOf D tI tZ tL xo ax σ k nr (R_x6 hR) (hn30) (by omega) ⟨hx, hb, hml, hown, hts⟩ gL_isSo_X0_stateOf ⟨Nat.le_of_ble_eq_true rfl, Nat.le_of_ble_eq_true rfl⟩ hl.1 ⟨Nat.zero_le _, Nat.zero_le _⟩ (Nat.le_of_ble_eq_true rfl) hK hPx dL_isSo_261 ?_
                    refine lv_aload hx hb dL_isSo_264 (lv_at hl 9 rfl) ?_
                    refine lv_iload hx hb dL_isSo_266 (lv_at hl 13 rfl) ?_
                    refine yr_t (j := k) hx hb hK hPy (by omega) dL_isSo_268 ?_
                    refine lv_icmp_ne (tgt := 334) hx hb dL_isSo_269 (by decide) (fun c269 => absurd ((state_eq hR hkkk).trans (Y_t hY hkkk).symm) c269) (fun c269 => ?_)
                    refine lv_aload_n hx hb dL_isSo_272 rfl (lv_at hl 2 rfl) ?_
                    refine lv_iload hx hb dL_isSo_273 (lv_at hl 13 rfl) ?_
                    refine k_X0_subjectsOf D tI tZ tL xo ax σ k nr (R_x6 hR) (hn30) (by omega) ⟨hx, hb, hml, hown, hts⟩ gL_isSo_X0_subjectsOf ⟨Nat.le_of_ble_eq_true rfl, Nat.le_of_ble_eq_true rfl⟩ hl.1 ⟨Nat.zero_le _, Nat.zero_le _⟩ (Nat.le_of_ble_eq_true rfl) hK hPx dL_isSo_275 ?_
                    refine lv_aload_n hx hb dL_isSo_278 rfl (lv_at hl 5 rfl) ?_
                    refine lv_iload hx hb dL_isSo_279 (lv_at hl 13 rfl) ?_
                    refine yr_r (j := k) hx hb hK hPy (by omega) dL_isSo_281 ?_
                    refine lv_icmp_ne (tgt := 334) hx hb dL_isSo_282 (by decide) (fun c282 => absurd ((R_su hR k hkkk).trans (Y_r hY hkkk).symm) c282) (fun c282 => ?_)
                    refine lv_aload_n hx hb dL_isSo_285 rfl (lv_at hl 2 rfl) ?_
                    refine lv_iload hx hb dL_isSo_286 (lv_at hl 13 rfl) ?_
                    refine k_X0_below D tI tZ tL xo ax σ k nr (R_x6 hR) (hn30) (by omega) ⟨hx, hb, hml, hown, hts⟩ gL_isSo_X0_below ⟨Nat.le_of_ble_eq_true rfl, Nat.le_of_ble_eq_true rfl⟩ hl.1 ⟨Nat.zero_le _, Nat.zero_le _⟩ (Nat.le_of_ble_eq_true rfl) hK hPx dL_isSo_288 ?_
                    refine lv_aload hx hb dL_isSo_291 (lv_at hl 6 rfl) ?_
                    refine lv_iload hx hb dL_isSo_293 (lv_at hl 13 rfl) ?_
                    refine yr_l (j := k) hx hb hK hPy (by omega) dL_isSo_295 ?_
                    refine lv_icmp_ne (tgt := 334) hx hb dL_isSo_296 (by decide) (fun c296 => absurd (show x_bel σ nr k = τ.2 3 k by rw [bel_eq (R_sl hR) hn30 hkkk, (R_rows hR).2.2.2.1, Y_l hY hkkk]) c296) (fun c296 => ?_)
                    refine lv_aload_n hx hb dL_isSo_299 rfl (lv_at hl 2 rfl) ?_
                    refine lv_iload hx hb dL_isSo_300 (lv_at hl 13 rfl) ?_
                    refine k_X0_endOf D tI tZ tL xo ax σ k nr (R_x6 hR) (hn30) (by omega) np (R_x1 hR) (hn8) ⟨hx, hb, hml, hown, hts⟩ gL_isSo_X0_endOf ⟨Nat.le_of_ble_eq_true rfl, Nat.le_of_ble_eq_true rfl⟩ hl.1 ⟨Nat.zero_le _, Nat.zero_le _⟩ (Nat.le_of_ble_eq_true rfl) hK hPx dL_isSo_302 ?_
                    refine lv_iload hx hb dL_isSo_305 (lv_at hl 14 rfl) ?_
                    refine lv_icmp_ne (tgt := 334) hx hb dL_isSo_307 (by decide) (fun c307 => absurd (by rw [endR_eq hR hkkk, hkii]; rfl) c307) (fun c307 => ?_)
                    refine lv_aload_n hx hb dL_isSo_310 rfl (lv_at hl 2 rfl) ?_
                    refine lv_iload hx hb dL_isSo_311 (lv_at hl 13 rfl) ?_
                    refine k_X0_whyKept D tI tZ tL xo ax σ k nr (R_x6 hR) (hn30) (by omega) ⟨hx, hb, hml, hown, hts⟩ gL_isSo_X0_whyKept ⟨Nat.le_of_ble_eq_true rfl, Nat.le_of_ble_eq_true rfl⟩ hl.1 ⟨Nat.zero_le _, Nat.zero_le _⟩ (Nat.le_of_ble_eq_true rfl) hK hPx dL_isSo_313 ?_
                    refine lv_iload hx hb dL_isSo_316 (lv_at hl 13 rfl) ?_
                    refine lv_aload_n hx hb dL_isSo_318 rfl (lv_at hl 3 rfl) ?_
                    refine lv_aload_n hx hb dL_isSo_319 rfl (lv_at hl 4 rfl) ?_
                    refine lv_aload hx hb dL_isSo_320 (lv_at hl 6 rfl) ?_
                    refine lv_aload hx hb dL_isSo_322 (lv_at hl 9 rfl) ?_
                    refine k_L_kept D tI tZ tL 0 ay τ k nr (Y_q2 hY) (hn30) (by omega) ⟨hx, hb, hml, hown, hts⟩ gL_isSo_L_kept ⟨Nat.le_of_ble_eq_true rfl, Nat.le_of_ble_eq_true rfl⟩ hl.1 ⟨Nat.zero_le _, Nat.zero_le _⟩ (Nat.le_of_ble_eq_true rfl) hK hPy dL_isSo_324 ?_
                    refine lv_icmp_ne (tgt := 334) hx hb dL_isSo_327 (by decide) (fun c327 => absurd ((kept_R hR hkkk).trans (Y_kept hR hY hkkk).symm) c327) (fun c327 => ?_)
                    refine lv_iconst (v := 1) hx hb dL_isSo_330 (by decide) ?_
                    refine lv_goto (tgt := 335) hx hb dL_isSo_331 (by decide) ?_
                    refine lv_istore (lv' := [(10, .int 1), (12, .int (x_nend σ np k)), (11, .int ((x_due σ np k) ||| 0)), (0, .ref xo), (1, .ref (ay 0)), (2, .ref (ay 1)), (3, .ref (ay 2)), (4, .ref (ay 3)), (5, .ref (ay 4)), (6, .ref (ay 5)), (7, .ref (ay 6)), (8, .ref uo), (9, .ref (ay 8)), (13, .int (nI k)), (14, .int (m_enf μ.2 (μ.2 10 k) (m_subj μ.2 k) (μ.2 11 k) i)), (15, .int (nI i))]) hx hb dL_isSo_335 hl (by decide) rfl (fun ls hl => ?_)
                    refine lv_iinc (v := (nI k) + 1) (lv' := [(13, .int ((nI k) + 1)), (10, .int 1), (12, .int (x_nend σ np k)), (11, .int ((x_due σ np k) ||| 0)), (0, .ref xo), (1, .ref (ay 0)), (2, .ref (ay 1)), (3, .ref (ay 2)), (4, .ref (ay 3)), (5, .ref (ay 4)), (6, .ref (ay 5)), (7, .ref (ay 6)), (8, .ref uo), (9, .ref (ay 8)), (14, .int (m_enf μ.2 (μ.2 10 k) (m_subj μ.2 k) (μ.2 11 k) i)), (15, .int (nI i))]) hx hb dL_isSo_337 hl (k := 13) rfl rfl (by decide) rfl (fun ls hl => ?_)
                    refine lv_goto (tgt := 47) hx hb dL_isSo_340 (by decide) ?_
                    exact ihk (k + 1) (by omega) (by omega)   _ (lv_to (L := [(0, .ref xo), (1, .ref (ay 0)), (2, .ref (ay 1)), (3, .ref (ay 2)), (4, .ref (ay 3)), (5, .ref (ay 4)), (6, .ref (ay 5)), (7, .ref (ay 6)), (8, .ref uo), (9, .ref (ay 8)), (10, .int 1), (11, .int ((x_due σ np k) ||| 0)), (12, .int (x_nend σ np k)), (13, .int ((nI k) + 1))]) (lv_sub hl [4, 5, 6, 7, 8, 9, 10, 11, 12, 13, 1, 3, 2, 0] rfl) (lv_cr (lv_cr (lv_cr (lv_cr (lv_cr (lv_cr (lv_cr (lv_cr (lv_cr (lv_cr (lv_cr (lv_ci (by rw [or0, Y_due hR hY hkkk, if_neg (fun h => by rw [c210] at h; cases h.2)]) (lv_ci (by rw [Y_nend hR hY hkkk, if_neg (fun h => c229 h.1)]) (lv_ci (nI_1 k) rfl)))))))))))))))
                  · refine lv_iload hx hb dL_isSo_232 (lv_at hl 12 rfl) ?_
                    refine lv_if_lt (tgt := 244) hx hb dL_isSo_234 (by decide) (fun c234 => ?_) (fun c234 => ?_)
                    · refine lv_iload hx hb dL_isSo_244 (lv_at hl 14 rfl) ?_
                      refine lv_goto (tgt := 251) hx hb dL_isSo_246 (by decide) ?_
                      refine lv_istore (lv' := [(12, .int (m_enf μ.2 (μ.2 10 k) (m_subj μ.2 k) (μ.2 11 k) i)), (11, .int ((x_due σ np k) ||| 0)), (0, .ref xo), (1, .ref (ay 0)), (2, .ref (ay 1)), (3, .ref (ay 2)), (4, .ref (ay 3)), (5, .ref (ay 4)), (6, .ref (ay 5)), (7, .ref (ay 6)), (8, .ref uo), (9, .ref (ay 8)), (10, .int 1), (13, .int (nI k)), (14, .int (m_enf μ.2 (μ.2 10 k) (m_subj μ.2 k) (μ.2 11 k) i)), (15, .int (nI i))]) hx hb dL_isSo_251 hl (by decide) rfl (fun ls hl => ?_)
                      refine lv_iload hx hb dL_isSo_253 (lv_at hl 12 rfl) ?_
                      refine lv_if_eq (tgt := 334) hx hb dL_isSo_255 (by decide) (fun c255 => absurd c255 (by decide)) (fun c255 => ?_)
                      refine lv_aload_n hx hb dL_isSo_258 rfl (lv_at hl 2 rfl) ?_
                      refine lv_iload hx hb dL_isSo_259 (lv_at hl 13 rfl) ?_
                      refine k_X0_stateOf D tI tZ tL xo ax σ k nr (R_x6 hR) (hn30) (by omega) ⟨hx, hb, hml, hown, hts⟩ gL_isSo_X0_stateOf ⟨Nat.le_of_ble_eq_true rfl, Nat.le_of_ble_eq_true rfl⟩ hl.1 ⟨Nat.zero_le _, Nat.zero_le _⟩ (Nat.le_of_ble_eq_true rfl) hK hPx dL_isSo_261 ?_
                      refine lv_aload hx hb dL_isSo_264 (lv_at hl 9 rfl) ?_
                      refine lv_iload hx hb dL_isSo_266 (lv_at hl 13 rfl) ?_
                      refine yr_t (j := k) hx hb hK hPy (by omega) dL_isSo_268 ?_
                      refine lv_icmp_ne (tgt := 334) hx hb dL_isSo_269 (by decide) (fun c269 => absurd ((state_eq hR hkkk).trans (Y_t hY hkkk).symm) c269) (fun c269 => ?_)
                      refine lv_aload_n hx hb dL_isSo_272 rfl (lv_at hl 2 rfl) ?_
                      refine lv_iload hx hb dL_isSo_273 (lv_at hl 13 rfl) ?_
                      refine k_X0_subjectsOf D tI tZ tL xo ax σ k nr (R_x6 hR) (hn30) (by omega) ⟨hx, hb, hml, hown, hts⟩ gL_isSo_X0_subjectsOf ⟨Nat.le_of_ble_eq_true rfl, Nat.le_of_ble_eq_true rfl⟩ hl.1 ⟨Nat.zero_le _, Nat.zero_le _⟩ (Nat.le_of_ble_eq_true rfl) hK hPx dL_isSo_275 ?_
                      refine lv_aload_n hx hb dL_isSo_278 rfl (lv_at hl 5 rfl) ?_
                      refine lv_iload hx hb dL_isSo_279 (lv_at hl 13 rfl) ?_
                      refine yr_r (j := k) hx hb hK hPy (by omega) dL_isSo_281 ?_
                      refine lv_icmp_ne (tgt := 334) hx hb dL_isSo_282 (by decide) (fun c282 => absurd ((R_su hR k hkkk).trans (Y_r hY hkkk).symm) c282) (fun c282 => ?_)
                      refine lv_aload_n hx hb dL_isSo_285 rfl (lv_at hl 2 rfl) ?_
                      refine lv_iload hx hb dL_isSo_286 (lv_at hl 13 rfl) ?_
                      refine k_X0_below D tI tZ tL xo ax σ k nr (R_x6 hR) (hn30) (by omega) ⟨hx, hb, hml, hown, hts⟩ gL_isSo_X0_below ⟨Nat.le_of_ble_eq_true rfl, Nat.le_of_ble_eq_true rfl⟩ hl.1 ⟨Nat.zero_le _, Nat.zero_le _⟩ (Nat.le_of_ble_eq_true rfl) hK hPx dL_isSo_288 ?_
                      refine lv_aload hx hb dL_isSo_291 (lv_at hl 6 rfl) ?_
                      refine lv_iload hx hb dL_isSo_293 (lv_at hl 13 rfl) ?_
                      refine yr_l (j := k) hx hb hK hPy (by omega) dL_isSo_295 ?_
                      refine lv_icmp_ne (tgt := 334) hx hb dL_isSo_296 (by decide) (fun c296 => absurd (show x_bel σ nr k = τ.2 3 k by rw [bel_eq (R_sl hR) hn30 hkkk, (R_rows hR).2.2.2.1, Y_l hY hkkk]) c296) (fun c296 => ?_)
                      refine lv_aload_n hx hb dL_isSo_299 rfl (lv_at hl 2 rfl) ?_
                      refine lv_iload hx hb dL_isSo_300 (lv_at hl 13 rfl) ?_
                      refine k_X0_endOf D tI tZ tL xo ax σ k nr (R_x6 hR) (hn30) (by omega) np (R_x1 hR) (hn8) ⟨hx, hb, hml, hown, hts⟩ gL_isSo_X0_endOf ⟨Nat.le_of_ble_eq_true rfl, Nat.le_of_ble_eq_true rfl⟩ hl.1 ⟨Nat.zero_le _, Nat.zero_le _⟩ (Nat.le_of_ble_eq_true rfl) hK hPx dL_isSo_302 ?_
                      refine lv_iload hx hb dL_isSo_305 (lv_at hl 14 rfl) ?_
                      refine lv_icmp_ne (tgt := 334) hx hb dL_isSo_307 (by decide) (fun c307 => absurd (by rw [endR_eq hR hkkk, hkii]; rfl) c307) (fun c307 => ?_)
                      refine lv_aload_n hx hb dL_isSo_310 rfl (lv_at hl 2 rfl) ?_
                      refine lv_iload hx hb dL_isSo_311 (lv_at hl 13 rfl) ?_
                      refine k_X0_whyKept D tI tZ tL xo ax σ k nr (R_x6 hR) (hn30) (by omega) ⟨hx, hb, hml, hown, hts⟩ gL_isSo_X0_whyKept ⟨Nat.le_of_ble_eq_true rfl, Nat.le_of_ble_eq_true rfl⟩ hl.1 ⟨Nat.zero_le _, Nat.zero_le _⟩ (Nat.le_of_ble_eq_true rfl) hK hPx dL_isSo_313 ?_
                      refine lv_iload hx hb dL_isSo_316 (lv_at hl 13 rfl) ?_
                      refine lv_aload_n hx hb dL_isSo_318 rfl (lv_at hl 3 rfl) ?_
                      refine lv_aload_n hx hb dL_isSo_319 rfl (lv_at hl 4 rfl) ?_
                      refine lv_aload hx hb dL_isSo_320 (lv_at hl 6 rfl) ?_
                      refine lv_aload hx hb dL_isSo_322 (lv_at hl 9 rfl) ?_
                      refine k_L_kept D tI tZ tL 0 ay τ k nr (Y_q2 hY) (hn30) (by omega) ⟨hx, hb, hml, hown, hts⟩ gL_isSo_L_kept ⟨Nat.le_of_ble_eq_true rfl, Nat.le_of_ble_eq_true rfl⟩ hl.1 ⟨Nat.zero_le _, Nat.zero_le _⟩ (Nat.le_of_ble_eq_true rfl) hK hPy dL_isSo_324 ?_
                      refine lv_icmp_ne (tgt := 334) hx hb dL_isSo_327 (by decide) (fun c327 => absurd ((kept_R hR hkkk).trans (Y_kept hR hY hkkk).symm) c327) (fun c327 => ?_)
                      refine lv_iconst (v := 1) hx hb dL_isSo_330 (by decide) ?_
                      refine lv_goto (tgt := 335) hx hb dL_isSo_331 (by decide) ?_
                      refine lv_istore (lv' := [(10, .int 1), (12, .int (m_enf μ.2 (μ.2 10 k) (m_subj μ.2 k) (μ.2 11 k) i)), (11, .int ((x_due σ np k) ||| 0)), (0, .ref xo), (1, .ref (ay 0)), (2, .ref (ay 1)), (3, .ref (ay 2)), (4, .ref (ay 3)), (5, .ref (ay 4)), (6, .ref (ay 5)), (7, .ref (ay 6)), (8, .ref uo), (9, .ref (ay 8)), (13, .int (nI k)), (14, .int (m_enf μ.2 (μ.2 10 k) (m_subj μ.2 k) (μ.2 11 k) i)), (15, .int (nI i))]) hx hb dL_isSo_335 hl (by decide) rfl (fun ls hl => ?_)
                      refine lv_iinc (v := (nI k) + 1) (lv' := [(13, .int ((nI k) + 1)), (10, .int 1), (12, .int (m_enf μ.2 (μ.2 10 k) (m_subj μ.2 k) (μ.2 11 k) i)), (11, .int ((x_due σ np k) ||| 0)), (0, .ref xo), (1, .ref (ay 0)), (2, .ref (ay 1)), (3, .ref (ay 2)), (4, .ref (ay 3)), (5, .ref (ay 4)), (6, .ref (ay 5)), (7, .ref (ay 6)), (8, .ref uo), (9, .ref (ay 8)), (14, .int (m_enf μ.2 (μ.2 10 k) (m_subj μ.2 k) (μ.2 11 k) i)), (15, .int (nI i))]) hx hb dL_isSo_337 hl (k := 13) rfl rfl (by decide) rfl (fun ls hl => ?_)
                      refine lv_goto (tgt := 47) hx hb dL_isSo_340 (by decide) ?_
                      exact ihk (k + 1) (by omega) (by omega)   _ (lv_to (L := [(0, .ref xo), (1, .ref (ay 0)), (2, .ref (ay 1)), (3, .ref (ay 2)), (4, .ref (ay 3)), (5, .ref (ay 4)), (6, .ref (ay 5)), (7, .ref (ay 6)), (8, .ref uo), (9, .ref (ay 8)), (10, .int 1), (11, .int ((x_due σ np k) ||| 0)), (12, .int (m_enf μ.2 (μ.2 10 k) (m_subj μ.2 k) (μ.2 11 k) i)), (13, .int ((nI k) + 1))]) (lv_sub hl [4, 5, 6, 7, 8, 9, 10, 11, 12, 13, 1, 3, 2, 0] rfl) (lv_cr (lv_cr (lv_cr (lv_cr (lv_cr (lv_cr (lv_cr (lv_cr (lv_cr (lv_cr (lv_cr (lv_ci (by rw [or0, Y_due hR hY hkkk, if_neg (fun h => by rw [c210] at h; cases h.2)]) (lv_ci (by rw [Y_nend hR hY hkkk, if_pos ⟨c229, Or.inl c234⟩, hkii]; rfl) (lv_ci (nI_1 k) rfl)))))))))))))))
                    · refine lv_iload hx hb dL_isSo_237 (lv_at hl 14 rfl) ?_
                      refine lv_iload hx hb dL_isSo_239 (lv_at hl 12 rfl) ?_
                      refine lv_icmp_ge (tgt := 249) hx hb dL_isSo_241 (by decide) (fun c241 => ?_) (fun c241 => ?_)
                      · refine lv_iload hx hb dL_isSo_249 (lv_at hl 12 rfl) ?_
                        refine lv_istore (lv' := [(12, .int (x_nend σ np k)), (11, .int ((x_due σ np k) ||| 0)), (0, .ref xo), (1, .ref (ay 0)), (2, .ref (ay 1)), (3, .ref (ay 2)), (4, .ref (ay 3)), (5, .ref (ay 4)), (6, .ref (ay 5)), (7, .ref (ay 6)), (8, .ref uo), (9, .ref (ay 8)), (10, .int 1), (13, .int (nI k)), (14, .int (m_enf μ.2 (μ.2 10 k) (m_subj μ.2 k) (μ.2 11 k) i)), (15, .int (nI i))]) hx hb dL_isSo_251 hl (by decide) rfl (fun ls hl => ?_)
                        refine lv_iload hx hb dL_isSo_253 (lv_at hl 12 rfl) ?_
                        refine lv_if_eq (tgt := 334) hx hb dL_isSo_255 (by decide) (fun c255 => absurd c255 (by decide)) (fun c255 => ?_)
                        refine lv_aload_n hx hb dL_isSo_258 rfl (lv_at hl 2 rfl) ?_
                        refine lv_iload hx hb dL_isSo_259 (lv_at hl 13 rfl) ?_
                        refine k_X0_stateOf D tI tZ tL xo ax σ k nr (R_x6 hR) (hn30) (by omega) ⟨hx, hb, hml, hown, hts⟩ gL_isSo_X0_stateOf ⟨Nat.le_of_ble_eq_true rfl, Nat.le_of_ble_eq_true rfl⟩ hl.1 ⟨Nat.zero_le _, Nat.zero_le _⟩ (Nat.le_of_ble_eq_true rfl) hK hPx dL_isSo_261 ?_
                        refine lv_aload hx hb dL_isSo_264 (lv_at hl 9 rfl) ?_
                        refine lv_iload hx hb dL_isSo_266 (lv_at hl 13 rfl) ?_
                        refine yr_t (j := k) hx hb hK hPy (by omega) dL_isSo_268 ?_
                        refine lv_icmp_ne (tgt := 334) hx hb dL_isSo_269 (by decide) (fun c269 => absurd ((state_eq hR hkkk).trans (Y_t hY hkkk).symm) c269) (fun c269 => ?_)
                        refine lv_aload_n hx hb dL_isSo_272 rfl (lv_at hl 2 rfl) ?_
                        refine lv_iload hx hb dL_isSo_273 (lv_at hl 13 rfl) ?_
                        refine k_X0_subjectsOf D tI tZ tL xo ax σ k nr (R_x6 hR) (hn30) (by omega) ⟨hx, hb, hml, hown, hts⟩ gL_isSo_X0_subjectsOf ⟨Nat.le_of_ble_eq_true rfl, Nat.le_of_ble_eq_true rfl⟩ hl.1 ⟨Nat.zero_le _, Nat.zero_le _⟩ (Nat.le_of_ble_eq_true rfl) hK hPx dL_isSo_275 ?_
                        refine lv_aload_n hx hb dL_isSo_278 rfl (lv_at hl 5 rfl) ?_
                        refine lv_iload hx hb dL_isSo_279 (lv_at hl 13 rfl) ?_
                        refine yr_r (j := k) hx hb hK hPy (by omega) dL_isSo_281 ?_
                        refine lv_icmp_ne (tgt := 334) hx hb dL_isSo_282 (by decide) (fun c282 => absurd ((R_su hR k hkkk).trans (Y_r hY hkkk).symm) c282) (fun c282 => ?_)
                        refine lv_aload_n hx hb dL_isSo_285 rfl (lv_at hl 2 rfl) ?_
                        refine lv_iload hx hb dL_isSo_286 (lv_at hl 13 rfl) ?_
                        refine k_X0_below D tI tZ tL xo ax σ k nr (R_x6 hR) (hn30) (by omega) ⟨hx, hb, hml, hown, hts⟩ gL_isSo_X0_below ⟨Nat.le_of_ble_eq_true rfl, Nat.le_of_ble_eq_true rfl⟩ hl.1 ⟨Nat.zero_le _, Nat.zero_le _⟩ (Nat.le_of_ble_eq_true rfl) hK hPx dL_isSo_288 ?_
                        refine lv_aload hx hb dL_isSo_291 (lv_at hl 6 rfl) ?_
                        refine lv_iload hx hb dL_isSo_293 (lv_at hl 13 rfl) ?_
                        refine yr_l (j := k) hx hb hK hPy (by omega) dL_isSo_295 ?_
                        refine lv_icmp_ne (tgt := 334) hx hb dL_isSo_296 (by decide) (fun c296 => absurd (show x_bel σ nr k = τ.2 3 k by rw [bel_eq (R_sl hR) hn30 hkkk, (R_rows hR).2.2.2.1, Y_l hY hkkk]) c296) (fun c296 => ?_)
                        refine lv_aload_n hx hb dL_isSo_299 rfl (lv_at hl 2 rfl) ?_
                        refine lv_iload hx hb dL_isSo_300 (lv_at hl 13 rfl) ?_
                        refine k_X0_endOf D tI tZ tL xo ax σ k nr (R_x6 hR) (hn30) (by omega) np (R_x1 hR) (hn8) ⟨hx, hb, hml, hown, hts⟩ gL_isSo_X0_endOf ⟨Nat.le_of_ble_eq_true rfl, Nat.le_of_ble_eq_true rfl⟩ hl.1 ⟨Nat.zero_le _, Nat.zero_le _⟩ (Nat.le_of_ble_eq_true rfl) hK hPx dL_isSo_302 ?_
                        refine lv_iload hx hb dL_isSo_305 (lv_at hl 14 rfl) ?_
                        refine lv_icmp_ne (tgt := 334) hx hb dL_isSo_307 (by decide) (fun c307 => absurd (by rw [endR_eq hR hkkk, hkii]; rfl) c307) (fun c307 => ?_)
                        refine lv_aload_n hx hb dL_isSo_310 rfl (lv_at hl 2 rfl) ?_
                        refine lv_iload hx hb dL_isSo_311 (lv_at hl 13 rfl) ?_
                        refine k_X0_whyKept D tI tZ tL xo ax σ k nr (R_x6 hR) (hn30) (by omega) ⟨hx, hb, hml, hown, hts⟩ gL_isSo_X0_whyKept ⟨Nat.le_of_ble_eq_true rfl, Nat.le_of_ble_eq_true rfl⟩ hl.1 ⟨Nat.zero_le _, Nat.zero_le _⟩ (Nat.le_of_ble_eq_true rfl) hK hPx dL_isSo_313 ?_
                        refine lv_iload hx hb dL_isSo_316 (lv_at hl 13 rfl) ?_
                        refine lv_aload_n hx hb dL_isSo_318 rfl (lv_at hl 3 rfl) ?_
                        refine lv_aload_n hx hb dL_isSo_319 rfl (lv_at hl 4 rfl) ?_
                        refine lv_aload hx hb dL_isSo_320 (lv_at hl 6 rfl) ?_
                        refine lv_aload hx hb dL_isSo_322 (lv_at hl 9 rfl) ?_
                        refine k_L_kept D tI tZ tL 0 ay τ k nr (Y_q2 hY) (hn30) (by omega) ⟨hx, hb, hml, hown, hts⟩ gL_isSo_L_kept ⟨Nat.le_of_ble_eq_true rfl, Nat.le_of_ble_eq_true rfl⟩ hl.1 ⟨Nat.zero_le _, Nat.zero_le _⟩ (Nat.le_of_ble_eq_true rfl) hK hPy dL_isSo_324 ?_
                        refine lv_icmp_ne (tgt := 334) hx hb dL_isSo_327 (by decide) (fun c327 => absurd ((kept_R hR hkkk).trans (Y_kept hR hY hkkk).symm) c327) (fun c327 => ?_)
                        refine lv_iconst (v := 1) hx hb dL_isSo_330 (by decide) ?_
                        refine lv_goto (tgt := 335) hx hb dL_isSo_331 (by decide) ?_
                        refine lv_istore (lv' := [(10, .int 1), (12, .int (x_nend σ np k)), (11, .int ((x_due σ np k) ||| 0)), (0, .ref xo), (1, .ref (ay 0)), (2, .ref (ay 1)), (3, .ref (ay 2)), (4, .ref (ay 3)), (5, .ref (ay 4)), (6, .ref (ay 5)), (7, .ref (ay 6)), (8, .ref uo), (9, .ref (ay 8)), (13, .int (nI k)), (14, .int (m_enf μ.2 (μ.2 10 k) (m_subj μ.2 k) (μ.2 11 k) i)), (15, .int (nI i))]) hx hb dL_isSo_335 hl (by decide) rfl (fun ls hl => ?_)
                        refine lv_iinc (v := (nI k) + 1) (lv' := [(13, .int ((nI k) + 1)), (10, .int 1), (12, .int (x_nend σ np k)), (11, .int ((x_due σ np k) ||| 0)), (0, .ref xo), (1, .ref (ay 0)), (2, .ref (ay 1)), (3, .ref (ay 2)), (4, .ref (ay 3)), (5, .ref (ay 4)), (6, .ref (ay 5)), (7, .ref (ay 6)), (8, .ref uo), (9, .ref (ay 8)), (14, .int (m_enf μ.2 (μ.2 10 k) (m_subj μ.2 k) (μ.2 11 k) i)), (15, .int (nI i))]) hx hb dL_isSo_337 hl (k := 13) rfl rfl (by decide) rfl (fun ls hl => ?_)
                        refine lv_goto (tgt := 47) hx hb dL_isSo_340 (by decide) ?_
                        exact ihk (k + 1) (by omega) (by omega)   _ (lv_to (L := [(0, .ref xo), (1, .ref (ay 0)), (2, .ref (ay 1)), (3, .ref (ay 2)), (4, .ref (ay 3)), (5, .ref (ay 4)), (6, .ref (ay 5)), (7, .ref (ay 6)), (8, .ref uo), (9, .ref (ay 8)), (10, .int 1), (11, .int ((x_due σ np k) ||| 0)), (12, .int (x_nend σ np k)), (13, .int ((nI k) + 1))]) (lv_sub hl [4, 5, 6, 7, 8, 9, 10, 11, 12, 13, 1, 3, 2, 0] rfl) (lv_cr (lv_cr (lv_cr (lv_cr (lv_cr (lv_cr (lv_cr (lv_cr (lv_cr (lv_cr (lv_cr (lv_ci (by rw [or0, Y_due hR hY hkkk, if_neg (fun h => by rw [c210] at h; cases h.2)]) (lv_ci (by rw [hkii] at c241; rw [Y_nend hR hY hkkk, if_neg (fun h => h.2.elim (fun g => c234 g) (fun g => absurd g (Int32.not_lt.mpr c241)))]) (lv_ci (nI_1 k) rfl)))))))))))))))
                      · refine lv_iload hx hb dL_isSo_244 (lv_at hl 14 rfl) ?_
                        refine lv_goto (tgt := 251) hx hb dL_isSo_246 (by decide) ?_
                        refine lv_istore (lv' := [(12, .int (m_enf μ.2 (μ.2 10 k) (m_subj μ.2 k) (μ.2 11 k) i)), (11, .int ((x_due σ np k) ||| 0)), (0, .ref xo), (1, .ref (ay 0)), (2, .ref (ay 1)), (3, .ref (ay 2)), (4, .ref (ay 3)), (5, .ref (ay 4)), (6, .ref (ay 5)), (7, .ref (ay 6)), (8, .ref uo), (9, .ref (ay 8)), (10, .int 1), (13, .int (nI k)), (14, .int (m_enf μ.2 (μ.2 10 k) (m_subj μ.2 k) (μ.2 11 k) i)), (15, .int (nI i))]) hx hb dL_isSo_251 hl (by decide) rfl (fun ls hl => ?_)
                        refine lv_iload hx hb dL_isSo_253 (lv_at hl 12 rfl) ?_
                        refine lv_if_eq (tgt := 334) hx hb dL_isSo_255 (by decide) (fun c255 => absurd c255 (by decide)) (fun c255 => ?_)
                        refine lv_aload_n hx hb dL_isSo_258 rfl (lv_at hl 2 rfl) ?_
                        refine lv_iload hx hb dL_isSo_259 (lv_at hl 13 rfl) ?_
                        refine k_X0_stateOf D tI tZ tL xo ax σ k nr (R_x6 hR) (hn30) (by omega) ⟨hx, hb, hml, hown, hts⟩ gL_isSo_X0_stateOf ⟨Nat.le_of_ble_eq_true rfl, Nat.le_of_ble_eq_true rfl⟩ hl.1 ⟨Nat.zero_le _, Nat.zero_le _⟩ (Nat.le_of_ble_eq_true rfl) hK hPx dL_isSo_261 ?_
                        refine lv_aload hx hb dL_isSo_264 (lv_at hl 9 rfl) ?_
                        refine lv_iload hx hb dL_isSo_266 (lv_at hl 13 rfl) ?_
                        refine yr_t (j := k) hx hb hK hPy (by omega) dL_isSo_268 ?_
                        refine lv_icmp_ne (tgt := 334) hx hb dL_isSo_269 (by decide) (fun c269 => absurd ((state_eq hR hkkk).trans (Y_t hY hkkk).symm) c269) (fun c269 => ?_)
                        refine lv_aload_n hx hb dL_isSo_272 rfl (lv_at hl 2 rfl) ?_
                        refine lv_iload hx hb dL_isSo_273 (lv_at hl 13 rfl) ?_
                        refine k_X0_subjectsOf D tI tZ tL xo ax σ k nr (R_x6 hR) (hn30) (by omega) ⟨hx, hb, hml, hown, hts⟩ gL_isSo_X0_subjectsOf ⟨Nat.le_of_ble_eq_true rfl, Nat.le_of_ble_eq_true rfl⟩ hl.1 ⟨Nat.zero_le _, Nat.zero_le _⟩ (Nat.le_of_ble_eq_true rfl) hK hPx dL_isSo_275 ?_
                        refine lv_aload_n hx hb dL_isSo_278 rfl (lv_at hl 5 rfl) ?_
                        refine lv_iload hx hb dL_isSo_279 (lv_at hl 13 rfl) ?_
                        refine yr_r (j := k) hx hb hK hPy (by omega) dL_isSo_281 ?_
                        refine lv_icmp_ne (tgt := 334) hx hb dL_isSo_282 (by decide) (fun c282 => absurd ((R_su hR k hkkk).trans (Y_r hY hkkk).symm) c282) (fun c282 => ?_)
                        refine lv_aload_n hx hb dL_isSo_285 rfl (lv_at hl 2 rfl) ?_
                        refine lv_iload hx hb dL_isSo_286 (lv_at hl 13 rfl) ?_
                        refine k_X0_below D tI tZ tL xo ax σ k nr (R_x6 hR) (hn30) (by omega) ⟨hx, hb, hml, hown, hts⟩ gL_isSo_X0_below ⟨Nat.le_of_ble_eq_true rfl, Nat.le_of_ble_eq_true rfl⟩ hl.1 ⟨Nat.zero_le _, Nat.zero_le _⟩ (Nat.le_of_ble_eq_true rfl) hK hPx dL_isSo_288 ?_
                        refine lv_aload hx hb dL_isSo_291 (lv_at hl 6 rfl) ?_
                        refine lv_iload hx hb dL_isSo_293 (lv_at hl 13 rfl) ?_
                        refine yr_l (j := k) hx hb hK hPy (by omega) dL_isSo_295 ?_
                        refine lv_icmp_ne (tgt := 334) hx hb dL_isSo_296 (by decide) (fun c296 => absurd (show x_bel σ nr k = τ.2 3 k by rw [bel_eq (R_sl hR) hn30 hkkk, (R_rows hR).2.2.2.1, Y_l hY hkkk]) c296) (fun c296 => ?_)
                        refine lv_aload_n hx hb dL_isSo_299 rfl (lv_at hl 2 rfl) ?_
                        refine lv_iload hx hb dL_isSo_300 (lv_at hl 13 rfl) ?_
                        refine k_X0_endOf D tI tZ tL xo ax σ k nr (R_x6 hR) (hn30) (by omega) np (R_x1 hR) (hn8) ⟨hx, hb, hml, hown, hts⟩ gL_isSo_X0_endOf ⟨Nat.le_of_ble_eq_true rfl, Nat.le_of_ble_eq_true rfl⟩ hl.1 ⟨Nat.zero_le _, Nat.zero_le _⟩ (Nat.le_of_ble_eq_true rfl) hK hPx dL_isSo_302 ?_
                        refine lv_iload hx hb dL_isSo_305 (lv_at hl 14 rfl) ?_
                        refine lv_icmp_ne (tgt := 334) hx hb dL_isSo_307 (by decide) (fun c307 => absurd (by rw [endR_eq hR hkkk, hkii]; rfl) c307) (fun c307 => ?_)
                        refine lv_aload_n hx hb dL_isSo_310 rfl (lv_at hl 2 rfl) ?_
                        refine lv_iload hx hb dL_isSo_311 (lv_at hl 13 rfl) ?_
                        refine k_X0_whyKept D tI tZ tL xo ax σ k nr (R_x6 hR) (hn30) (by omega) ⟨hx, hb, hml, hown, hts⟩ gL_isSo_X0_whyKept ⟨Nat.le_of_ble_eq_true rfl, Nat.le_of_ble_eq_true rfl⟩ hl.1 ⟨Nat.zero_le _, Nat.zero_le _⟩ (Nat.le_of_ble_eq_true rfl) hK hPx dL_isSo_313 ?_
                        refine lv_iload hx hb dL_isSo_316 (lv_at hl 13 rfl) ?_
                        refine lv_aload_n hx hb dL_isSo_318 rfl (lv_at hl 3 rfl) ?_
                        refine lv_aload_n hx hb dL_isSo_319 rfl (lv_at hl 4 rfl) ?_
                        refine lv_aload hx hb dL_isSo_320 (lv_at hl 6 rfl) ?_
                        refine lv_aload hx hb dL_isSo_322 (lv_at hl 9 rfl) ?_
                        refine k_L_kept D tI tZ tL 0 ay τ k nr (Y_q2 hY) (hn30) (by omega) ⟨hx, hb, hml, hown, hts⟩ gL_isSo_L_kept ⟨Nat.le_of_ble_eq_true rfl, Nat.le_of_ble_eq_true rfl⟩ hl.1 ⟨Nat.zero_le _, Nat.zero_le _⟩ (Nat.le_of_ble_eq_true rfl) hK hPy dL_isSo_324 ?_
                        refine lv_icmp_ne (tgt := 334) hx hb dL_isSo_327 (by decide) (fun c327 => absurd ((kept_R hR hkkk).trans (Y_kept hR hY hkkk).symm) c327) (fun c327 => ?_)
                        refine lv_iconst (v := 1) hx hb dL_isSo_330 (by decide) ?_
                        refine lv_goto (tgt := 335) hx hb dL_isSo_331 (by decide) ?_
                        refine lv_istore (lv' := [(10, .int 1), (12, .int (m_enf μ.2 (μ.2 10 k) (m_subj μ.2 k) (μ.2 11 k) i)), (11, .int ((x_due σ np k) ||| 0)), (0, .ref xo), (1, .ref (ay 0)), (2, .ref (ay 1)), (3, .ref (ay 2)), (4, .ref (ay 3)), (5, .ref (ay 4)), (6, .ref (ay 5)), (7, .ref (ay 6)), (8, .ref uo), (9, .ref (ay 8)), (13, .int (nI k)), (14, .int (m_enf μ.2 (μ.2 10 k) (m_subj μ.2 k) (μ.2 11 k) i)), (15, .int (nI i))]) hx hb dL_isSo_335 hl (by decide) rfl (fun ls hl => ?_)
                        refine lv_iinc (v := (nI k) + 1) (lv' := [(13, .int ((nI k) + 1)), (10, .int 1), (12, .int (m_enf μ.2 (μ.2 10 k) (m_subj μ.2 k) (μ.2 11 k) i)), (11, .int ((x_due σ np k) ||| 0)), (0, .ref xo), (1, .ref (ay 0)), (2, .ref (ay 1)), (3, .ref (ay 2)), (4, .ref (ay 3)), (5, .ref (ay 4)), (6, .ref (ay 5)), (7, .ref (ay 6)), (8, .ref uo), (9, .ref (ay 8)), (14, .int (m_enf μ.2 (μ.2 10 k) (m_subj μ.2 k) (μ.2 11 k) i)), (15, .int (nI i))]) hx hb dL_isSo_337 hl (k := 13) rfl rfl (by decide) rfl (fun ls hl => ?_)
                        refine lv_goto (tgt := 47) hx hb dL_isSo_340 (by decide) ?_
                        exact ihk (k + 1) (by omega) (by omega)   _ (lv_to (L := [(0, .ref xo), (1, .ref (ay 0)), (2, .ref (ay 1)), (3, .ref (ay 2)), (4, .ref (ay 3)), (5, .ref (ay 4)), (6, .ref (ay 5)), (7, .ref (ay 6)), (8, .ref uo), (9, .ref (ay 8)), (10, .int 1), (11, .int ((x_due σ np k) ||| 0)), (12, .int (m_enf μ.2 (μ.2 10 k) (m_subj μ.2 k) (μ.2 11 k) i)), (13, .int ((nI k) + 1))]) (lv_sub hl [4, 5, 6, 7, 8, 9, 10, 11, 12, 13, 1, 3, 2, 0] rfl) (lv_cr (lv_cr (lv_cr (lv_cr (lv_cr (lv_cr (lv_cr (lv_cr (lv_cr (lv_cr (lv_cr (lv_ci (by rw [or0, Y_due hR hY hkkk, if_neg (fun h => by rw [c210] at h; cases h.2)]) (lv_ci (by rw [hkii] at c241; rw [Y_nend hR hY hkkk, if_pos ⟨c229, Or.inr (Int32.not_le.mp c241)⟩, hkii]; rfl) (lv_ci (nI_1 k) rfl)))))))))))))))
                · refine lv_iconst (v := 1) hx hb dL_isSo_213 (by decide) ?_
                  refine lv_iload hx hb dL_isSo_214 (lv_at hl 13 rfl) ?_
                  refine lv_ishl hx hb dL_isSo_216 ?_
                  refine lv_goto (tgt := 221) hx hb dL_isSo_217 (by decide) ?_
                  refine lv_ior hx hb dL_isSo_221 ?_
                  refine lv_istore (lv' := [(11, .int ((x_due σ np k) ||| (1 <<< ((nI k) &&& 31)))), (0, .ref xo), (1, .ref (ay 0)), (2, .ref (ay 1)), (3, .ref (ay 2)), (4, .ref (ay 3)), (5, .ref (ay 4)), (6, .ref (ay 5)), (7, .ref (ay 6)), (8, .ref uo), (9, .ref (ay 8)), (10, .int 1), (12, .int (x_nend σ np k)), (13, .int (nI k)), (14, .int (m_enf μ.2 (μ.2 10 k) (m_subj μ.2 k) (μ.2 11 k) i)), (15, .int (nI i))]) hx hb dL_isSo_222 hl (by decide) rfl (fun ls hl => ?_)
                  refine lv_aload hx hb dL_isSo_224 (lv_at hl 8 rfl) ?_
                  refine lv_iload hx hb dL_isSo_226 (lv_at hl 13 rfl) ?_
                  refine yr_t (j := k) hx hb hK hPy (by omega) dL_isSo_228 ?_
                  refine lv_if_ne (tgt := 249) hx hb dL_isSo_229 (by decide) (fun c229 => ?_) (fun c229 => ?_)
                  · refine lv_iload hx hb dL_isSo_249 (lv_at hl 12 rfl) ?_
                    refine lv_istore (lv' := [(12, .int (x_nend σ np k)), (11, .int ((x_due σ np k) ||| (1 <<< ((nI k) &&& 31)))), (0, .ref xo), (1, .ref (ay 0)), (2, .ref (ay 1)), (3, .ref (ay 2)), (4, .ref (ay 3)), (5, .ref (ay 4)), (6, .ref (ay 5)), (7, .ref (ay 6)), (8, .ref uo), (9, .ref (ay 8)), (10, .int 1), (13, .int (nI k)), (14, .int (m_enf μ.2 (μ.2 10 k) (m_subj μ.2 k) (μ.2 11 k) i)), (15, .int (nI i))]) hx hb dL_isSo_251 hl (by decide) rfl (fun ls hl => ?_)
                    refine lv_iload hx hb dL_isSo_253 (lv_at hl 12 rfl) ?_
                    refine lv_if_eq (tgt := 334) hx hb dL_isSo_255 (by decide) (fun c255 => absurd c255 (by decide)) (fun c255 => ?_)
                    refine lv_aload_n hx hb dL_isSo_258 rfl (lv_at hl 2 rfl) ?_
                    refine lv_iload hx hb dL_isSo_259 (lv_at hl 13 rfl) ?_
                    refine k_X0_stateOf D tI tZ tL xo ax σ k nr (R_x6 hR) (hn30) (by omega) ⟨hx, hb, hml, hown, hts⟩ gL_isSo_X0_stateOf ⟨Nat.le_of_ble_eq_true rfl, Nat.le_of_ble_eq_true rfl⟩ hl.1 ⟨Nat.zero_le _, Nat.zero_le _⟩ (Nat.le_of_ble_eq_true rfl) hK hPx dL_isSo_261 ?_
                    refine lv_aload hx hb dL_isSo_264 (lv_at hl 9 rfl) ?_
                    refine lv_iload hx hb dL_isSo_266 (lv_at hl 13 rfl) ?_
                    refine yr_t (j := k) hx hb hK hPy (by omega) dL_isSo_268 ?_
                    refine lv_icmp_ne (tgt := 334) hx hb dL_isSo_269 (by decide) (fun c269 => absurd ((state_eq hR hkkk).trans (Y_t hY hkkk).symm) c269) (fun c269 => ?_)
                    refine lv_aload_n hx hb dL_isSo_272 rfl (lv_at hl 2 rfl) ?_
                    refine lv_iload hx hb dL_isSo_273 (lv_at hl 13 rfl) ?_
                    refine k_X0_subjectsOf D tI tZ tL xo ax σ k nr (R_x6 hR) (hn30) (by omega) ⟨hx, hb, hml, hown, hts⟩ gL_isSo_X0_subjectsOf ⟨Nat.le_of_ble_eq_true rfl, Nat.le_of_ble_eq_true rfl⟩ hl.1 ⟨Nat.zero_le _, Nat.zero_le _⟩ (Nat.le_of_ble_eq_true rfl) hK hPx dL_isSo_275 ?_
                    refine lv_aload_n hx hb dL_isSo_278 rfl (lv_at hl 5 rfl) ?_
                    refine lv_iload hx hb dL_isSo_279 (lv_at hl 13 rfl) ?_
                    refine yr_r (j := k) hx hb hK hPy (by omega) dL_isSo_281 ?_
                    refine lv_icmp_ne (tgt := 334) hx hb dL_isSo_282 (by decide) (fun c282 => absurd ((R_su hR k hkkk).trans (Y_r hY hkkk).symm) c282) (fun c282 => ?_)
                    refine lv_aload_n hx hb dL_isSo_285 rfl (lv_at hl 2 rfl) ?_
                    refine lv_iload hx hb dL_isSo_286 (lv_at hl 13 rfl) ?_
                    refine k_X0_below D tI tZ tL xo ax σ k nr (R_x6 hR) (hn30) (by omega) ⟨hx, hb, hml, hown, hts⟩ gL_isSo_X0_below ⟨Nat.le_of_ble_eq_true rfl, Nat.le_of_ble_eq_true rfl⟩ hl.1 ⟨Nat.zero_le _, Nat.zero_le _⟩ (Nat.le_of_ble_eq_true rfl) hK hPx dL_isSo_288 ?_
                    refine lv_aload hx hb dL_isSo_291 (lv_at hl 6 rfl) ?_
                    refine lv_iload hx hb dL_isSo_293 (lv_at hl 13 rfl) ?_
                    refine yr_l (j := k) hx hb hK hPy (by omega) dL_isSo_295 ?_
                    refine lv_icmp_ne (tgt := 334) hx hb dL_isSo_296 (by decide) (fun c296 => absurd (show x_bel σ nr k = τ.2 3 k by rw [bel_eq (R_sl hR) hn30 hkkk, (R_rows hR).2.2.2.1, Y_l hY hkkk]) c296) (fun c296 => ?_)
                    refine lv_aload_n hx hb dL_isSo_299 rfl (lv_at hl 2 rfl) ?_
                    refine lv_iload hx hb dL_isSo_300 (lv_at hl 13 rfl) ?_
                    refine k_X0_endOf D tI tZ tL xo ax σ k nr (R_x6 hR) (hn30) (by omega) np (R_x1 hR) (hn8) ⟨hx, hb, hml, hown, hts⟩ gL_isSo_X0_endOf ⟨Nat.le_of_ble_eq_true rfl, Nat.le_of_ble_eq_true rfl⟩ hl.1 ⟨Nat.zero_le _, Nat.zero_le _⟩ (Nat.le_of_ble_eq_true rfl) hK hPx dL_isSo_302 ?_
                    refine lv_iload hx hb dL_isSo_305 (lv_at hl 14 rfl) ?_
                    refine lv_icmp_ne (tgt := 334) hx hb dL_isSo_307 (by decide) (fun c307 => absurd (by rw [endR_eq hR hkkk, hkii]; rfl) c307) (fun c307 => ?_)
                    refine lv_aload_n hx hb dL_isSo_310 rfl (lv_at hl 2 rfl) ?_
                    refine lv_iload hx hb dL_isSo_311 (lv_at hl 13 rfl) ?_
                    refine k_X0_whyKept D tI tZ tL xo ax σ k nr (R_x6 hR) (hn30) (by omega) ⟨hx, hb, hml, hown, hts⟩ gL_isSo_X0_whyKept ⟨Nat.le_of_ble_eq_true rfl, Nat.le_of_ble_eq_true rfl⟩ hl.1 ⟨Nat.zero_le _, Nat.zero_le _⟩ (Nat.le_of_ble_eq_true rfl) hK hPx dL_isSo_313 ?_
                    refine lv_iload hx hb dL_isSo_316 (lv_at hl 13 rfl) ?_
                    refine lv_aload_n hx hb dL_isSo_318 rfl (lv_at hl 3 rfl) ?_
                    refine lv_aload_n hx hb dL_isSo_319 rfl (lv_at hl 4 rfl) ?_
                    refine lv_aload hx hb dL_isSo_320 (lv_at hl 6 rfl) ?_
                    refine lv_aload hx hb dL_isSo_322 (lv_at hl 9 rfl) ?_
                    refine k_L_kept D tI tZ tL 0 ay τ k nr (Y_q2 hY) (hn30) (by omega) ⟨hx, hb, hml, hown, hts⟩ gL_isSo_L_kept ⟨Nat.le_of_ble_eq_true rfl, Nat.le_of_ble_eq_true rfl⟩ hl.1 ⟨Nat.zero_le _, Nat.zero_le _⟩ (Nat.le_of_ble_eq_true rfl) hK hPy dL_isSo_324 ?_
                    refine lv_icmp_ne (tgt := 334) hx hb dL_isSo_327 (by decide) (fun c327 => absurd ((kept_R hR hkkk).trans (Y_kept hR hY hkkk).symm) c327) (fun c327 => ?_)
                    refine lv_iconst (v := 1) hx hb dL_isSo_330 (by decide) ?_
                    refine lv_goto (tgt := 335) hx hb dL_isSo_331 (by decide) ?_
                    refine lv_istore (lv' := [(10, .int 1), (12, .int (x_nend σ np k)), (11, .int ((x_due σ np k) ||| (1 <<< ((nI k) &&& 31)))), (0, .ref xo), (1, .ref (ay 0)), (2, .ref (ay 1)), (3, .ref (ay 2)), (4, .ref (ay 3)), (5, .ref (ay 4)), (6, .ref (ay 5)), (7, .ref (ay 6)), (8, .ref uo), (9, .ref (ay 8)), (13, .int (nI k)), (14, .int (m_enf μ.2 (μ.2 10 k) (m_subj μ.2 k) (μ.2 11 k) i)), (15, .int (nI i))]) hx hb dL_isSo_335 hl (by decide) rfl (fun ls hl => ?_)
                    refine lv_iinc (v := (nI k) + 1) (lv' := [(13, .int ((nI k) + 1)), (10, .int 1), (12, .int (x_nend σ np k)), (11, .int ((x_due σ np k) ||| (1 <<< ((nI k) &&& 31)))), (0, .ref xo), (1, .ref (ay 0)), (2, .ref (ay 1)), (3, .ref (ay 2)), (4, .ref (ay 3)), (5, .ref (ay 4)), (6, .ref (ay 5)), (7, .ref (ay 6)), (8, .ref uo), (9, .ref (ay 8)), (14, .int (m_enf μ.2 (μ.2 10 k) (m_subj μ.2 k) (μ.2 11 k) i)), (15, .int (nI i))]) hx hb dL_isSo_337 hl (k := 13) rfl rfl (by decide) rfl (fun ls hl => ?_)
                    refine lv_goto (tgt := 47) hx hb dL_isSo_340 (by decide) ?_
                    exact ihk (k + 1) (by omega) (by omega)   _ (lv_to (L := [(0, .ref xo), (1, .ref (ay 0)), (2, .ref (ay 1)), (3, .ref (ay 2)), (4, .ref (ay 3)), (5, .ref (ay 4)), (6, .ref (ay 5)), (7, .ref (ay 6)), (8, .ref uo), (9, .ref (ay 8)), (10, .int 1), (11, .int ((x_due σ np k) ||| (1 <<< ((nI k) &&& 31)))), (12, .int (x_nend σ np k)), (13, .int ((nI k) + 1))]) (lv_sub hl [4, 5, 6, 7, 8, 9, 10, 11, 12, 13, 1, 3, 2, 0] rfl) (lv_cr (lv_cr (lv_cr (lv_cr (lv_cr (lv_cr (lv_cr (lv_cr (lv_cr (lv_cr (lv_cr (lv_ci (by rw [Y_due hR hY hkkk, if_pos ⟨c188, c210⟩]; rfl) (lv_ci (by rw [Y_nend hR hY hkkk, if_neg (fun h => c229 h.1)]) (lv_ci (nI_1 k) rfl)))))))))))))))
                  · refine lv_iload hx hb dL_isSo_232 (lv_at hl 12 rfl) ?_
                    refine lv_if_lt (tgt := 244) hx hb dL_isSo_234 (by decide) (fun c234 => ?_) (fun c234 => ?_)
                    · refine lv_iload hx hb dL_isSo_244 (lv_at hl 14 rfl) ?_
                      refine lv_goto (tgt := 251) hx hb dL_isSo_246 (by decide) ?_
                      refine lv_istore (lv' := [(12, .int (m_enf μ.2 (μ.2 10 k) (m_subj μ.2 k) (μ.2 11 k) i)), (11, .int ((x_due σ np k) ||| (1 <<< ((nI k) &&& 31)))), (0, .ref xo), (1, .ref (ay 0)), (2, .ref (ay 1)), (3, .ref (ay 2)), (4, .ref (ay 3)), (5, .ref (ay 4)), (6, .ref (ay 5)), (7, .ref (ay 6)), (8, .ref uo), (9, .ref (ay 8)), (10, .int 1), (13, .int (nI k)), (14, .int (m_enf μ.2 (μ.2 10 k) (m_subj μ.2 k) (μ.2 11 k) i)), (15, .int (nI i))]) hx hb dL_isSo_251 hl (by decide) rfl (fun ls hl => ?_)
                      refine lv_iload hx hb dL_isSo_253 (lv_at hl 12 rfl) ?_
                      refine lv_if_eq (tgt := 334) hx hb dL_isSo_255 (by decide) (fun c255 => absurd c255 (by decide)) (fun c255 => ?_)
                      refine lv_aload_n hx hb dL_isSo_258 rfl (lv_at hl 2 rfl) ?_
                      refine lv_iload hx hb dL_isSo_259 (lv_at hl 13 rfl) ?_
                      refine k_X0_stateOf D tI tZ tL xo ax σ k nr (R_x6 hR) (hn30) (by omega) ⟨hx, hb, hml, hown, hts⟩ gL_isSo_X0_stateOf ⟨Nat.le_of_ble_eq_true rfl, Nat.le_of_ble_eq_true rfl⟩ hl.1 ⟨Nat.zero_le _, Nat.zero_le _⟩ (Nat.le_of_ble_eq_true rfl) hK hPx dL_isSo_261 ?_
                      refine lv_aload hx hb dL_isSo_264 (lv_at hl 9 rfl) ?_
                      refine lv_iload hx hb dL_isSo_266 (lv_at hl 13 rfl) ?_
                      refine yr_t (j := k) hx hb hK hPy (by omega) dL_isSo_268 ?_
                      refine lv_icmp_ne (tgt := 334) hx hb dL_isSo_269 (by decide) (fun c269 => absurd ((state_eq hR hkkk).trans (Y_t hY hkkk).symm) c269) (fun c269 => ?_)
                      refine lv_aload_n hx hb dL_isSo_272 rfl (lv_at hl 2 rfl) ?_
                      refine lv_iload hx hb dL_isSo_273 (lv_at hl 13 rfl) ?_
                      refine k_X0_subjectsOf D tI tZ tL xo ax σ k nr (R_x6 hR) (hn30) (by omega) ⟨hx, hb, hml, hown, hts⟩ gL_isSo_X0_subjectsOf ⟨Nat.le_of_ble_eq_true rfl, Nat.le_of_ble_eq_true rfl⟩ hl.1 ⟨Nat.zero_le _, Nat.zero_le _⟩ (Nat.le_of_ble_eq_true rfl) hK hPx dL_isSo_275 ?_
                      refine lv_aload_n hx hb dL_isSo_278 rfl (lv_at hl 5 rfl) ?_
                      refine lv_iload hx hb dL_isSo_279 (lv_at hl 13 rfl) ?_
                      refine yr_r (j := k) hx hb hK hPy (by omega) dL_isSo_281 ?_
                      refine lv_icmp_ne (tgt := 334) hx hb dL_isSo_282 (by decide) (fun c282 => absurd ((R_su hR k hkkk).trans (Y_r hY hkkk).symm) c282) (fun c282 => ?_)
                      refine lv_aload_n hx hb dL_isSo_285 rfl (lv_at hl 2 rfl) ?_
                      refine lv_iload hx hb dL_isSo_286 (lv_at hl 13 rfl) ?_
                      refine k_X0_below D tI tZ tL xo ax σ k nr (R_x6 hR) (hn30) (by omega) ⟨hx, hb, hml, hown, hts⟩ gL_isSo_X0_below ⟨Nat.le_of_ble_eq_true rfl, Nat.le_of_ble_eq_true rfl⟩ hl.1 ⟨Nat.zero_le _, Nat.zero_le _⟩ (Nat.le_of_ble_eq_true rfl) hK hPx dL_isSo_288 ?_
                      refine lv_aload hx hb dL_isSo_291 (lv_at hl 6 rfl) ?_
                      refine lv_iload hx hb dL_isSo_293 (lv_at hl 13 rfl) ?_
                      refine yr_l (j := k) hx hb hK hPy (by omega) dL_isSo_295 ?_
                      refine lv_icmp_ne (tgt := 334) hx hb dL_isSo_296 (by decide) (fun c296 => absurd (show x_bel σ nr k = τ.2 3 k by rw [bel_eq (R_sl hR) hn30 hkkk, (R_rows hR).2.2.2.1, Y_l hY hkkk]) c296) (fun c296 => ?_)
                      refine lv_aload_n hx hb dL_isSo_299 rfl (lv_at hl 2 rfl) ?_
                      refine lv_iload hx hb dL_isSo_300 (lv_at hl 13 rfl) ?_
                      refine k_X0_endOf D tI tZ tL xo ax σ k nr (R_x6 hR) (hn30) (by omega) np (R_x1 hR) (hn8) ⟨hx, hb, hml, hown, hts⟩ gL_isSo_X0_endOf ⟨Nat.le_of_ble_eq_true rfl, Nat.le_of_ble_eq_true rfl⟩ hl.1 ⟨Nat.zero_le _, Nat.zero_le _⟩ (Nat.le_of_ble_eq_true rfl) hK hPx dL_isSo_302 ?_
                      refine lv_iload hx hb dL_isSo_305 (lv_at hl 14 rfl) ?_
                      refine lv_icmp_ne (tgt := 334) hx hb dL_isSo_307 (by decide) (fun c307 => absurd (by rw [endR_eq hR hkkk, hkii]; rfl) c307) (fun c307 => ?_)
                      refine lv_aload_n hx hb dL_isSo_310 rfl (lv_at hl 2 rfl) ?_
                      refine lv_iload hx hb dL_isSo_311 (lv_at hl 13 rfl) ?_
                      refine k_X0_whyKept D tI tZ tL xo ax σ k nr (R_x6 hR) (hn30) (by omega) ⟨hx, hb, hml, hown, hts⟩ gL_isSo_X0_whyKept ⟨Nat.le_of_ble_eq_true rfl, Nat.le_of_ble_eq_true rfl⟩ hl.1 ⟨Nat.zero_le _, Nat.zero_le _⟩ (Nat.le_of_ble_eq_true rfl) hK hPx dL_isSo_313 ?_
                      refine lv_iload hx hb dL_isSo_316 (lv_at hl 13 rfl) ?_
                      refine lv_aload_n hx hb dL_isSo_318 rfl (lv_at hl 3 rfl) ?_
                      refine lv_aload_n hx hb dL_isSo_319 rfl (lv_at hl 4 rfl) ?_
                      refine lv_aload hx hb dL_isSo_320 (lv_at hl 6 rfl) ?_
                      refine lv_aload hx hb dL_isSo_322 (lv_at hl 9 rfl) ?_
                      refine k_L_kept D tI tZ tL 0 ay τ k nr (Y_q2 hY) (hn30) (by omega) ⟨hx, hb, hml, hown, hts⟩ gL_isSo_L_kept ⟨Nat.le_of_ble_eq_true rfl, Nat.le_of_ble_eq_true rfl⟩ hl.1 ⟨Nat.zero_le _, Nat.zero_le _⟩ (Nat.le_of_ble_eq_true rfl) hK hPy dL_isSo_324 ?_
                      refine lv_icmp_ne (tgt := 334) hx hb dL_isSo_327 (by decide) (fun c327 => absurd ((kept_R hR hkkk).trans (Y_kept hR hY hkkk).symm) c327) (fun c327 => ?_)
                      refine lv_iconst (v := 1) hx hb dL_isSo_330 (by decide) ?_
                      refine lv_goto (tgt := 335) hx hb dL_isSo_331 (by decide) ?_
                      refine lv_istore (lv' := [(10, .int 1), (12, .int (m_enf μ.2 (μ.2 10 k) (m_subj μ.2 k) (μ.2 11 k) i)), (11, .int ((x_due σ np k) ||| (1 <<< ((nI k) &&& 31)))), (0, .ref xo), (1, .ref (ay 0)), (2, .ref (ay 1)), (3, .ref (ay 2)), (4, .ref (ay 3)), (5, .ref (ay 4)), (6, .ref (ay 5)), (7, .ref (ay 6)), (8, .ref uo), (9, .ref (ay 8)), (13, .int (nI k)), (14, .int (m_enf μ.2 (μ.2 10 k) (m_subj μ.2 k) (μ.2 11 k) i)), (15, .int (nI i))]) hx hb dL_isSo_335 hl (by decide) rfl (fun ls hl => ?_)
                      refine lv_iinc (v := (nI k) + 1) (lv' := [(13, .int ((nI k) + 1)), (10, .int 1), (12, .int (m_enf μ.2 (μ.2 10 k) (m_subj μ.2 k) (μ.2 11 k) i)), (11, .int ((x_due σ np k) ||| (1 <<< ((nI k) &&& 31)))), (0, .ref xo), (1, .ref (ay 0)), (2, .ref (ay 1)), (3, .ref (ay 2)), (4, .ref (ay 3)), (5, .ref (ay 4)), (6, .ref (ay 5)), (7, .ref (ay 6)), (8, .ref uo), (9, .ref (ay 8)), (14, .int (m_enf μ.2 (μ.2 10 k) (m_subj μ.2 k) (μ.2 11 k) i)), (15, .int (nI i))]) hx hb dL_isSo_337 hl (k := 13) rfl rfl (by decide) rfl (fun ls hl => ?_)
                      refine lv_goto (tgt := 47) hx hb dL_isSo_340 (by decide) ?_
                      exact ihk (k + 1) (by omega) (by omega)   _ (lv_to (L := [(0, .ref xo), (1, .ref (ay 0)), (2, .ref (ay 1)), (3, .ref (ay 2)), (4, .ref (ay 3)), (5, .ref (ay 4)), (6, .ref (ay 5)), (7, .ref (ay 6)), (8, .ref uo), (9, .ref (ay 8)), (10, .int 1), (11, .int ((x_due σ np k) ||| (1 <<< ((nI k) &&& 31)))), (12, .int (m_enf μ.2 (μ.2 10 k) (m_subj μ.2 k) (μ.2 11 k) i)), (13, .int ((nI k) + 1))]) (lv_sub hl [4, 5, 6, 7, 8, 9, 10, 11, 12, 13, 1, 3, 2, 0] rfl) (lv_cr (lv_cr (lv_cr (lv_cr (lv_cr (lv_cr (lv_cr (lv_cr (lv_cr (lv_cr (lv_cr (lv_ci (by rw [Y_due hR hY hkkk, if_pos ⟨c188, c210⟩]; rfl) (lv_ci (by rw [Y_nend hR hY hkkk, if_pos ⟨c229, Or.inl c234⟩, hkii]; rfl) (lv_ci (nI_1 k) rfl)))))))))))))))
                    · refine lv_iload hx hb dL_isSo_237 (lv_at hl 14 rfl) ?_
                      refine lv_iload hx hb dL_isSo_239 (lv_at hl 12 rfl) ?_
                      refine lv_icmp_ge (tgt := 249) hx hb dL_isSo_241 (by decide) (fun c241 => ?_) (fun c241 => ?_)
                      · refine lv_iload hx hb dL_isSo_249 (lv_at hl 12 rfl) ?_
                        refine lv_istore (lv' := [(12, .int (x_nend σ np k)), (11, .int ((x_due σ np k) ||| (1 <<< ((nI k) &&& 31)))), (0, .ref xo), (1, .ref (ay 0)), (2, .ref (ay 1)), (3, .ref (ay 2)), (4, .ref (ay 3)), (5, .ref (ay 4)), (6, .ref (ay 5)), (7, .ref (ay 6)), (8, .ref uo), (9, .ref (ay 8)), (10, .int 1), (13, .int (nI k)), (14, .int (m_enf μ.2 (μ.2 10 k) (m_subj μ.2 k) (μ.2 11 k) i)), (15, .int (nI i))]) hx hb dL_isSo_251 hl (by decide) rfl (fun ls hl => ?_)
                        refine lv_iload hx hb dL_isSo_253 (lv_at hl 12 rfl) ?_
                        refine lv_if_eq (tgt := 334) hx hb dL_isSo_255 (by decide) (fun c255 => absurd c255 (by decide)) (fun c255 => ?_)
                        refine lv_aload_n hx hb dL_isSo_258 rfl (lv_at hl 2 rfl) ?_
                        refine lv_iload hx hb dL_isSo_259 (lv_at hl 13 rfl) ?_
                        refine k_X0_stateOf D tI tZ tL xo ax σ k nr (R_x6 hR) (hn30) (by omega) ⟨hx, hb, hml, hown, hts⟩ gL_isSo_X0_stateOf ⟨Nat.le_of_ble_eq_true rfl, Nat.le_of_ble_eq_true rfl⟩ hl.1 ⟨Nat.zero_le _, Nat.zero_le _⟩ (Nat.le_of_ble_eq_true rfl) hK hPx dL_isSo_261 ?_
                        refine lv_aload hx hb dL_isSo_264 (lv_at hl 9 rfl) ?_
                        refine lv_iload hx hb dL_isSo_266 (lv_at hl 13 rfl) ?_
                        refine yr_t (j := k) hx hb hK hPy (by omega) dL_isSo_268 ?_
                        refine lv_icmp_ne (tgt := 334) hx hb dL_isSo_269 (by decide) (fun c269 => absurd ((state_eq hR hkkk).trans (Y_t hY hkkk).symm) c269) (fun c269 => ?_)
                        refine lv_aload_n hx hb dL_isSo_272 rfl (lv_at hl 2 rfl) ?_
                        refine lv_iload hx hb dL_isSo_273 (lv_at hl 13 rfl) ?_
                        refine k_X0_subjectsOf D tI tZ tL xo ax σ k nr (R_x6 hR) (hn30) (by omega) ⟨hx, hb, hml, hown, hts⟩ gL_isSo_X0_subjectsOf ⟨Nat.le_of_ble_eq_true rfl, Nat.le_of_ble_eq_true rfl⟩ hl.1 ⟨Nat.zero_le _, Nat.zero_le _⟩ (Nat.le_of_ble_eq_true rfl) hK hPx dL_isSo_275 ?_
                        refine lv_aload_n hx hb dL_isSo_278 rfl (lv_at hl 5 rfl) ?_
                        refine lv_iload hx hb dL_isSo_279 (lv_at hl 13 rfl) ?_
                        refine yr_r (j := k) hx hb hK hPy (by omega) dL_isSo_281 ?_
                        refine lv_icmp_ne (tgt := 334) hx hb dL_isSo_282 (by decide) (fun c282 => absurd ((R_su hR k hkkk).trans (Y_r hY hkkk).symm) c282) (fun c282 => ?_)
                        refine lv_aload_n hx hb dL_isSo_285 rfl (lv_at hl 2 rfl) ?_
                        refine lv_iload hx hb dL_isSo_286 (lv_at hl 13 rfl) ?_
                        refine k_X0_below D tI tZ tL xo ax σ k nr (R_x6 hR) (hn30) (by omega) ⟨hx, hb, hml, hown, hts⟩ gL_isSo_X0_below ⟨Nat.le_of_ble_eq_true rfl, Nat.le_of_ble_eq_true rfl⟩ hl.1 ⟨Nat.zero_le _, Nat.zero_le _⟩ (Nat.le_of_ble_eq_true rfl) hK hPx dL_isSo_288 ?_
                        refine lv_aload hx hb dL_isSo_291 (lv_at hl 6 rfl) ?_
                        refine lv_iload hx hb dL_isSo_293 (lv_at hl 13 rfl) ?_
                        refine yr_l (j := k) hx hb hK hPy (by omega) dL_isSo_295 ?_
                        refine lv_icmp_ne (tgt := 334) hx hb dL_isSo_296 (by decide) (fun c296 => absurd (show x_bel σ nr k = τ.2 3 k by rw [bel_eq (R_sl hR) hn30 hkkk, (R_rows hR).2.2.2.1, Y_l hY hkkk]) c296) (fun c296 => ?_)
                        refine lv_aload_n hx hb dL_isSo_299 rfl (lv_at hl 2 rfl) ?_
                        refine lv_iload hx hb dL_isSo_300 (lv_at hl 13 rfl) ?_
                        refine k_X0_endOf D tI tZ tL xo ax σ k nr (R_x6 hR) (hn30) (by omega) np (R_x1 hR) (hn8) ⟨hx, hb, hml, hown, hts⟩ gL_isSo_X0_endOf ⟨Nat.le_of_ble_eq_true rfl, Nat.le_of_ble_eq_true rfl⟩ hl.1 ⟨Nat.zero_le _, Nat.zero_le _⟩ (Nat.le_of_ble_eq_true rfl) hK hPx dL_isSo_302 ?_
                        refine lv_iload hx hb dL_isSo_305 (lv_at hl 14 rfl) ?_
                        refine lv_icmp_ne (tgt := 334) hx hb dL_isSo_307 (by decide) (fun c307 => absurd (by rw [endR_eq hR hkkk, hkii]; rfl) c307) (fun c307 => ?_)
                        refine lv_aload_n hx hb dL_isSo_310 rfl (lv_at hl 2 rfl) ?_
                        refine lv_iload hx hb dL_isSo_311 (lv_at hl 13 rfl) ?_
                        refine k_X0_whyKept D tI tZ tL xo ax σ k nr (R_x6 hR) (hn30) (by omega) ⟨hx, hb, hml, hown, hts⟩ gL_isSo_X0_whyKept ⟨Nat.le_of_ble_eq_true rfl, Nat.le_of_ble_eq_true rfl⟩ hl.1 ⟨Nat.zero_le _, Nat.zero_le _⟩ (Nat.le_of_ble_eq_true rfl) hK hPx dL_isSo_313 ?_
                        refine lv_iload hx hb dL_isSo_316 (lv_at hl 13 rfl) ?_
                        refine lv_aload_n hx hb dL_isSo_318 rfl (lv_at hl 3 rfl) ?_
                        refine lv_aload_n hx hb dL_isSo_319 rfl (lv_at hl 4 rfl) ?_
                        refine lv_aload hx hb dL_isSo_320 (lv_at hl 6 rfl) ?_
                        refine lv_aload hx hb dL_isSo_322 (lv_at hl 9 rfl) ?_
                        refine k_L_kept D tI tZ tL 0 ay τ k nr (Y_q2 hY) (hn30) (by omega) ⟨hx, hb, hml, hown, hts⟩ gL_isSo_L_kept ⟨Nat.le_of_ble_eq_true rfl, Nat.le_of_ble_eq_true rfl⟩ hl.1 ⟨Nat.zero_le _, Nat.zero_le _⟩ (Nat.le_of_ble_eq_true rfl) hK hPy dL_isSo_324 ?_
                        refine lv_icmp_ne (tgt := 334) hx hb dL_isSo_327 (by decide) (fun c327 => absurd ((kept_R hR hkkk).trans (Y_kept hR hY hkkk).symm) c327) (fun c327 => ?_)
                        refine lv_iconst (v := 1) hx hb dL_isSo_330 (by decide) ?_
                        refine lv_goto (tgt := 335) hx hb dL_isSo_331 (by decide) ?_
                        refine lv_istore (lv' := [(10, .int 1), (12, .int (x_nend σ np k)), (11, .int ((x_due σ np k) ||| (1 <<< ((nI k) &&& 31)))), (0, .ref xo), (1, .ref (ay 0)), (2, .ref (ay 1)), (3, .ref (ay 2)), (4, .ref (ay 3)), (5, .ref (ay 4)), (6, .ref (ay 5)), (7, .ref (ay 6)), (8, .ref uo), (9, .ref (ay 8)), (13, .int (nI k)), (14, .int (m_enf μ.2 (μ.2 10 k) (m_subj μ.2 k) (μ.2 11 k) i)), (15, .int (nI i))]) hx hb dL_isSo_335 hl (by decide) rfl (fun ls hl => ?_)
                        refine lv_iinc (v := (nI k) + 1) (lv' := [(13, .int ((nI k) + 1)), (10, .int 1), (12, .int (x_nend σ np k)), (11, .int ((x_due σ np k) ||| (1 <<< ((nI k) &&& 31)))), (0, .ref xo), (1, .ref (ay 0)), (2, .ref (ay 1)), (3, .ref (ay 2)), (4, .ref (ay 3)), (5, .ref (ay 4)), (6, .ref (ay 5)), (7, .ref (ay 6)), (8, .ref uo), (9, .ref (ay 8)), (14, .int (m_enf μ.2 (μ.2 10 k) (m_subj μ.2 k) (μ.2 11 k) i)), (15, .int (nI i))]) hx hb dL_isSo_337 hl (k := 13) rfl rfl (by decide) rfl (fun ls hl => ?_)
                        refine lv_goto (tgt := 47) hx hb dL_isSo_340 (by decide) ?_
                        exact ihk (k + 1) (by omega) (by omega)   _ (lv_to (L := [(0, .ref xo), (1, .ref (ay 0)), (2, .ref (ay 1)), (3, .ref (ay 2)), (4, .ref (ay 3)), (5, .ref (ay 4)), (6, .ref (ay 5)), (7, .ref (ay 6)), (8, .ref uo), (9, .ref (ay 8)), (10, .int 1), (11, .int ((x_due σ np k) ||| (1 <<< ((nI k) &&& 31)))), (12, .int (x_nend σ np k)), (13, .int ((nI k) + 1))]) (lv_sub hl [4, 5, 6, 7, 8, 9, 10, 11, 12, 13, 1, 3, 2, 0] rfl) (lv_cr (lv_cr (lv_cr (lv_cr (lv_cr (lv_cr (lv_cr (lv_cr (lv_cr (lv_cr (lv_cr (lv_ci (by rw [Y_due hR hY hkkk, if_pos ⟨c188, c210⟩]; rfl) (lv_ci (by rw [hkii] at c241; rw [Y_nend hR hY hkkk, if_neg (fun h => h.2.elim (fun g => c234 g) (fun g => absurd g (Int32.not_lt.mpr c241)))]) (lv_ci (nI_1 k) rfl)))))))))))))))
                      · refine lv_iload hx hb dL_isSo_244 (lv_at hl 14 rfl) ?_
                        refine lv_goto (tgt := 251) hx hb dL_isSo_246 (by decide) ?_
                        refine lv_istore (lv' := [(12, .int (m_enf μ.2 (μ.2 10 k) (m_subj μ.2 k) (μ.2 11 k) i)), (11, .int ((x_due σ np k) ||| (1 <<< ((nI k) &&& 31)))), (0, .ref xo), (1, .ref (ay 0)), (2, .ref (ay 1)), (3, .ref (ay 2)), (4, .ref (ay 3)), (5, .ref (ay 4)), (6, .ref (ay 5)), (7, .ref (ay 6)), (8, .ref uo), (9, .ref (ay 8)), (10, .int 1), (13, .int (nI k)), (14, .int (m_enf μ.2 (μ.2 10 k) (m_subj μ.2 k) (μ.2 11 k) i)), (15, .int (nI i))]) hx hb dL_isSo_251 hl (by decide) rfl (fun ls hl => ?_)
                        refine lv_iload hx hb dL_isSo_253 (lv_at hl 12 rfl) ?_
                        refine lv_if_eq (tgt := 334) hx hb dL_isSo_255 (by decide) (fun c255 => absurd c255 (by decide)) (fun c255 => ?_)
                        refine lv_aload_n hx hb dL_isSo_258 rfl (lv_at hl 2 rfl) ?_
                        refine lv_iload hx hb dL_isSo_259 (lv_at hl 13 rfl) ?_
                        refine k_X0_stateOf D tI tZ tL xo ax σ k nr (R_x6 hR) (hn30) (by omega) ⟨hx, hb, hml, hown, hts⟩ gL_isSo_X0_stateOf ⟨Nat.le_of_ble_eq_true rfl, Nat.le_of_ble_eq_true rfl⟩ hl.1 ⟨Nat.zero_le _, Nat.zero_le _⟩ (Nat.le_of_ble_eq_true rfl) hK hPx dL_isSo_261 ?_
                        refine lv_aload hx hb dL_isSo_264 (lv_at hl 9 rfl) ?_
                        refine lv_iload hx hb dL_isSo_266 (lv_at hl 13 rfl) ?_
                        refine yr_t (j := k) hx hb hK hPy (by omega) dL_isSo_268 ?_
                        refine lv_icmp_ne (tgt := 334) hx hb dL_isSo_269 (by decide) (fun c269 => absurd ((state_eq hR hkkk).trans (Y_t hY hkkk).symm) c269) (fun c269 => ?_)
                        refine lv_aload_n hx hb dL_isSo_272 rfl (lv_at hl 2 rfl) ?_
                        refine lv_iload hx hb dL_isSo_273 (lv_at hl 13 rfl) ?_
                        refine k_X0_subjectsOf D tI tZ tL xo ax σ k nr (R_x6 hR) (hn30) (by omega) ⟨hx, hb, hml, hown, hts⟩ gL_isSo_X0_subjectsOf ⟨Nat.le_of_ble_eq_true rfl, Nat.le_of_ble_eq_true rfl⟩ hl.1 ⟨Nat.zero_le _, Nat.zero_le _⟩ (Nat.le_of_ble_eq_true rfl) hK hPx dL_isSo_275 ?_
                        refine lv_aload_n hx hb dL_isSo_278 rfl (lv_at hl 5 rfl) ?_
                        refine lv_iload hx hb dL_isSo_279 (lv_at hl 13 rfl) ?_
                        refine yr_r (j := k) hx hb hK hPy (by omega) dL_isSo_281 ?_
                        refine lv_icmp_ne (tgt := 334) hx hb dL_isSo_282 (by decide) (fun c282 => absurd ((R_su hR k hkkk).trans (Y_r hY hkkk).symm) c282) (fun c282 => ?_)
                        refine lv_aload_n hx hb dL_isSo_285 rfl (lv_at hl 2 rfl) ?_
                        refine lv_iload hx hb dL_isSo_286 (lv_at hl 13 rfl) ?_
                        refine k_X0_below D tI tZ tL xo ax σ k nr (R_x6 hR) (hn30) (by omega) ⟨hx, hb, hml, hown, hts⟩ gL_isSo_X0_below ⟨Nat.le_of_ble_eq_true rfl, Nat.le_of_ble_eq_true rfl⟩ hl.1 ⟨Nat.zero_le _, Nat.zero_le _⟩ (Nat.le_of_ble_eq_true rfl) hK hPx dL_isSo_288 ?_
                        refine lv_aload hx hb dL_isSo_291 (lv_at hl 6 rfl) ?_
                        refine lv_iload hx hb dL_isSo_293 (lv_at hl 13 rfl) ?_
                        refine yr_l (j := k) hx hb hK hPy (by omega) dL_isSo_295 ?_
                        refine lv_icmp_ne (tgt := 334) hx hb dL_isSo_296 (by decide) (fun c296 => absurd (show x_bel σ nr k = τ.2 3 k by rw [bel_eq (R_sl hR) hn30 hkkk, (R_rows hR).2.2.2.1, Y_l hY hkkk]) c296) (fun c296 => ?_)
                        refine lv_aload_n hx hb dL_isSo_299 rfl (lv_at hl 2 rfl) ?_
                        refine lv_iload hx hb dL_isSo_300 (lv_at hl 13 rfl) ?_
                        refine k_X0_endOf D tI tZ tL xo ax σ k nr (R_x6 hR) (hn30) (by omega) np (R_x1 hR) (hn8) ⟨hx, hb, hml, hown, hts⟩ gL_isSo_X0_endOf ⟨Nat.le_of_ble_eq_true rfl, Nat.le_of_ble_eq_true rfl⟩ hl.1 ⟨Nat.zero_le _, Nat.zero_le _⟩ (Nat.le_of_ble_eq_true rfl) hK hPx dL_isSo_302 ?_
                        refine lv_iload hx hb dL_isSo_305 (lv_at hl 14 rfl) ?_
                        refine lv_icmp_ne (tgt := 334) hx hb dL_isSo_307 (by decide) (fun c307 => absurd (by rw [endR_eq hR hkkk, hkii]; rfl) c307) (fun c307 => ?_)
                        refine lv_aload_n hx hb dL_isSo_310 rfl (lv_at hl 2 rfl) ?_
                        refine lv_iload hx hb dL_isSo_311 (lv_at hl 13 rfl) ?_
                        refine k_X0_whyKept D tI tZ tL xo ax σ k nr (R_x6 hR) (hn30) (by omega) ⟨hx, hb, hml, hown, hts⟩ gL_isSo_X0_whyKept ⟨Nat.le_of_ble_eq_true rfl, Nat.le_of_ble_eq_true rfl⟩ hl.1 ⟨Nat.zero_le _, Nat.zero_le _⟩ (Nat.le_of_ble_eq_true rfl) hK hPx dL_isSo_313 ?_
                        refine lv_iload hx hb dL_isSo_316 (lv_at hl 13 rfl) ?_
                        refine lv_aload_n hx hb dL_isSo_318 rfl (lv_at hl 3 rfl) ?_
                        refine lv_aload_n hx hb dL_isSo_319 rfl (lv_at hl 4 rfl) ?_
                        refine lv_aload hx hb dL_isSo_320 (lv_at hl 6 rfl) ?_
                        refine lv_aload hx hb dL_isSo_322 (lv_at hl 9 rfl) ?_
                        refine k_L_kept D tI tZ tL 0 ay τ k nr (Y_q2 hY) (hn30) (by omega) ⟨hx, hb, hml, hown, hts⟩ gL_isSo_L_kept ⟨Nat.le_of_ble_eq_true rfl, Nat.le_of_ble_eq_true rfl⟩ hl.1 ⟨Nat.zero_le _, Nat.zero_le _⟩ (Nat.le_of_ble_eq_true rfl) hK hPy dL_isSo_324 ?_
                        refine lv_icmp_ne (tgt := 334) hx hb dL_isSo_327 (by decide) (fun c327 => absurd ((kept_R hR hkkk).trans (Y_kept hR hY hkkk).symm) c327) (fun c327 => ?_)
                        refine lv_iconst (v := 1) hx hb dL_isSo_330 (by decide) ?_
                        refine lv_goto (tgt := 335) hx hb dL_isSo_331 (by decide) ?_
                        refine lv_istore (lv' := [(10, .int 1), (12, .int (m_enf μ.2 (μ.2 10 k) (m_subj μ.2 k) (μ.2 11 k) i)), (11, .int ((x_due σ np k) ||| (1 <<< ((nI k) &&& 31)))), (0, .ref xo), (1, .ref (ay 0)), (2, .ref (ay 1)), (3, .ref (ay 2)), (4, .ref (ay 3)), (5, .ref (ay 4)), (6, .ref (ay 5)), (7, .ref (ay 6)), (8, .ref uo), (9, .ref (ay 8)), (13, .int (nI k)), (14, .int (m_enf μ.2 (μ.2 10 k) (m_subj μ.2 k) (μ.2 11 k) i)), (15, .int (nI i))]) hx hb dL_isSo_335 hl (by decide) rfl (fun ls hl => ?_)
                        refine lv_iinc (v := (nI k) + 1) (lv' := [(13, .int ((nI k) + 1)), (10, .int 1), (12, .int (m_enf μ.2 (μ.2 10 k) (m_subj μ.2 k) (μ.2 11 k) i)), (11, .int ((x_due σ np k) ||| (1 <<< ((nI k) &&& 31)))), (0, .ref xo), (1, .ref (ay 0)), (2, .ref (ay 1)), (3, .ref (ay 2)), (4, .ref (ay 3)), (5, .ref (ay 4)), (6, .ref (ay 5)), (7, .ref (ay 6)), (8, .ref uo), (9, .ref (ay 8)), (14, .int (m_enf μ.2 (μ.2 10 k) (m_subj μ.2 k) (μ.2 11 k) i)), (15, .int (nI i))]) hx hb dL_isSo_337 hl (k := 13) rfl rfl (by decide) rfl (fun ls hl => ?_)
                        refine lv_goto (tgt := 47) hx hb dL_isSo_340 (by decide) ?_
                        exact ihk (k + 1) (by omega) (by omega)   _ (lv_to (L := [(0, .ref xo), (1, .ref (ay 0)), (2, .ref (ay 1)), (3, .ref (ay 2)), (4, .ref (ay 3)), (5, .ref (ay 4)), (6, .ref (ay 5)), (7, .ref (ay 6)), (8, .ref uo), (9, .ref (ay 8)), (10, .int 1), (11, .int ((x_due σ np k) ||| (1 <<< ((nI k) &&& 31)))), (12, .int (m_enf μ.2 (μ.2 10 k) (m_subj μ.2 k) (μ.2 11 k) i)), (13, .int ((nI k) + 1))]) (lv_sub hl [4, 5, 6, 7, 8, 9, 10, 11, 12, 13, 1, 3, 2, 0] rfl) (lv_cr (lv_cr (lv_cr (lv_cr (lv_cr (lv_cr (lv_cr (lv_cr (lv_cr (lv_cr (lv_cr (lv_ci (by rw [Y_due hR hY hkkk, if_pos ⟨c188, c210⟩]; rfl) (lv_ci (by rw [hkii] at c241; rw [Y_nend hR hY hkkk, if_pos ⟨c229, Or.inr (Int32.not_le.mp c241)⟩, hkii]; rfl) (lv_ci (nI_1 k) rfl)))))))))))))))
            · have hkii : i < np := ge_f (Y_q1 hY) (by omega) c75
              refine lv_iload hx hb dL_isSo_78 (lv_at hl 10 rfl) ?_
              refine lv_if_eq (tgt := 181) hx hb dL_isSo_80 (by decide) (fun c80 => absurd c80 (by decide)) (fun c80 => ?_)
              refine lv_aload hx hb dL_isSo_83 (lv_at hl 5 rfl) ?_
              refine lv_iload hx hb dL_isSo_85 (lv_at hl 13 rfl) ?_
              refine yr_g (j := k) hx hb hK hPy (by omega) dL_isSo_87 ?_
              refine lv_topc (y := μ.2 10 k) (Y_g hY hkkk) ?_
              refine lv_iload hx hb dL_isSo_88 (lv_at hl 15 rfl) ?_
              refine k_L_has (μ.2 10 k) i (by omega) ⟨hx, hb, hml, hown, hts⟩ gL_isSo_L_has ⟨Nat.le_of_ble_eq_true rfl, Nat.le_of_ble_eq_true rfl⟩ hl.1 ⟨Nat.zero_le _, Nat.zero_le _⟩ (Nat.le_of_ble_eq_true rfl) dL_isSo_90 ?_
              refine lv_ifeq_b (tgt := 137) hx hb dL_isSo_93 (by decide) (fun c93 => ?_) (fun c93 => ?_)
              · refine lv_iload hx hb dL_isSo_137 (lv_at hl 14 rfl) ?_
                refine lv_istore (lv' := [(14, .int (m_enf μ.2 (μ.2 10 k) (m_subj μ.2 k) (μ.2 11 k) i)), (0, .ref xo), (1, .ref (ay 0)), (2, .ref (ay 1)), (3, .ref (ay 2)), (4, .ref (ay 3)), (5, .ref (ay 4)), (6, .ref (ay 5)), (7, .ref (ay 6)), (8, .ref uo), (9, .ref (ay 8)), (10, .int 1), (11, .int (x_due σ np k)), (12, .int (x_nend σ np k)), (13, .int (nI k)), (15, .int (nI i))]) hx hb dL_isSo_139 hl (by decide) rfl (fun ls hl => ?_)
                refine lv_aload_n hx hb dL_isSo_141 rfl (lv_at hl 1 rfl) ?_
                refine lv_iload hx hb dL_isSo_142 (lv_at hl 14 rfl) ?_
                refine lv_iload hx hb dL_isSo_144 (lv_at hl 15 rfl) ?_
                refine k_X0_whyNoUse D tI tZ tL xo ax σ k i nr (R_x6 hR) (hn30) (by omega) np (R_x1 hR) (hn8) (by omega) ⟨hx, hb, hml, hown, hts⟩ gL_isSo_X0_whyNoUse ⟨Nat.le_of_ble_eq_true rfl, Nat.le_of_ble_eq_true rfl⟩ hl.1 ⟨Nat.zero_le _, Nat.zero_le _⟩ (Nat.le_of_ble_eq_true rfl) hK hPx dL_isSo_146 ?_
                refine lv_iload hx hb dL_isSo_149 (lv_at hl 14 rfl) ?_
                refine lv_iload hx hb dL_isSo_151 (lv_at hl 15 rfl) ?_
                refine lv_aload_n hx hb dL_isSo_153 rfl (lv_at hl 2 rfl) ?_
                refine lv_aload_n hx hb dL_isSo_154 rfl (lv_at hl 3 rfl) ?_
                refine lv_aload_n hx hb dL_isSo_155 rfl (lv_at hl 4 rfl) ?_
                refine lv_aload hx hb dL_isSo_156 (lv_at hl 6 rfl) ?_
                refine lv_aload hx hb dL_isSo_158 (lv_at hl 7 rfl) ?_
                refine lv_aload hx hb dL_isSo_160 (lv_at hl 8 rfl) ?_
                refine k_L_reason D tI tZ tL 0 ay τ k i (by omega) (by omega) ⟨hx, hb, hml, hown, hts⟩ gL_isSo_L_reason ⟨Nat.le_of_ble_eq_true rfl, Nat.le_of_ble_eq_true rfl⟩ hl.1 ⟨Nat.zero_le _, Nat.zero_le _⟩ (Nat.le_of_ble_eq_true rfl) hK hPy dL_isSo_162 ?_
                refine lv_icmp_ne (tgt := 172) hx hb dL_isSo_165 (by decide) (fun c165 => absurd (Y_why hR hY hkkk hkii) c165) (fun c165 => ?_)
                refine lv_iconst (v := 1) hx hb dL_isSo_168 (by decide) ?_
                refine lv_goto (tgt := 173) hx hb dL_isSo_169 (by decide) ?_
                refine lv_istore (lv' := [(10, .int 1), (14, .int (m_enf μ.2 (μ.2 10 k) (m_subj μ.2 k) (μ.2 11 k) i)), (0, .ref xo), (1, .ref (ay 0)), (2, .ref (ay 1)), (3, .ref (ay 2)), (4, .ref (ay 3)), (5, .ref (ay 4)), (6, .ref (ay 5)), (7, .ref (ay 6)), (8, .ref uo), (9, .ref (ay 8)), (11, .int (x_due σ np k)), (12, .int (x_nend σ np k)), (13, .int (nI k)), (15, .int (nI i))]) hx hb dL_isSo_173 hl (by decide) rfl (fun ls hl => ?_)
                refine lv_iinc (v := (nI i) + 1) (lv' := [(15, .int ((nI i) + 1)), (10, .int 1), (14, .int (m_enf μ.2 (μ.2 10 k) (m_subj μ.2 k) (μ.2 11 k) i)), (0, .ref xo), (1, .ref (ay 0)), (2, .ref (ay 1)), (3, .ref (ay 2)), (4, .ref (ay 3)), (5, .ref (ay 4)), (6, .ref (ay 5)), (7, .ref (ay 6)), (8, .ref uo), (9, .ref (ay 8)), (11, .int (x_due σ np k)), (12, .int (x_nend σ np k)), (13, .int (nI k))]) hx hb dL_isSo_175 hl (k := 15) rfl rfl (by decide) rfl (fun ls hl => ?_)
                refine lv_goto (tgt := 70) hx hb dL_isSo_178 (by decide) ?_
                exact ihi (i + 1) (by omega) (by omega)   _ (lv_to (L := [(0, .ref xo), (1, .ref (ay 0)), (2, .ref (ay 1)), (3, .ref (ay 2)), (4, .ref (ay 3)), (5, .ref (ay 4)), (6, .ref (ay 5)), (7, .ref (ay 6)), (8, .ref uo), (9, .ref (ay 8)), (10, .int 1), (11, .int (x_due σ np k)), (12, .int (x_nend σ np k)), (13, .int (nI k)), (14, .int (m_enf μ.2 (μ.2 10 k) (m_subj μ.2 k) (μ.2 11 k) i)), (15, .int ((nI i) + 1))]) (lv_sub hl [3, 4, 5, 6, 7, 8, 9, 10, 11, 12, 1, 13, 14, 15, 2, 0] rfl) (lv_cr (lv_cr (lv_cr (lv_cr (lv_cr (lv_cr (lv_cr (lv_cr (lv_cr (lv_cr (lv_cr (lv_cr (lv_cr (lv_cr (lv_ci (by rw [m_enf, if_neg (fun h => by rw [c93] at h; cases h.1)]) (lv_ci (nI_1 i) rfl)))))))))))))))))
              · refine lv_iload hx hb dL_isSo_96 (lv_at hl 15 rfl) ?_
                refine lv_aload_n hx hb dL_isSo_98 rfl (lv_at hl 3 rfl) ?_
                refine lv_iload hx hb dL_isSo_99 (lv_at hl 13 rfl) ?_
                refine yr_r (j := k) hx hb hK hPy (by omega) dL_isSo_101 ?_
                refine lv_aload_n hx hb dL_isSo_102 rfl (lv_at hl 2 rfl) ?_
                refine k_L_isAllowed D tI tZ tL 0 ay τ i (τ.2 2 k) (by omega) ⟨hx, hb, hml, hown, hts⟩ gL_isSo_L_isAllowed ⟨Nat.le_of_ble_eq_true rfl, Nat.le_of_ble_eq_true rfl⟩ hl.1 ⟨Nat.zero_le _, Nat.zero_le _⟩ (Nat.le_of_ble_eq_true rfl) hK hPy dL_isSo_103 ?_
                refine lv_topc (y := b01 (m_alw μ.2 i (m_subj μ.2 k))) (by rw [Y_alw hY hkii (by rw [Y_r hY hkkk]; exact Y_s hY hkkk), Y_r hY hkkk]) ?_
                refine lv_ifeq_b (tgt := 137) hx hb dL_isSo_106 (by decide) (fun c106 => ?_) (fun c106 => ?_)
                · refine lv_iload hx hb dL_isSo_137 (lv_at hl 14 rfl) ?_
                  refine lv_istore (lv' := [(14, .int (m_enf μ.2 (μ.2 10 k) (m_subj μ.2 k) (μ.2 11 k) i)), (0, .ref xo), (1, .ref (ay 0)), (2, .ref (ay 1)), (3, .ref (ay 2)), (4, .ref (ay 3)), (5, .ref (ay 4)), (6, .ref (ay 5)), (7, .ref (ay 6)), (8, .ref uo), (9, .ref (ay 8)), (10, .int 1), (11, .int (x_due σ np k)), (12, .int (x_nend σ np k)), (13, .int (nI k)), (15, .int (nI i))]) hx hb dL_isSo_139 hl (by decide) rfl (fun ls hl => ?_)
                  refine lv_aload_n hx hb dL_isSo_141 rfl (lv_at hl 1 rfl) ?_
                  refine lv_iload hx hb dL_isSo_142 (lv_at hl 14 rfl) ?_
                  refine lv_iload hx hb dL_isSo_144 (lv_at hl 15 rfl) ?_
                  refine k_X0_whyNoUse D tI tZ tL xo ax σ k i nr (R_x6 hR) (hn30) (by omega) np (R_x1 hR) (hn8) (by omega) ⟨hx, hb, hml, hown, hts⟩ gL_isSo_X0_whyNoUse ⟨Nat.le_of_ble_eq_true rfl, Nat.le_of_ble_eq_true rfl⟩ hl.1 ⟨Nat.zero_le _, Nat.zero_le _⟩ (Nat.le_of_ble_eq_true rfl) hK hPx dL_isSo_146 ?_
                  refine lv_iload hx hb dL_isSo_149 (lv_at hl 14 rfl) ?_
                  refine lv_iload hx hb dL_isSo_151 (lv_at hl 15 rfl) ?_
                  refine lv_aload_n hx hb dL_isSo_153 rfl (lv_at hl 2 rfl) ?_
                  refine lv_aload_n hx hb dL_isSo_154 rfl (lv_at hl 3 rfl) ?_
                  refine lv_aload_n hx hb dL_isSo_155 rfl (lv_at hl 4 rfl) ?_
                  refine lv_aload hx hb dL_isSo_156 (lv_at hl 6 rfl) ?_
                  refine lv_aload hx hb dL_isSo_158 (lv_at hl 7 rfl) ?_
                  refine lv_aload hx hb dL_isSo_160 (lv_at hl 8 rfl) ?_
                  refine k_L_reason D tI tZ tL 0 ay τ k i (by omega) (by omega) ⟨hx, hb, hml, hown, hts⟩ gL_isSo_L_reason ⟨Nat.le_of_ble_eq_true rfl, Nat.le_of_ble_eq_true rfl⟩ hl.1 ⟨Nat.zero_le _, Nat.zero_le _⟩ (Nat.le_of_ble_eq_true rfl) hK hPy dL_isSo_162 ?_
                  refine lv_icmp_ne (tgt := 172) hx hb dL_isSo_165 (by decide) (fun c165 => absurd (Y_why hR hY hkkk hkii) c165) (fun c165 => ?_)
                  refine lv_iconst (v := 1) hx hb dL_isSo_168 (by decide) ?_
                  refine lv_goto (tgt := 173) hx hb dL_isSo_169 (by decide) ?_
                  refine lv_istore (lv' := [(10, .int 1), (14, .int (m_enf μ.2 (μ.2 10 k) (m_subj μ.2 k) (μ.2 11 k) i)), (0, .ref xo), (1, .ref (ay 0)), (2, .ref (ay 1)), (3, .ref (ay 2)), (4, .ref (ay 3)), (5, .ref (ay 4)), (6, .ref (ay 5)), (7, .ref (ay 6)), (8, .ref uo), (9, .ref (ay 8)), (11, .int (x_due σ np k)), (12, .int (x_nend σ np k)), (13, .int (nI k)), (15, .int (nI i))]) hx hb dL_isSo_173 hl (by decide) rfl (fun ls hl => ?_)
                  refine lv_iinc (v := (nI i) + 1) (lv' := [(15, .int ((nI i) + 1)), (10, .int 1), (14, .int (m_enf μ.2 (μ.2 10 k) (m_subj μ.2 k) (μ.2 11 k) i)), (0, .ref xo), (1, .ref (ay 0)), (2, .ref (ay 1)), (3, .ref (ay 2)), (4, .ref (ay 3)), (5, .ref (ay 4)), (6, .ref (ay 5)), (7, .ref (ay 6)), (8, .ref uo), (9, .ref (ay 8)), (11, .int (x_due σ np k)), (12, .int (x_nend σ np k)), (13, .int (nI k))]) hx hb dL_isSo_175 hl (k := 15) rfl rfl (by decide) rfl (fun ls hl => ?_)
                  refine lv_goto (tgt := 70) hx hb dL_isSo_178 (by decide) ?_
                  exact ihi (i + 1) (by omega) (by omega)   _ (lv_to (L := [(0, .ref xo), (1, .ref (ay 0)), (2, .ref (ay 1)), (3, .ref (ay 2)), (4, .ref (ay 3)), (5, .ref (ay 4)), (6, .ref (ay 5)), (7, .ref (ay 6)), (8, .ref uo), (9, .ref (ay 8)), (10, .int 1), (11, .int (x_due σ np k)), (12, .int (x_nend σ np k)), (13, .int (nI k)), (14, .int (m_enf μ.2 (μ.2 10 k) (m_subj μ.2 k) (μ.2 11 k) i)), (15, .int ((nI i) + 1))]) (lv_sub hl [3, 4, 5, 6, 7, 8, 9, 10, 11, 12, 1, 13, 14, 15, 2, 0] rfl) (lv_cr (lv_cr (lv_cr (lv_cr (lv_cr (lv_cr (lv_cr (lv_cr (lv_cr (lv_cr (lv_cr (lv_cr (lv_cr (lv_cr (lv_ci (by rw [m_enf, if_neg (fun h => by rw [c106] at h; cases h.2.1)]) (lv_ci (nI_1 i) rfl)))))))))))))))))
                · refine lv_aload hx hb dL_isSo_109 (lv_at hl 6 rfl) ?_
                  refine lv_iload hx hb dL_isSo_111 (lv_at hl 13 rfl) ?_
                  refine yr_a (j := k) hx hb hK hPy (by omega) dL_isSo_113 ?_
                  refine lv_aload_n hx hb dL_isSo_114 rfl (lv_at hl 2 rfl) ?_
                  refine lv_iload hx hb dL_isSo_115 (lv_at hl 15 rfl) ?_
                  refine yr_p (j := i) hx hb hK hPy (by omega) dL_isSo_117 ?_
                  refine lv_iadd hx hb dL_isSo_118 ?_
                  refine lv_topc (y := μ.2 11 k + μ.2 3 i) (by rw [Y_a hY hkkk, Y_p hY hkii]) ?_
                  refine lv_iload hx hb dL_isSo_119 (lv_at hl 14 rfl) ?_
                  refine lv_icmp_le (tgt := 137) hx hb dL_isSo_121 (by decide) (fun c121 => ?_) (fun c121 => ?_)
                  · refine lv_iload hx hb dL_isSo_137 (lv_at hl 14 rfl) ?_
                    refine lv_istore (lv' := [(14, .int (m_enf μ.2 (μ.2 10 k) (m_subj μ.2 k) (μ.2 11 k) i)), (0, .ref xo), (1, .ref (ay 0)), (2, .ref (ay 1)), (3, .ref (ay 2)), (4, .ref (ay 3)), (5, .ref (ay 4)), (6, .ref (ay 5)), (7, .ref (ay 6)), (8, .ref uo), (9, .ref (ay 8)), (10, .int 1), (11, .int (x_due σ np k)), (12, .int (x_nend σ np k)), (13, .int (nI k)), (15, .int (nI i))]) hx hb dL_isSo_139 hl (by decide) rfl (fun ls hl => ?_)
                    refine lv_aload_n hx hb dL_isSo_141 rfl (lv_at hl 1 rfl) ?_
                    refine lv_iload hx hb dL_isSo_142 (lv_at hl 14 rfl) ?_
                    refine lv_iload hx hb dL_isSo_144 (lv_at hl 15 rfl) ?_
                    refine k_X0_whyNoUse D tI tZ tL xo ax σ k i nr (R_x6 hR) (hn30) (by omega) np (R_x1 hR) (hn8) (by omega) ⟨hx, hb, hml, hown, hts⟩ gL_isSo_X0_whyNoUse ⟨Nat.le_of_ble_eq_true rfl, Nat.le_of_ble_eq_true rfl⟩ hl.1 ⟨Nat.zero_le _, Nat.zero_le _⟩ (Nat.le_of_ble_eq_true rfl) hK hPx dL_isSo_146 ?_
                    refine lv_iload hx hb dL_isSo_149 (lv_at hl 14 rfl) ?_
                    refine lv_iload hx hb dL_isSo_151 (lv_at hl 15 rfl) ?_
                    refine lv_aload_n hx hb dL_isSo_153 rfl (lv_at hl 2 rfl) ?_
                    refine lv_aload_n hx hb dL_isSo_154 rfl (lv_at hl 3 rfl) ?_
                    refine lv_aload_n hx hb dL_isSo_155 rfl (lv_at hl 4 rfl) ?_
                    refine lv_aload hx hb dL_isSo_156 (lv_at hl 6 rfl) ?_
                    refine lv_aload hx hb dL_isSo_158 (lv_at hl 7 rfl) ?_
                    refine lv_aload hx hb dL_isSo_160 (lv_at hl 8 rfl) ?_
                    refine k_L_reason D tI tZ tL 0 ay τ k i (by omega) (by omega) ⟨hx, hb, hml, hown, hts⟩ gL_isSo_L_reason ⟨Nat.le_of_ble_eq_true rfl, Nat.le_of_ble_eq_true rfl⟩ hl.1 ⟨Nat.zero_le _, Nat.zero_le _⟩ (Nat.le_of_ble_eq_true rfl) hK hPy dL_isSo_162 ?_
                    refine lv_icmp_ne (tgt := 172) hx hb dL_isSo_165 (by decide) (fun c165 => absurd (Y_why hR hY hkkk hkii) c165) (fun c165 => ?_)
                    refine lv_iconst (v := 1) hx hb dL_isSo_168 (by decide) ?_
                    refine lv_goto (tgt := 173) hx hb dL_isSo_169 (by decide) ?_
                    refine lv_istore (lv' := [(10, .int 1), (14, .int (m_enf μ.2 (μ.2 10 k) (m_subj μ.2 k) (μ.2 11 k) i)), (0, .ref xo), (1, .ref (ay 0)), (2, .ref (ay 1)), (3, .ref (ay 2)), (4, .ref (ay 3)), (5, .ref (ay 4)), (6, .ref (ay 5)), (7, .ref (ay 6)), (8, .ref uo), (9, .ref (ay 8)), (11, .int (x_due σ np k)), (12, .int (x_nend σ np k)), (13, .int (nI k)), (15, .int (nI i))]) hx hb dL_isSo_173 hl (by decide) rfl (fun ls hl => ?_)
                    refine lv_iinc (v := (nI i) + 1) (lv' := [(15, .int ((nI i) + 1)), (10, .int 1), (14, .int (m_enf μ.2 (μ.2 10 k) (m_subj μ.2 k) (μ.2 11 k) i)), (0, .ref xo), (1, .ref (ay 0)), (2, .ref (ay 1)), (3, .ref (ay 2)), (4, .ref (ay 3)), (5, .ref (ay 4)), (6, .ref (ay 5)), (7, .ref (ay 6)), (8, .ref uo), (9, .ref (ay 8)), (11, .int (x_due σ np k)), (12, .int (x_nend σ np k)), (13, .int (nI k))]) hx hb dL_isSo_175 hl (k := 15) rfl rfl (by decide) rfl (fun ls hl => ?_)
                    refine lv_goto (tgt := 70) hx hb dL_isSo_178 (by decide) ?_
                    exact ihi (i + 1) (by omega) (by omega)   _ (lv_to (L := [(0, .ref xo), (1, .ref (ay 0)), (2, .ref (ay 1)), (3, .ref (ay 2)), (4, .ref (ay 3)), (5, .ref (ay 4)), (6, .ref (ay 5)), (7, .ref (ay 6)), (8, .ref uo), (9, .ref (ay 8)), (10, .int 1), (11, .int (x_due σ np k)), (12, .int (x_nend σ np k)), (13, .int (nI k)), (14, .int (m_enf μ.2 (μ.2 10 k) (m_subj μ.2 k) (μ.2 11 k) i)), (15, .int ((nI i) + 1))]) (lv_sub hl [3, 4, 5, 6, 7, 8, 9, 10, 11, 12, 1, 13, 14, 15, 2, 0] rfl) (lv_cr (lv_cr (lv_cr (lv_cr (lv_cr (lv_cr (lv_cr (lv_cr (lv_cr (lv_cr (lv_cr (lv_cr (lv_cr (lv_cr (lv_ci (by rw [m_enf, if_neg (fun h => h.2.2 c121)]) (lv_ci (nI_1 i) rfl)))))))))))))))))
                  · refine lv_aload hx hb dL_isSo_124 (lv_at hl 6 rfl) ?_
                    refine lv_iload hx hb dL_isSo_126 (lv_at hl 13 rfl) ?_
                    refine yr_a (j := k) hx hb hK hPy (by omega) dL_isSo_128 ?_
                    refine lv_aload_n hx hb dL_isSo_129 rfl (lv_at hl 2 rfl) ?_
                    refine lv_iload hx hb dL_isSo_130 (lv_at hl 15 rfl) ?_
                    refine yr_p (j := i) hx hb hK hPy (by omega) dL_isSo_132 ?_
                    refine lv_iadd hx hb dL_isSo_133 ?_
                    refine lv_topc (y := μ.2 11 k + μ.2 3 i) (by rw [Y_a hY hkkk, Y_p hY hkii]) ?_
                    refine lv_goto (tgt := 139) hx hb dL_isSo_134 (by decide) ?_
                    refine lv_istore (lv' := [(14, .int (μ.2 11 k + μ.2 3 i)), (0, .ref xo), (1, .ref (ay 0)), (2, .ref (ay 1)), (3, .ref (ay 2)), (4, .ref (ay 3)), (5, .ref (ay 4)), (6, .ref (ay 5)), (7, .ref (ay 6)), (8, .ref uo), (9, .ref (ay 8)), (10, .int 1), (11, .int (x_due σ np k)), (12, .int (x_nend σ np k)), (13, .int (nI k)), (15, .int (nI i))]) hx hb dL_isSo_139 hl (by decide) rfl (fun ls hl => ?_)
                    refine lv_aload_n hx hb dL_isSo_141 rfl (lv_at hl 1 rfl) ?_
                    refine lv_iload hx hb dL_isSo_142 (lv_at hl 14 rfl) ?_
                    refine lv_iload hx hb dL_isSo_144 (lv_at hl 15 rfl) ?_
                    refine k_X0_whyNoUse D tI tZ tL xo ax σ k i nr (R_x6 hR) (hn30) (by omega) np (R_x1 hR) (hn8) (by omega) ⟨hx, hb, hml, hown, hts⟩ gL_isSo_X0_whyNoUse ⟨Nat.le_of_ble_eq_true rfl, Nat.le_of_ble_eq_true rfl⟩ hl.1 ⟨Nat.zero_le _, Nat.zero_le _⟩ (Nat.le_of_ble_eq_true rfl) hK hPx dL_isSo_146 ?_
                    refine lv_iload hx hb dL_isSo_149 (lv_at hl 14 rfl) ?_
                    refine lv_iload hx hb dL_isSo_151 (lv_at hl 15 rfl) ?_
                    refine lv_aload_n hx hb dL_isSo_153 rfl (lv_at hl 2 rfl) ?_
                    refine lv_aload_n hx hb dL_isSo_154 rfl (lv_at hl 3 rfl) ?_
                    refine lv_aload_n hx hb dL_isSo_155 rfl (lv_at hl 4 rfl) ?_
                    refine lv_aload hx hb dL_isSo_156 (lv_at hl 6 rfl) ?_
                    refine lv_aload hx hb dL_isSo_158 (lv_at hl 7 rfl) ?_
                    refine lv_aload hx hb dL_isSo_160 (lv_at hl 8 rfl) ?_
                    refine k_L_reason D tI tZ tL 0 ay τ k i (by omega) (by omega) ⟨hx, hb, hml, hown, hts⟩ gL_isSo_L_reason ⟨Nat.le_of_ble_eq_true rfl, Nat.le_of_ble_eq_true rfl⟩ hl.1 ⟨Nat.zero_le _, Nat.zero_le _⟩ (Nat.le_of_ble_eq_true rfl) hK hPy dL_isSo_162 ?_
                    refine lv_icmp_ne (tgt := 172) hx hb dL_isSo_165 (by decide) (fun c165 => absurd (Y_why hR hY hkkk hkii) c165) (fun c165 => ?_)
                    refine lv_iconst (v := 1) hx hb dL_isSo_168 (by decide) ?_
                    refine lv_goto (tgt := 173) hx hb dL_isSo_169 (by decide) ?_
                    refine lv_istore (lv' := [(10, .int 1), (14, .int (μ.2 11 k + μ.2 3 i)), (0, .ref xo), (1, .ref (ay 0)), (2, .ref (ay 1)), (3, .ref (ay 2)), (4, .ref (ay 3)), (5, .ref (ay 4)), (6, .ref (ay 5)), (7, .ref (ay 6)), (8, .ref uo), (9, .ref (ay 8)), (11, .int (x_due σ np k)), (12, .int (x_nend σ np k)), (13, .int (nI k)), (15, .int (nI i))]) hx hb dL_isSo_173 hl (by decide) rfl (fun ls hl => ?_)
                    refine lv_iinc (v := (nI i) + 1) (lv' := [(15, .int ((nI i) + 1)), (10, .int 1), (14, .int (μ.2 11 k + μ.2 3 i)), (0, .ref xo), (1, .ref (ay 0)), (2, .ref (ay 1)), (3, .ref (ay 2)), (4, .ref (ay 3)), (5, .ref (ay 4)), (6, .ref (ay 5)), (7, .ref (ay 6)), (8, .ref uo), (9, .ref (ay 8)), (11, .int (x_due σ np k)), (12, .int (x_nend σ np k)), (13, .int (nI k))]) hx hb dL_isSo_175 hl (k := 15) rfl rfl (by decide) rfl (fun ls hl => ?_)
                    refine lv_goto (tgt := 70) hx hb dL_isSo_178 (by decide) ?_
                    exact ihi (i + 1) (by omega) (by omega)   _ (lv_to (L := [(0, .ref xo), (1, .ref (ay 0)), (2, .ref (ay 1)), (3, .ref (ay 2)), (4, .ref (ay 3)), (5, .ref (ay 4)), (6, .ref (ay 5)), (7, .ref (ay 6)), (8, .ref uo), (9, .ref (ay 8)), (10, .int 1), (11, .int (x_due σ np k)), (12, .int (x_nend σ np k)), (13, .int (nI k)), (14, .int (μ.2 11 k + μ.2 3 i)), (15, .int ((nI i) + 1))]) (lv_sub hl [3, 4, 5, 6, 7, 8, 9, 10, 11, 12, 1, 13, 14, 15, 2, 0] rfl) (lv_cr (lv_cr (lv_cr (lv_cr (lv_cr (lv_cr (lv_cr (lv_cr (lv_cr (lv_cr (lv_cr (lv_cr (lv_cr (lv_cr (lv_ci (by rw [m_enf, if_pos ⟨c93, c106, c121⟩]) (lv_ci (nI_1 i) rfl)))))))))))))))))
        exact loop70 (np + 1) 0 (by omega) (by omega)   _ (lv_to (L := [(0, .ref xo), (1, .ref (ay 0)), (2, .ref (ay 1)), (3, .ref (ay 2)), (4, .ref (ay 3)), (5, .ref (ay 4)), (6, .ref (ay 5)), (7, .ref (ay 6)), (8, .ref uo), (9, .ref (ay 8)), (10, .int 1), (11, .int (x_due σ np k)), (12, .int (x_nend σ np k)), (13, .int (nI k)), (14, .int (τ.2 5 k)), (15, .int 0)]) (lv_sub hl [2, 3, 4, 5, 6, 7, 8, 9, 10, 11, 12, 13, 14, 15, 1, 0] rfl) (lv_cr (lv_cr (lv_cr (lv_cr (lv_cr (lv_cr (lv_cr (lv_cr (lv_cr (lv_cr (lv_cr (lv_cr (lv_cr (lv_cr (lv_ci (Y_a hY hkkk) (lv_ci (rfl) rfl)))))))))))))))))
  exact loop47 (nr + 1) 0 (by omega) (by omega)   _ (lv_to (L := [(0, .ref xo), (1, .ref (ay 0)), (2, .ref (ay 1)), (3, .ref (ay 2)), (4, .ref (ay 3)), (5, .ref (ay 4)), (6, .ref (ay 5)), (7, .ref (ay 6)), (8, .ref uo), (9, .ref (ay 8)), (10, .int 1), (11, .int 0), (12, .int (-1)), (13, .int 0)]) (lv_sub hl [4, 5, 6, 7, 8, 9, 10, 11, 12, 13, 3, 2, 1, 0] rfl) (lv_cr (lv_cr (lv_cr (lv_cr (lv_cr (lv_cr (lv_cr (lv_cr (lv_cr (lv_cr (lv_cr (lv_ci (rfl) (lv_ci (rfl) (lv_ci (rfl) rfl)))))))))))))))

theorem k_L_isSo {p : Program} {l : Launch} {e : Env} {R : Room} {s : State} {m : MethodId} {args : Array Value} {below : List Frame} {meth : Method} {c : Code} {H : Heap} {locs : List Loc} {cells slots : Nat} {Q : State → Prop} {cc : ByteArray} {pc : Nat} {ls : Array Slot} {rest : List Value} {Ts : List Cond} (D : va_G) (tI tZ tL : ClassId) (xo : Nat) (ax : Nat → Nat) (σ : ST) (ay : Nat → Nat) (τ : ST) (uo : Nat) (υ : Nat → Int64) (μ : ST) (td np nr T : Nat) (hR : RR σ μ td np nr) (hY : YY μ τ υ td np nr T) {own : String} {idx nL : Nat} (S : CallFix p m c cc nL s args Ts own) (hG : GoodIn Ts (va_wsS own idx yL_isSo wsL_isSo)) (hR9 : ({ frames := 6, cells := 0, slots := 0, locals := 131 } : Room).frames + 1 ≤ R.frames ∧ 8 + (19 + 11) + ({ frames := 6, cells := 0, slots := 0, locals := 131 } : Room).locals ≤ R.locals) (hsz : ls.size = nL) (hcap : cells ≤ R.cells ∧ slots ≤ R.slots) (hrm : (rest.map fun v => v.category).sum ≤ 8) (hK : va_K D vwCl (kTY tI tZ tL) s) (hPx : va_P D vwCl (x_W tI tZ xo ax σ) H) (hPy : va_P D vwCl (y_W tI tZ 0 ay τ) H) (hPu : va_P D vwCl (u_W tL uo υ) H) (hdg : decode cc pc = .ok (.invokestatic idx, 3)) (kk : W p l e R s m args below meth c H locs cells slots Q (F0 m (pc + 3) ls (.int (b01 true) :: rest))) : W p l e R s m args below meth c H locs cells slots Q (F0 m pc ls (.ref (ay 8) :: .ref uo :: .ref (ay 6) :: .ref (ay 5) :: .ref (ay 4) :: .ref (ay 3) :: .ref (ay 2) :: .ref (ay 1) :: .ref (ay 0) :: .ref xo :: rest)) :=
  q_call (va_runS (As := [.ref xo, .ref (ay 0), .ref (ay 1), .ref (ay 2), .ref (ay 3), .ref (ay 4), .ref (ay 5), .ref (ay 6), .ref uo, .ref (ay 8)]) (rest := rest) S (c_L_isSo l D tI tZ tL xo ax σ ay τ uo υ μ td np nr T hR hY) (va_cwS 10 S.2.2.2.2 hG rfl rfl rfl (by decide +kernel) hR9) (i_pre hK hPx hPy hPu) rfl rfl hsz rfl (lv_room hrm) hdg hcap) kk
