section LC
variable {p : Program} {l : Launch} {e : Env} {s : State} {m : MethodId} {below : List Frame} {meth : Method} {c : Code} {H : Heap} {locs : List Loc} {cells slots : Nat} {Q : State → Prop} {ls : Array Slot} {D : va_G} {tI tZ tL : ClassId} {xo uo b L i : Nat} {xs : Nat → Int32} {ax ay : Nat → Nat} {σ μ τ : ST} {υ : Nat → Int64} {td np nr T : Nat}
set_option maxHeartbeats 4000000 in
set_option maxRecDepth 100000 in
theorem lc_req (E : L_E p l s m meth c b L xs D tI tZ tL) (A : L_A s xo ax ay uo) (hR : RR σ μ td np nr) (hY : YY μ τ υ td np nr T) (hT : T < 110) (htd : td ≤ 4 * T) (hcap : cells + 1 ≤ room_1.cells ∧ slots + 6 ≤ room_1.slots) (v : Int32) (act rec sub pu st : Nat) (hrec : rec ≤ nr) (hsub : sub < 6) (hpu : pu < np) (hst : st < 2 ^ np) (hPx : va_P D vwCl (x_W tI tZ xo ax σ) H) (hPy : va_P D vwCl (y_W tI tZ 0 ay τ) H) (hPu : va_P D vwCl (u_W tL uo υ) H) (hS : va_S (L_g s) s.heap H locs) (hl : lv_has ls 23 [(20, .int 0), (19, .int 0), (18, .int (nI st)), (17, .int (nI pu)), (16, .int (nI sub)), (15, .int (nI rec)), (14, .int (nI act)), (13, .int v), (12, .int (nI i)), (11, .ref uo), (10, .ref (ay 8)), (9, .ref (ay 7)), (8, .ref (ay 6)), (7, .ref (ay 5)), (6, .ref (ay 4)), (5, .ref (ay 3)), (4, .ref (ay 2)), (3, .ref (ay 1)), (2, .ref (ay 0)), (1, .ref xo), (0, .ref b)]) (kk : ∀ (σ' τ' : ST) (υ' : Nat → Int64) (due : Int32) (H' : Heap) (locs' : List Loc) (ls' : Array Slot), ZZ σ' τ' υ' (T + 1) → va_P D vwCl (x_W tI tZ xo ax σ') H' → va_P D vwCl (y_W tI tZ 0 ay τ') H' → va_P D vwCl (u_W tL uo υ') H' → va_S (L_g s) s.heap H' locs' → lv_has ls' 23 (L_w b xo ay uo i due) → W p l e room_1 s m #[Value.ref b] below meth c H' locs' (cells + 1) (slots + 6) Q (F0 m 1225 ls' [])) : W p l e room_1 s m #[Value.ref b] below meth c H locs cells slots Q (F0 m 1008 ls []) := by
  obtain ⟨hx, hb, hml, hown, hts, hX, hbl, hK, hE, hlf, hL⟩ := E
  have hn30 := R_nr hR
  have hn8 := R_np hR
  have hc0 : cells ≤ room_1.cells ∧ slots ≤ room_1.slots := ⟨by have := hcap.1; omega, by have := hcap.2; omega⟩
  have hC := St_req hR hY hT htd (j := sub) hsub
  refine lv_iconst (v := 0) hx hb dL_law_1008 (by decide) ?_
  refine lv_istore (lv' := [(21, .int 0), (20, .int 0), (19, .int 0), (18, .int (nI st)), (17, .int (nI pu)), (16, .int (nI sub)), (15, .int (nI rec)), (14, .int (nI act)), (13, .int v), (12, .int (nI i)), (11, .ref uo), (10, .ref (ay 8)), (9, .ref (ay 7)), (8, .ref (ay 6)), (7, .ref (ay 5)), (6, .ref (ay 4)), (5, .ref (ay 3)), (4, .ref (ay 2)), (3, .ref (ay 1)), (2, .ref (ay 0)), (1, .ref xo), (0, .ref b)]) hx hb dL_law_1009 hl (by decide) rfl (fun ls hl => ?_)
  have loop1011 : ∀ (n k : Nat), k ≤ nr → nr + 1 ≤ k + n → ∀ (H : Heap) (locs : List Loc), va_P D vwCl (x_W tI tZ xo ax σ) H → va_P D vwCl (y_W tI tZ 0 ay (y_ask nr (fun k => bt (τ.2 2 k) sub) τ k)) H → va_P D vwCl (u_W tL uo υ) H → va_S (L_g s) s.heap H locs → ∀ ls, lv_has ls 23 [(19, .int (y_askC nr (fun k => bt (τ.2 2 k) sub) τ k)), (20, .int 0), (21, .int (nI k)), (16, .int (nI sub)), (12, .int (nI i)), (11, .ref uo), (10, .ref (ay 8)), (9, .ref (ay 7)), (8, .ref (ay 6)), (7, .ref (ay 5)), (6, .ref (ay 4)), (5, .ref (ay 3)), (4, .ref (ay 2)), (3, .ref (ay 1)), (2, .ref (ay 0)), (1, .ref xo), (0, .ref b)] → W p l e room_1 s m #[Value.ref b] below meth c H locs cells slots Q (F0 m 1011 ls []) := by
    intro n
    induction n with
    | zero => intro k h1 h2; omega
    | succ n ihk =>
      intro k hk_k hn_k   H locs hPx hPy hPu hS ls hl
      have hnrk : (y_ask nr (fun k => bt (τ.2 2 k) sub) τ k).2 0 2 = nI nr := by rw [y_ask_row (by decide)]; exact Y_q2 hY
      refine lv_iload hx hb dL_law_1011 (lv_at hl 2 rfl) ?_
      refine lv_aload_n hx hb dL_law_1013 rfl (lv_at hl 14 rfl) ?_
      refine lv_iconst (v := 2) hx hb dL_law_1014 (by decide) ?_
      refine lv_topc (y := nI 2) rfl ?_
      refine yr_q (j := 2) hx hb hK hPy (by omega) dL_law_1015 ?_
      refine lv_icmp_ge (tgt := 1057) hx hb dL_law_1016 (by decide) (fun c1016 => ?_) (fun c1016 => ?_)
      · have hkn : k = nr := Nat.le_antisymm hk_k (ge_t hnrk (by omega) (by omega) c1016)
        refine lv_aload_n hx hb dL_law_1057 rfl (lv_at hl 15 rfl) ?_
        refine lv_iload hx hb dL_law_1058 (lv_at hl 3 rfl) ?_
        refine k_X0_request D tI tZ tL xo ax σ sub (by omega) nr (R_x6 hR) (hn30) ⟨hx, hb, hml, hown, hts⟩ gL_law_X0_request ⟨Nat.le_of_ble_eq_true rfl, Nat.le_of_ble_eq_true rfl⟩ hl.1 hc0 (Nat.le_of_ble_eq_true rfl) (A_x A) hK hPx hS (A_xg A) dL_law_1060 (fun H locs hPx hz hk hS => ?_)
        replace hPy := y_kept9 hPy (fun q h1 h2 => hk q h1 (A_yx A q h2))
        replace hPu := u_kept9 hPu (hk uo (u_lt9 hPu) (A_ux A))
        refine lv_topc (y := y_askC nr (fun k => bt (τ.2 2 k) sub) τ nr) (hC.1.symm) ?_
        refine lv_istore (lv' := [(20, .int (y_askC nr (fun k => bt (τ.2 2 k) sub) τ nr)), (19, .int (y_askC nr (fun k => bt (τ.2 2 k) sub) τ k)), (21, .int (nI k)), (16, .int (nI sub)), (12, .int (nI i)), (11, .ref uo), (10, .ref (ay 8)), (9, .ref (ay 7)), (8, .ref (ay 6)), (7, .ref (ay 5)), (6, .ref (ay 4)), (5, .ref (ay 3)), (4, .ref (ay 2)), (3, .ref (ay 1)), (2, .ref (ay 0)), (1, .ref xo), (0, .ref b)]) hx hb dL_law_1063 hl (by decide) rfl (fun ls hl => ?_)
        refine lv_goto (tgt := 1225) hx hb dL_law_1065 (by decide) ?_
        rw [hkn] at hPy
        exact W.widen (Nat.le_add_right _ _) (Nat.le_add_right _ _) (kk (x_req σ (x_rof (σ.2 9) sub nr &&& (σ.1 12)) nr) (y_ask nr (fun k => bt (τ.2 2 k) sub) τ nr) υ (y_askC nr (fun k => bt (τ.2 2 k) sub) τ nr) _ _ _ hC.2 hPx hPy hPu hS (lv_to (L := [(20, .int (y_askC nr (fun k => bt (τ.2 2 k) sub) τ nr)), (19, .int (y_askC nr (fun k => bt (τ.2 2 k) sub) τ k)), (12, .int (nI i)), (11, .ref uo), (10, .ref (ay 8)), (9, .ref (ay 7)), (8, .ref (ay 6)), (7, .ref (ay 5)), (6, .ref (ay 4)), (5, .ref (ay 3)), (4, .ref (ay 2)), (3, .ref (ay 1)), (2, .ref (ay 0)), (1, .ref xo), (0, .ref b)]) (lv_sub hl [0, 1, 4, 5, 6, 7, 8, 9, 10, 11, 12, 13, 14, 15, 16] rfl) (lv_cr (lv_ci (by rw [hkn]) (lv_cr (lv_cr (lv_cr (lv_cr (lv_cr (lv_cr (lv_cr (lv_cr (lv_cr (lv_cr (lv_cr (lv_cr (lv_cr rfl)))))))))))))))))
      · have hkn : k < nr := ge_f hnrk (by omega) c1016
        refine lv_iload hx hb dL_law_1019 (lv_at hl 0 rfl) ?_
        refine lv_aload hx hb dL_law_1021 (lv_at hl 12 rfl) ?_
        refine lv_iload hx hb dL_law_1023 (lv_at hl 2 rfl) ?_
        refine yr_r (j := k) hx hb hK hPy (by omega) dL_law_1025 ?_
        refine lv_topc (y := τ.2 2 k) (by rw [y_ask_row (by decide)]) ?_
        refine lv_iload hx hb dL_law_1026 (lv_at hl 3 rfl) ?_
        refine k_L_has (τ.2 2 k) sub (by omega) ⟨hx, hb, hml, hown, hts⟩ gL_law_L_has ⟨Nat.le_of_ble_eq_true rfl, Nat.le_of_ble_eq_true rfl⟩ hl.1 hc0 (Nat.le_of_ble_eq_true rfl) dL_law_1028 ?_
        refine lv_ifeq_b (tgt := 1047) hx hb dL_law_1031 (by decide) (fun c1031 => ?_) (fun c1031 => ?_)
        · refine lv_iconst (v := 0) hx hb dL_law_1047 (by decide) ?_
          refine lv_iadd hx hb dL_law_1048 ?_
          refine lv_istore (lv' := [(19, .int ((y_askC nr (fun k => bt (τ.2 2 k) sub) τ k) + 0)), (20, .int 0), (21, .int (nI k)), (16, .int (nI sub)), (12, .int (nI i)), (11, .ref uo), (10, .ref (ay 8)), (9, .ref (ay 7)), (8, .ref (ay 6)), (7, .ref (ay 5)), (6, .ref (ay 4)), (5, .ref (ay 3)), (4, .ref (ay 2)), (3, .ref (ay 1)), (2, .ref (ay 0)), (1, .ref xo), (0, .ref b)]) hx hb dL_law_1049 hl (by decide) rfl (fun ls hl => ?_)
          refine lv_iinc (v := (nI k) + 1) (lv' := [(21, .int ((nI k) + 1)), (19, .int ((y_askC nr (fun k => bt (τ.2 2 k) sub) τ k) + 0)), (20, .int 0), (16, .int (nI sub)), (12, .int (nI i)), (11, .ref uo), (10, .ref (ay 8)), (9, .ref (ay 7)), (8, .ref (ay 6)), (7, .ref (ay 5)), (6, .ref (ay 4)), (5, .ref (ay 3)), (4, .ref (ay 2)), (3, .ref (ay 1)), (2, .ref (ay 0)), (1, .ref xo), (0, .ref b)]) hx hb dL_law_1051 hl (k := 2) rfl rfl (by decide) rfl (fun ls hl => ?_)
          refine lv_goto (tgt := 1011) hx hb dL_law_1054 (by decide) ?_
          exact ihk (k + 1) (by omega) (by omega)   _ _ hPx (by rw [y_ask, if_neg (fun h => by have h2 : bt (τ.2 2 k) sub = true := h.2; rw [c1031] at h2; cases h2)]; exact hPy) hPu hS _ (lv_to (L := [(19, .int ((y_askC nr (fun k => bt (τ.2 2 k) sub) τ k) + 0)), (20, .int 0), (21, .int ((nI k) + 1)), (16, .int (nI sub)), (12, .int (nI i)), (11, .ref uo), (10, .ref (ay 8)), (9, .ref (ay 7)), (8, .ref (ay 6)), (7, .ref (ay 5)), (6, .ref (ay 4)), (5, .ref (ay 3)), (4, .ref (ay 2)), (3, .ref (ay 1)), (2, .ref (ay 0)), (1, .ref xo), (0, .ref b)]) (lv_sub hl [1, 2, 0, 3, 4, 5, 6, 7, 8, 9, 10, 11, 12, 13, 14, 15, 16] rfl) (lv_ci (by rw [add0, y_askC, if_neg (fun h => by have h2 : bt (τ.2 2 k) sub = true := h.2; rw [c1031] at h2; cases h2)]) (lv_cr (lv_ci (nI_1 k) (lv_cr (lv_cr (lv_cr (lv_cr (lv_cr (lv_cr (lv_cr (lv_cr (lv_cr (lv_cr (lv_cr (lv_cr (lv_cr (lv_cr rfl))))))))))))))))))
        · by_cases c9 : (y_ask nr (fun k => bt (τ.2 2 k) sub) τ k).2 6 k = 0
          · refine lv_iload hx hb dL_law_1034 (lv_at hl 2 rfl) ?_
            refine lv_aload_n hx hb dL_law_1036 rfl (lv_at hl 14 rfl) ?_
            refine lv_aload hx hb dL_law_1037 (lv_at hl 11 rfl) ?_
            refine lv_aload hx hb dL_law_1039 (lv_at hl 8 rfl) ?_
            refine k_L_asks_p D tI tZ tL 0 ay (y_ask nr (fun k => bt (τ.2 2 k) sub) τ k) k nr (hnrk) (hn30) (hkn) (c9) (by rw [y_ask_row (by decide)]; exact l_self hR hY k hkn) ⟨hx, hb, hml, hown, hts⟩ gL_law_L_asks ⟨Nat.le_of_ble_eq_true rfl, Nat.le_of_ble_eq_true rfl⟩ hl.1 hc0 (Nat.le_of_ble_eq_true rfl) (A_y A) hK hPy hS (A_yg A) dL_law_1041 (fun H locs hPy hz hk hS => ?_)
            replace hPx := x_kept9 hPx (fun q h1 h2 => hk q h1 (A_xy A q h2))
            replace hPu := u_kept9 hPu (hk uo (u_lt9 hPu) (A_uy A))
            refine lv_goto (tgt := 1048) hx hb dL_law_1044 (by decide) ?_
            refine lv_iadd hx hb dL_law_1048 ?_
            refine lv_istore (lv' := [(19, .int ((y_askC nr (fun k => bt (τ.2 2 k) sub) τ k) + (m_cn ((y_ask nr (fun k => bt (τ.2 2 k) sub) τ k).2 6) ((y_ask nr (fun k => bt (τ.2 2 k) sub) τ k).2 3 k ||| bI k) nr))), (20, .int 0), (21, .int (nI k)), (16, .int (nI sub)), (12, .int (nI i)), (11, .ref uo), (10, .ref (ay 8)), (9, .ref (ay 7)), (8, .ref (ay 6)), (7, .ref (ay 5)), (6, .ref (ay 4)), (5, .ref (ay 3)), (4, .ref (ay 2)), (3, .ref (ay 1)), (2, .ref (ay 0)), (1, .ref xo), (0, .ref b)]) hx hb dL_law_1049 hl (by decide) rfl (fun ls hl => ?_)
            refine lv_iinc (v := (nI k) + 1) (lv' := [(21, .int ((nI k) + 1)), (19, .int ((y_askC nr (fun k => bt (τ.2 2 k) sub) τ k) + (m_cn ((y_ask nr (fun k => bt (τ.2 2 k) sub) τ k).2 6) ((y_ask nr (fun k => bt (τ.2 2 k) sub) τ k).2 3 k ||| bI k) nr))), (20, .int 0), (16, .int (nI sub)), (12, .int (nI i)), (11, .ref uo), (10, .ref (ay 8)), (9, .ref (ay 7)), (8, .ref (ay 6)), (7, .ref (ay 5)), (6, .ref (ay 4)), (5, .ref (ay 3)), (4, .ref (ay 2)), (3, .ref (ay 1)), (2, .ref (ay 0)), (1, .ref xo), (0, .ref b)]) hx hb dL_law_1051 hl (k := 2) rfl rfl (by decide) rfl (fun ls hl => ?_)
            refine lv_goto (tgt := 1011) hx hb dL_law_1054 (by decide) ?_
            exact ihk (k + 1) (by omega) (by omega)   _ _ hPx (by rw [y_ask, if_pos ⟨c9, c1031⟩]; exact hPy) hPu hS _ (lv_to (L := [(19, .int ((y_askC nr (fun k => bt (τ.2 2 k) sub) τ k) + (m_cn ((y_ask nr (fun k => bt (τ.2 2 k) sub) τ k).2 6) ((y_ask nr (fun k => bt (τ.2 2 k) sub) τ k).2 3 k ||| bI k) nr))), (20, .int 0), (21, .int ((nI k) + 1)), (16, .int (nI sub)), (12, .int (nI i)), (11, .ref uo), (10, .ref (ay 8)), (9, .ref (ay 7)), (8, .ref (ay 6)), (7, .ref (ay 5)), (6, .ref (ay 4)), (5, .ref (ay 3)), (4, .ref (ay 2)), (3, .ref (ay 1)), (2, .ref (ay 0)), (1, .ref xo), (0, .ref b)]) (lv_sub hl [1, 2, 0, 3, 4, 5, 6, 7, 8, 9, 10, 11, 12, 13, 14, 15, 16] rfl) (lv_ci (by rw [y_askC, if_pos ⟨c9, c1031⟩]) (lv_cr (lv_ci (nI_1 k) (lv_cr (lv_cr (lv_cr (lv_cr (lv_cr (lv_cr (lv_cr (lv_cr (lv_cr (lv_cr (lv_cr (lv_cr (lv_cr (lv_cr rfl))))))))))))))))))
          · refine lv_iload hx hb dL_law_1034 (lv_at hl 2 rfl) ?_
            refine lv_aload_n hx hb dL_law_1036 rfl (lv_at hl 14 rfl) ?_
            refine lv_aload hx hb dL_law_1037 (lv_at hl 11 rfl) ?_
            refine lv_aload hx hb dL_law_1039 (lv_at hl 8 rfl) ?_
            refine k_L_asks_n D tI tZ tL 0 ay (y_ask nr (fun k => bt (τ.2 2 k) sub) τ k) k nr (hnrk) (hn30) (hkn) (c9) ⟨hx, hb, hml, hown, hts⟩ gL_law_L_asks ⟨Nat.le_of_ble_eq_true rfl, Nat.le_of_ble_eq_true rfl⟩ hl.1 hc0 (Nat.le_of_ble_eq_true rfl) (A_y A) hK hPy hS (A_yg A) dL_law_1041 (fun H locs hPy hz hk hS => ?_)
            replace hPx := x_kept9 hPx (fun q h1 h2 => hk q h1 (A_xy A q h2))
            replace hPu := u_kept9 hPu (hk uo (u_lt9 hPu) (A_uy A))
            refine lv_goto (tgt := 1048) hx hb dL_law_1044 (by decide) ?_
            refine lv_iadd hx hb dL_law_1048 ?_
            refine lv_istore (lv' := [(19, .int ((y_askC nr (fun k => bt (τ.2 2 k) sub) τ k) + 0)), (20, .int 0), (21, .int (nI k)), (16, .int (nI sub)), (12, .int (nI i)), (11, .ref uo), (10, .ref (ay 8)), (9, .ref (ay 7)), (8, .ref (ay 6)), (7, .ref (ay 5)), (6, .ref (ay 4)), (5, .ref (ay 3)), (4, .ref (ay 2)), (3, .ref (ay 1)), (2, .ref (ay 0)), (1, .ref xo), (0, .ref b)]) hx hb dL_law_1049 hl (by decide) rfl (fun ls hl => ?_)
            refine lv_iinc (v := (nI k) + 1) (lv' := [(21, .int ((nI k) + 1)), (19, .int ((y_askC nr (fun k => bt (τ.2 2 k) sub) τ k) + 0)), (20, .int 0), (16, .int (nI sub)), (12, .int (nI i)), (11, .ref uo), (10, .ref (ay 8)), (9, .ref (ay 7)), (8, .ref (ay 6)), (7, .ref (ay 5)), (6, .ref (ay 4)), (5, .ref (ay 3)), (4, .ref (ay 2)), (3, .ref (ay 1)), (2, .ref (ay 0)), (1, .ref xo), (0, .ref b)]) hx hb dL_law_1051 hl (k := 2) rfl rfl (by decide) rfl (fun ls hl => ?_)
            refine lv_goto (tgt := 1011) hx hb dL_law_1054 (by decide) ?_
            exact ihk (k + 1) (by omega) (by omega)   _ _ hPx (by rw [y_ask, if_neg (fun h => c9 h.1)]; exact hPy) hPu hS _ (lv_to (L := [(19, .int ((y_askC nr (fun k => bt (τ.2 2 k) sub) τ k) + 0)), (20, .int 0), (21, .int ((nI k) + 1)), (16, .int (nI sub)), (12, .int (nI i)), (11, .ref uo), (10, .ref (ay 8)), (9, .ref (ay 7)), (8, .ref (ay 6)), (7, .ref (ay 5)), (6, .ref (ay 4)), (5, .ref (ay 3)), (4, .ref (ay 2)), (3, .ref (ay 1)), (2, .ref (ay 0)), (1, .ref xo), (0, .ref b)]) (lv_sub hl [1, 2, 0, 3, 4, 5, 6, 7, 8, 9, 10, 11, 12, 13, 14, 15, 16] rfl) (lv_ci (by rw [add0, y_askC, if_neg (fun h => c9 h.1)]) (lv_cr (lv_ci (nI_1 k) (lv_cr (lv_cr (lv_cr (lv_cr (lv_cr (lv_cr (lv_cr (lv_cr (lv_cr (lv_cr (lv_cr (lv_cr (lv_cr (lv_cr rfl))))))))))))))))))
  exact loop1011 (nr + 1) 0 (by omega) (by omega)   _ _ hPx (hPy) hPu hS _ (lv_to (L := [(19, .int 0), (20, .int 0), (21, .int 0), (16, .int (nI sub)), (12, .int (nI i)), (11, .ref uo), (10, .ref (ay 8)), (9, .ref (ay 7)), (8, .ref (ay 6)), (7, .ref (ay 5)), (6, .ref (ay 4)), (5, .ref (ay 3)), (4, .ref (ay 2)), (3, .ref (ay 1)), (2, .ref (ay 0)), (1, .ref xo), (0, .ref b)]) (lv_sub hl [2, 1, 0, 5, 9, 10, 11, 12, 13, 14, 15, 16, 17, 18, 19, 20, 21] rfl) (lv_ci (rfl) (lv_cr (lv_ci (rfl) (lv_cr (lv_cr (lv_cr (lv_cr (lv_cr (lv_cr (lv_cr (lv_cr (lv_cr (lv_cr (lv_cr (lv_cr (lv_cr (lv_cr rfl))))))))))))))))))

set_option maxHeartbeats 4000000 in
set_option maxRecDepth 100000 in
theorem lc_days (E : L_E p l s m meth c b L xs D tI tZ tL) (A : L_A s xo ax ay uo) (hR : RR σ μ td np nr) (hY : YY μ τ υ td np nr T) (hT : T < 110) (htd : td ≤ 4 * T) (hcap : cells + 1 ≤ room_1.cells ∧ slots + 6 ≤ room_1.slots) (v : Int32) (act rec sub pu st : Nat) (hrec : rec ≤ nr) (hsub : sub < 6) (hpu : pu < np) (hst : st < 2 ^ np) (hPx : va_P D vwCl (x_W tI tZ xo ax σ) H) (hPy : va_P D vwCl (y_W tI tZ 0 ay τ) H) (hPu : va_P D vwCl (u_W tL uo υ) H) (hS : va_S (L_g s) s.heap H locs) (hl : lv_has ls 23 [(20, .int 0), (19, .int 0), (18, .int (nI st)), (17, .int (nI pu)), (16, .int (nI sub)), (15, .int (nI rec)), (14, .int (nI act)), (13, .int v), (12, .int (nI i)), (11, .ref uo), (10, .ref (ay 8)), (9, .ref (ay 7)), (8, .ref (ay 6)), (7, .ref (ay 5)), (6, .ref (ay 4)), (5, .ref (ay 3)), (4, .ref (ay 2)), (3, .ref (ay 1)), (2, .ref (ay 0)), (1, .ref xo), (0, .ref b)]) (kk : ∀ (σ' τ' : ST) (υ' : Nat → Int64) (due : Int32) (H' : Heap) (locs' : List Loc) (ls' : Array Slot), ZZ σ' τ' υ' (T + 1) → va_P D vwCl (x_W tI tZ xo ax σ') H' → va_P D vwCl (y_W tI tZ 0 ay τ') H' → va_P D vwCl (u_W tL uo υ') H' → va_S (L_g s) s.heap H' locs' → lv_has ls' 23 (L_w b xo ay uo i due) → W p l e room_1 s m #[Value.ref b] below meth c H' locs' (cells + 1) (slots + 6) Q (F0 m 1225 ls' [])) : W p l e room_1 s m #[Value.ref b] below meth c H locs cells slots Q (F0 m 1075 ls []) := by
  obtain ⟨hx, hb, hml, hown, hts, hX, hbl, hK, hE, hlf, hL⟩ := E
  have hn30 := R_nr hR
  have hn8 := R_np hR
  have hc0 : cells ≤ room_1.cells ∧ slots ≤ room_1.slots := ⟨by have := hcap.1; omega, by have := hcap.2; omega⟩
  refine lv_iconst (v := 1) hx hb dL_law_1075 (by decide) ?_
  refine lv_iload hx hb dL_law_1076 (lv_at hl 7 rfl) ?_
  refine lv_iconst (v := 5) hx hb dL_law_1078 (by decide) ?_
  refine lv_ishr hx hb dL_law_1079 ?_
  refine lv_iconst (v := 4) hx hb dL_law_1080 (by decide) ?_
  refine k_L_low (v >>> (5 &&& 31)) 4 (by omega) (by omega) ⟨hx, hb, hml, hown, hts⟩ gL_law_L_low ⟨Nat.le_of_ble_eq_true rfl, Nat.le_of_ble_eq_true rfl⟩ hl.1 hc0 (Nat.le_of_ble_eq_true rfl) dL_law_1081 ?_
  obtain ⟨dy, hdy, edy⟩ := y_low_lt (v >>> (5 &&& 31)) (n := 4) (by omega) (by omega)
  have hC := St_days hR hY hT htd hdy
  refine lv_topc (y := nI dy) (edy) ?_
  refine lv_iadd hx hb dL_law_1084 ?_
  refine lv_topc (y := nI (dy + 1)) (by rw [Int32.add_comm, nI_1]) ?_
  refine lv_istore (lv' := [(21, .int (nI (dy + 1))), (20, .int 0), (19, .int 0), (18, .int (nI st)), (17, .int (nI pu)), (16, .int (nI sub)), (15, .int (nI rec)), (14, .int (nI act)), (13, .int v), (12, .int (nI i)), (11, .ref uo), (10, .ref (ay 8)), (9, .ref (ay 7)), (8, .ref (ay 6)), (7, .ref (ay 5)), (6, .ref (ay 4)), (5, .ref (ay 3)), (4, .ref (ay 2)), (3, .ref (ay 1)), (2, .ref (ay 0)), (1, .ref xo), (0, .ref b)]) hx hb dL_law_1085 hl (by decide) rfl (fun ls hl => ?_)
  refine lv_iload hx hb dL_law_1087 (lv_at hl 0 rfl) ?_
  refine lv_aload_n hx hb dL_law_1089 rfl (lv_at hl 19 rfl) ?_
  refine lv_aload_n hx hb dL_law_1090 rfl (lv_at hl 18 rfl) ?_
  refine lv_aload hx hb dL_law_1091 (lv_at hl 17 rfl) ?_
  refine lv_aload hx hb dL_law_1093 (lv_at hl 16 rfl) ?_
  refine lv_aload hx hb dL_law_1095 (lv_at hl 15 rfl) ?_
  refine lv_aload hx hb dL_law_1097 (lv_at hl 14 rfl) ?_
  refine lv_aload hx hb dL_law_1099 (lv_at hl 13 rfl) ?_
  refine lv_aload hx hb dL_law_1101 (lv_at hl 11 rfl) ?_
  refine k_L_passes D tI tZ tL 0 ay τ (dy + 1) (by omega) np (Y_q1 hY) (hn8) nr (Y_q2 hY) (hn30) (l_self hR hY) ⟨hx, hb, hml, hown, hts⟩ gL_law_L_passes ⟨Nat.le_of_ble_eq_true rfl, Nat.le_of_ble_eq_true rfl⟩ hl.1 hc0 (Nat.le_of_ble_eq_true rfl) (A_y A) hK hPy hS (A_yg A) dL_law_1103 (fun H locs hPy hz hk hS => ?_)
  replace hPx := x_kept9 hPx (fun q h1 h2 => hk q h1 (A_xy A q h2))
  replace hPu := u_kept9 hPu (hk uo (u_lt9 hPu) (A_uy A))
  refine lv_istore (lv' := [(19, .int (y_dyc nr np τ (dy + 1))), (21, .int (nI (dy + 1))), (20, .int 0), (18, .int (nI st)), (17, .int (nI pu)), (16, .int (nI sub)), (15, .int (nI rec)), (14, .int (nI act)), (13, .int v), (12, .int (nI i)), (11, .ref uo), (10, .ref (ay 8)), (9, .ref (ay 7)), (8, .ref (ay 6)), (7, .ref (ay 5)), (6, .ref (ay 4)), (5, .ref (ay 3)), (4, .ref (ay 2)), (3, .ref (ay 1)), (2, .ref (ay 0)), (1, .ref xo), (0, .ref b)]) hx hb dL_law_1106 hl (by decide) rfl (fun ls hl => ?_)
  refine lv_aload_n hx hb dL_law_1108 rfl (lv_at hl 20 rfl) ?_
  refine lv_iload hx hb dL_law_1109 (lv_at hl 1 rfl) ?_
  refine k_X0_passDays D tI tZ tL xo ax σ (nI (dy + 1)) (nI_le (a := 1) (by omega) (by omega)) (nI_le (b := 1000) (by omega) (by decide)) np (R_x1 hR) (hn8) nr (R_x6 hR) (hn30) ⟨hx, hb, hml, hown, hts⟩ gL_law_X0_passDays ⟨Nat.le_of_ble_eq_true rfl, Nat.le_of_ble_eq_true rfl⟩ hl.1 hc0 (Nat.le_of_ble_eq_true rfl) (A_x A) hK hPx hS (A_xg A) dL_law_1111 (fun H locs hPx hz hk hS => ?_)
  replace hPy := y_kept9 hPy (fun q h1 h2 => hk q h1 (A_yx A q h2))
  replace hPu := u_kept9 hPu (hk uo (u_lt9 hPu) (A_ux A))
  refine lv_topc (y := y_dyc nr np τ (dy + 1)) (hC.1.symm) ?_
  refine lv_istore (lv' := [(20, .int (y_dyc nr np τ (dy + 1))), (19, .int (y_dyc nr np τ (dy + 1))), (21, .int (nI (dy + 1))), (18, .int (nI st)), (17, .int (nI pu)), (16, .int (nI sub)), (15, .int (nI rec)), (14, .int (nI act)), (13, .int v), (12, .int (nI i)), (11, .ref uo), (10, .ref (ay 8)), (9, .ref (ay 7)), (8, .ref (ay 6)), (7, .ref (ay 5)), (6, .ref (ay 4)), (5, .ref (ay 3)), (4, .ref (ay 2)), (3, .ref (ay 1)), (2, .ref (ay 0)), (1, .ref xo), (0, .ref b)]) hx hb dL_law_1114 hl (by decide) rfl (fun ls hl => ?_)
  refine lv_goto (tgt := 1225) hx hb dL_law_1116 (by decide) ?_
  exact W.widen (Nat.le_add_right _ _) (Nat.le_add_right _ _) (kk (x_req (s_set (x_cdA σ np (nI (dy + 1))) 0 ((σ.1 0) + (nI (dy + 1)))) (x_due (s_set (x_cdA σ np (nI (dy + 1))) 0 ((σ.1 0) + (nI (dy + 1)))) np nr) nr) (y_dys nr np τ (dy + 1)) υ (y_dyc nr np τ (dy + 1)) _ _ _ hC.2 hPx hPy hPu hS (lv_sub hl [0, 1, 9, 10, 11, 12, 13, 14, 15, 16, 17, 18, 19, 20, 21] rfl))

set_option maxHeartbeats 4000000 in
set_option maxRecDepth 100000 in
theorem lc_ret (E : L_E p l s m meth c b L xs D tI tZ tL) (A : L_A s xo ax ay uo) (hR : RR σ μ td np nr) (hY : YY μ τ υ td np nr T) (hT : T < 110) (htd : td ≤ 4 * T) (hcap : cells + 1 ≤ room_1.cells ∧ slots + 6 ≤ room_1.slots) (v : Int32) (act rec sub pu st : Nat) (hrec : rec ≤ nr) (hsub : sub < 6) (hpu : pu < np) (hst : st < 2 ^ np) (hPx : va_P D vwCl (x_W tI tZ xo ax σ) H) (hPy : va_P D vwCl (y_W tI tZ 0 ay τ) H) (hPu : va_P D vwCl (u_W tL uo υ) H) (hS : va_S (L_g s) s.heap H locs) (hl : lv_has ls 23 [(20, .int 0), (19, .int 0), (18, .int (nI st)), (17, .int (nI pu)), (16, .int (nI sub)), (15, .int (nI rec)), (14, .int (nI act)), (13, .int v), (12, .int (nI i)), (11, .ref uo), (10, .ref (ay 8)), (9, .ref (ay 7)), (8, .ref (ay 6)), (7, .ref (ay 5)), (6, .ref (ay 4)), (5, .ref (ay 3)), (4, .ref (ay 2)), (3, .ref (ay 1)), (2, .ref (ay 0)), (1, .ref xo), (0, .ref b)]) (kk : ∀ (σ' τ' : ST) (υ' : Nat → Int64) (due : Int32) (H' : Heap) (locs' : List Loc) (ls' : Array Slot), ZZ σ' τ' υ' (T + 1) → va_P D vwCl (x_W tI tZ xo ax σ') H' → va_P D vwCl (y_W tI tZ 0 ay τ') H' → va_P D vwCl (u_W tL uo υ') H' → va_S (L_g s) s.heap H' locs' → lv_has ls' 23 (L_w b xo ay uo i due) → W p l e room_1 s m #[Value.ref b] below meth c H' locs' (cells + 1) (slots + 6) Q (F0 m 1225 ls' [])) : W p l e room_1 s m #[Value.ref b] below meth c H locs cells slots Q (F0 m 1126 ls []) := by
  obtain ⟨hx, hb, hml, hown, hts, hX, hbl, hK, hE, hlf, hL⟩ := E
  have hn30 := R_nr hR
  have hn8 := R_np hR
  have hc0 : cells ≤ room_1.cells ∧ slots ≤ room_1.slots := ⟨by have := hcap.1; omega, by have := hcap.2; omega⟩
  refine lv_aload_n hx hb dL_law_1126 rfl (lv_at hl 17 rfl) ?_
  refine lv_iload hx hb dL_law_1127 (lv_at hl 3 rfl) ?_
  refine yr_p (j := pu) hx hb hK hPy (by omega) dL_law_1129 ?_
  refine lv_istore (lv' := [(19, .int (τ.2 1 pu)), (20, .int 0), (18, .int (nI st)), (17, .int (nI pu)), (16, .int (nI sub)), (15, .int (nI rec)), (14, .int (nI act)), (13, .int v), (12, .int (nI i)), (11, .ref uo), (10, .ref (ay 8)), (9, .ref (ay 7)), (8, .ref (ay 6)), (7, .ref (ay 5)), (6, .ref (ay 4)), (5, .ref (ay 3)), (4, .ref (ay 2)), (3, .ref (ay 1)), (2, .ref (ay 0)), (1, .ref xo), (0, .ref b)]) hx hb dL_law_1130 hl (by decide) rfl (fun ls hl => ?_)
  refine lv_aload_n hx hb dL_law_1132 rfl (lv_at hl 17 rfl) ?_
  refine lv_iload hx hb dL_law_1133 (lv_at hl 3 rfl) ?_
  refine lv_iload hx hb dL_law_1135 (lv_at hl 7 rfl) ?_
  refine lv_bipush (v := 13) hx hb dL_law_1137 (by decide) ?_
  refine lv_ishr hx hb dL_law_1139 ?_
  refine lv_bipush (v := 14) hx hb dL_law_1140 (by decide) ?_
  refine k_L_low (v >>> (13 &&& 31)) 14 (by omega) (by omega) ⟨hx, hb, hml, hown, hts⟩ gL_law_L_low ⟨Nat.le_of_ble_eq_true rfl, Nat.le_of_ble_eq_true rfl⟩ hl.1 hc0 (Nat.le_of_ble_eq_true rfl) dL_law_1142 ?_
  obtain ⟨ln, hln, eln⟩ := y_low_lt (v >>> (13 &&& 31)) (n := 14) (by omega) (by omega)
  refine lv_topc (y := nI ln) (eln) ?_
  refine zw_p (j := pu) hx hb hK hPx hPy hPu A hS (by omega) dL_law_1145 (fun H locs hPx hPy hPu hS => ?_)
  refine lv_aload_n hx hb dL_law_1146 rfl (lv_at hl 19 rfl) ?_
  refine lv_bipush (v := 6) hx hb dL_law_1147 (by decide) ?_
  refine lv_iload hx hb dL_law_1149 (lv_at hl 3 rfl) ?_
  refine lv_aload_n hx hb dL_law_1151 rfl (lv_at hl 17 rfl) ?_
  refine lv_iload hx hb dL_law_1152 (lv_at hl 3 rfl) ?_
  refine yr_p (j := pu) hx hb hK hPy (by omega) dL_law_1154 ?_
  refine lv_topc (y := nI ln) (s_put_self) ?_
  obtain ⟨code, val, σ', hxo, hv9, hZ⟩ := St_sr hR hY hT htd hpu (ln := ln) (by omega)
  refine k_L_calls_setRetention D tI tZ tL xo ax σ (nI pu) (nI ln) code val σ' hxo hlf (A_x A) ⟨hx, hb, hml, hown, hts⟩ gL_law_L_calls ⟨Nat.le_of_ble_eq_true rfl, Nat.le_of_ble_eq_true rfl⟩ hl.1 hcap (Nat.le_of_ble_eq_true rfl) hK hPx (w_Emv hE hS) hS (A_xg A) dL_law_1155 (fun H locs hPx hz hk hS => ?_)
  replace hPy := y_kept9 hPy (fun q h1 h2 => hk q h1 (A_yx A q h2))
  replace hPu := u_kept9 hPu (hk uo (u_lt9 hPu) (A_ux A))
  refine lv_topc (y := (τ.2 1 pu)) hv9 ?_
  refine lv_istore (lv' := [(20, .int (τ.2 1 pu)), (19, .int (τ.2 1 pu)), (18, .int (nI st)), (17, .int (nI pu)), (16, .int (nI sub)), (15, .int (nI rec)), (14, .int (nI act)), (13, .int v), (12, .int (nI i)), (11, .ref uo), (10, .ref (ay 8)), (9, .ref (ay 7)), (8, .ref (ay 6)), (7, .ref (ay 5)), (6, .ref (ay 4)), (5, .ref (ay 3)), (4, .ref (ay 2)), (3, .ref (ay 1)), (2, .ref (ay 0)), (1, .ref xo), (0, .ref b)]) hx hb dL_law_1158 hl (by decide) rfl (fun ls hl => ?_)
  refine lv_goto (tgt := 1225) hx hb dL_law_1160 (by decide) ?_
  exact kk σ' (s_put τ 1 pu (nI ln)) υ (τ.2 1 pu) _ _ _ hZ hPx hPy hPu hS (lv_sub hl [0, 1, 8, 9, 10, 11, 12, 13, 14, 15, 16, 17, 18, 19, 20] rfl)

set_option maxHeartbeats 4000000 in
set_option maxRecDepth 100000 in
theorem lc_erase (E : L_E p l s m meth c b L xs D tI tZ tL) (A : L_A s xo ax ay uo) (hR : RR σ μ td np nr) (hY : YY μ τ υ td np nr T) (hT : T < 110) (htd : td ≤ 4 * T) (hcap : cells + 1 ≤ room_1.cells ∧ slots + 6 ≤ room_1.slots) (v : Int32) (act rec sub pu st : Nat) (hrec : rec ≤ nr) (hsub : sub < 6) (hpu : pu < np) (hst : st < 2 ^ np) (hPx : va_P D vwCl (x_W tI tZ xo ax σ) H) (hPy : va_P D vwCl (y_W tI tZ 0 ay τ) H) (hPu : va_P D vwCl (u_W tL uo υ) H) (hS : va_S (L_g s) s.heap H locs) (hl : lv_has ls 23 [(20, .int 0), (19, .int 0), (18, .int (nI st)), (17, .int (nI pu)), (16, .int (nI sub)), (15, .int (nI rec)), (14, .int (nI act)), (13, .int v), (12, .int (nI i)), (11, .ref uo), (10, .ref (ay 8)), (9, .ref (ay 7)), (8, .ref (ay 6)), (7, .ref (ay 5)), (6, .ref (ay 4)), (5, .ref (ay 3)), (4, .ref (ay 2)), (3, .ref (ay 1)), (2, .ref (ay 0)), (1, .ref xo), (0, .ref b)]) (kk : ∀ (σ' τ' : ST) (υ' : Nat → Int64) (due : Int32) (H' : Heap) (locs' : List Loc) (ls' : Array Slot), ZZ σ' τ' υ' (T + 1) → va_P D vwCl (x_W tI tZ xo ax σ') H' → va_P D vwCl (y_W tI tZ 0 ay τ') H' → va_P D vwCl (u_W tL uo υ') H' → va_S (L_g s) s.heap H' locs' → lv_has ls' 23 (L_w b xo ay uo i due) → W p l e room_1 s m #[Value.ref b] below meth c H' locs' (cells + 1) (slots + 6) Q (F0 m 1225 ls' [])) : W p l e room_1 s m #[Value.ref b] below meth c H locs cells slots Q (F0 m 1170 ls []) := by
  obtain ⟨hx, hb, hml, hown, hts, hX, hbl, hK, hE, hlf, hL⟩ := E
  have hn30 := R_nr hR
  have hn8 := R_np hR
  have hc0 : cells ≤ room_1.cells ∧ slots ≤ room_1.slots := ⟨by have := hcap.1; omega, by have := hcap.2; omega⟩
  have hC := St_er hR hY hT htd
  refine lv_aload_n hx hb dL_law_1170 rfl (lv_at hl 18 rfl) ?_
  refine lv_aload_n hx hb dL_law_1171 rfl (lv_at hl 17 rfl) ?_
  refine lv_aload hx hb dL_law_1172 (lv_at hl 15 rfl) ?_
  refine lv_aload hx hb dL_law_1174 (lv_at hl 12 rfl) ?_
  refine k_L_erases D tI tZ tL 0 ay τ nr (Y_q2 hY) (hn30) ⟨hx, hb, hml, hown, hts⟩ gL_law_L_erases ⟨Nat.le_of_ble_eq_true rfl, Nat.le_of_ble_eq_true rfl⟩ hl.1 hc0 (Nat.le_of_ble_eq_true rfl) (A_y A) hK hPy hS (A_yg A) dL_law_1176 (fun H locs hPy hz hk hS => ?_)
  replace hPx := x_kept9 hPx (fun q h1 h2 => hk q h1 (A_xy A q h2))
  replace hPu := u_kept9 hPu (hk uo (u_lt9 hPu) (A_uy A))
  refine lv_istore (lv' := [(19, .int (y_erA τ.2 nr)), (20, .int 0), (18, .int (nI st)), (17, .int (nI pu)), (16, .int (nI sub)), (15, .int (nI rec)), (14, .int (nI act)), (13, .int v), (12, .int (nI i)), (11, .ref uo), (10, .ref (ay 8)), (9, .ref (ay 7)), (8, .ref (ay 6)), (7, .ref (ay 5)), (6, .ref (ay 4)), (5, .ref (ay 3)), (4, .ref (ay 2)), (3, .ref (ay 1)), (2, .ref (ay 0)), (1, .ref xo), (0, .ref b)]) hx hb dL_law_1179 hl (by decide) rfl (fun ls hl => ?_)
  refine lv_aload_n hx hb dL_law_1181 rfl (lv_at hl 19 rfl) ?_
  refine k_X0_erase D tI tZ tL xo ax σ nr (R_x6 hR) (hn30) ⟨hx, hb, hml, hown, hts⟩ gL_law_X0_erase ⟨Nat.le_of_ble_eq_true rfl, Nat.le_of_ble_eq_true rfl⟩ hl.1 hc0 (Nat.le_of_ble_eq_true rfl) (A_x A) hK hPx hS (A_xg A) dL_law_1182 (fun H locs hPx hz hk hS => ?_)
  replace hPy := y_kept9 hPy (fun q h1 h2 => hk q h1 (A_yx A q h2))
  replace hPu := u_kept9 hPu (hk uo (u_lt9 hPu) (A_ux A))
  refine lv_topc (y := y_erA τ.2 nr) (hC.1.symm) ?_
  refine lv_istore (lv' := [(20, .int (y_erA τ.2 nr)), (19, .int (y_erA τ.2 nr)), (18, .int (nI st)), (17, .int (nI pu)), (16, .int (nI sub)), (15, .int (nI rec)), (14, .int (nI act)), (13, .int v), (12, .int (nI i)), (11, .ref uo), (10, .ref (ay 8)), (9, .ref (ay 7)), (8, .ref (ay 6)), (7, .ref (ay 5)), (6, .ref (ay 4)), (5, .ref (ay 3)), (4, .ref (ay 2)), (3, .ref (ay 1)), (2, .ref (ay 0)), (1, .ref xo), (0, .ref b)]) hx hb dL_law_1185 hl (by decide) rfl (fun ls hl => ?_)
  refine lv_goto (tgt := 1225) hx hb dL_law_1187 (by decide) ?_
  exact W.widen (Nat.le_add_right _ _) (Nat.le_add_right _ _) (kk (x_erS σ nr) (y_erS τ nr) υ (y_erA τ.2 nr) _ _ _ hC.2 hPx hPy hPu hS (lv_sub hl [0, 1, 8, 9, 10, 11, 12, 13, 14, 15, 16, 17, 18, 19, 20] rfl))

end LC
