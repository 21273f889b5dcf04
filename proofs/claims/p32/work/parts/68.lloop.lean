/-! ===== the law's loop ===== -/
section LL
variable {p : Program} {l : Launch} {e : Env} {s : State} {m : MethodId} {below : List Frame} {meth : Method} {c : Code} {D : va_G} {tI tZ tL : ClassId} {xo uo b L : Nat} {xs : Nat → Int32} {ax ay : Nat → Nat}
set_option maxHeartbeats 8000000 in
set_option maxRecDepth 100000 in
theorem ll_loop (E : L_E p l s m meth c b L xs D tI tZ tL) (A : L_A s xo ax ay uo) (hret : meth.sig.returnType = ret) (hlocks : meth.locks = false) : ∀ (n k : Nat) (σ τ : ST) (υ : Nat → Int64) (H : Heap) (locs : List Loc) (ls : Array Slot), k + n = 110 → ZZ σ τ υ k → va_P D vwCl (x_W tI tZ xo ax σ) H → va_P D vwCl (y_W tI tZ 0 ay τ) H → va_P D vwCl (u_W tL uo υ) H → va_S (L_g s) s.heap H locs → lv_has ls 23 [(12, .int (nI k)), (11, .ref uo), (10, .ref (ay 8)), (9, .ref (ay 7)), (8, .ref (ay 6)), (7, .ref (ay 5)), (6, .ref (ay 4)), (5, .ref (ay 3)), (4, .ref (ay 2)), (3, .ref (ay 1)), (2, .ref (ay 0)), (1, .ref xo), (0, .ref b)] → W p l e room_1 s m #[Value.ref b] below meth c H locs (20 + k) (817 + 6 * k) (lw_Z below #[Value.ref b] s) (F0 m 68 ls []) := by
  have E0 := E
  obtain ⟨hx, hb, hml, hown, hts, hX, hbl, hK, hE, hlf, hL⟩ := E
  intro n
  induction n with
  | zero =>
    intro k σ τ υ H locs ls hkn hZ hPx hPy hPu hS hl
    refine lv_iload hx hb dL_law_68 (lv_at hl 0 rfl) ?_
    refine lv_bipush (v := 110) hx hb dL_law_70 (by decide) ?_
    refine lv_icmp_ge (tgt := 1263) hx hb dL_law_72 (by decide) (fun _ => ?_) (fun h => absurd (nI_le (a := 110) (by omega) (by omega)) h)
    refine lv_iconst (v := 1) hx hb dL_law_1263 (by decide) ?_
    refine va_forget hS.2.2 ?_
    exact W.widen (by omega) (by omega) (lw_ret hx hb hret hlocks dL_law_1264)
  | succ n ih =>
    intro k σ τ υ H locs ls hkn hZ hPx hPy hPu hS hl
    have hcap : 20 + k + 1 ≤ room_1.cells ∧ 817 + 6 * k + 6 ≤ room_1.slots := ⟨by show _ ≤ 169; omega, by show _ ≤ 1971; omega⟩
    have hc0 : 20 + k ≤ room_1.cells ∧ 817 + 6 * k ≤ room_1.slots := ⟨by show _ ≤ 169; omega, by show _ ≤ 1971; omega⟩
    have kk : ∀ (σ' τ' : ST) (υ' : Nat → Int64) (due : Int32) (H' : Heap) (locs' : List Loc) (ls' : Array Slot), ZZ σ' τ' υ' (k + 1) → va_P D vwCl (x_W tI tZ xo ax σ') H' → va_P D vwCl (y_W tI tZ 0 ay τ') H' → va_P D vwCl (u_W tL uo υ') H' → va_S (L_g s) s.heap H' locs' → lv_has ls' 23 (L_w b xo ay uo k due) → W p l e room_1 s m #[Value.ref b] below meth c H' locs' (20 + k + 1) (817 + 6 * k + 6) (lw_Z below #[Value.ref b] s) (F0 m 1225 ls' []) := by
        intro σ' τ' υ' due H' locs' ls' hZ hPx hPy hPu hS hl
        have hZ0 := hZ
        obtain ⟨μ', td', np', nr', htd', hR', hY'⟩ := hZ
        refine lv_iload hx hb dL_law_1225 (lv_at hl 0 rfl) ?_
        refine lv_iload hx hb dL_law_1227 (lv_at hl 1 rfl) ?_
        refine lv_icmp_ne (tgt := 1255) hx hb dL_law_1229 (by decide) (fun h => absurd rfl h) (fun _ => ?_)
        refine lv_aload_n hx hb dL_law_1232 rfl (lv_at hl 13 rfl) ?_
        refine lv_aload_n hx hb dL_law_1233 rfl (lv_at hl 12 rfl) ?_
        refine lv_aload_n hx hb dL_law_1234 rfl (lv_at hl 11 rfl) ?_
        refine lv_aload hx hb dL_law_1235 (lv_at hl 10 rfl) ?_
        refine lv_aload hx hb dL_law_1237 (lv_at hl 9 rfl) ?_
        refine lv_aload hx hb dL_law_1239 (lv_at hl 8 rfl) ?_
        refine lv_aload hx hb dL_law_1241 (lv_at hl 7 rfl) ?_
        refine lv_aload hx hb dL_law_1243 (lv_at hl 6 rfl) ?_
        refine lv_aload hx hb dL_law_1245 (lv_at hl 3 rfl) ?_
        refine lv_aload hx hb dL_law_1247 (lv_at hl 4 rfl) ?_
        refine k_L_isSo D tI tZ tL xo ax σ' ay τ' uo υ' μ' td' np' nr' (k + 1) hR' hY' ⟨hx, hb, hml, hown, hts⟩ gL_law_L_isSo ⟨Nat.le_of_ble_eq_true rfl, Nat.le_of_ble_eq_true rfl⟩ hl.1 hcap (Nat.le_of_ble_eq_true rfl) hK hPx hPy hPu dL_law_1249 ?_
        refine lv_ifne_b (tgt := 1257) hx hb dL_law_1252 (by decide) (fun _ => ?_) (fun h => by cases h)
        have hl : lv_has ls' 23 [(12, .int (nI k)), (11, .ref uo), (10, .ref (ay 8)), (9, .ref (ay 7)), (8, .ref (ay 6)), (7, .ref (ay 5)), (6, .ref (ay 4)), (5, .ref (ay 3)), (4, .ref (ay 2)), (3, .ref (ay 1)), (2, .ref (ay 0)), (1, .ref xo), (0, .ref b)] := lv_sub hl [2, 3, 4, 5, 6, 7, 8, 9, 10, 11, 12, 13, 14] rfl
        refine lv_iinc (v := nI k + 1) (lv' := [(12, .int (nI k + 1)), (11, .ref uo), (10, .ref (ay 8)), (9, .ref (ay 7)), (8, .ref (ay 6)), (7, .ref (ay 5)), (6, .ref (ay 4)), (5, .ref (ay 3)), (4, .ref (ay 2)), (3, .ref (ay 1)), (2, .ref (ay 0)), (1, .ref xo), (0, .ref b)]) hx hb dL_law_1257 hl (k := 0) rfl rfl (by decide) rfl (fun ls hl => ?_)
        rw [nI_1] at hl
        refine lv_goto (tgt := 68) hx hb dL_law_1260 (by decide) ?_
        exact ih (k + 1) σ' τ' υ' H' locs' ls (by omega) hZ0 hPx hPy hPu hS hl
    obtain ⟨μ, td, np, nr, htd, hR, hY⟩ := hZ
    have hT : k < 110 := by omega
    have hn30 := R_nr hR
    have hn8 := R_np hR
    refine lv_iload hx hb dL_law_68 (lv_at hl 0 rfl) ?_
    refine lv_bipush (v := 110) hx hb dL_law_70 (by decide) ?_
    refine lv_icmp_ge (tgt := 1263) hx hb dL_law_72 (by decide) (fun h => absurd h (nI_ge (b := 110) (by omega) (by decide))) (fun _ => ?_)
    refine lv_aload_n hx hb dL_law_75 rfl (lv_at hl 12 rfl) ?_
    refine lv_iload hx hb dL_law_76 (lv_at hl 0 rfl) ?_
    refine k_L_cell (k := k) (by omega) ⟨hx, hb, hml, hown, hts⟩ gL_law_L_cell hl.1 hc0 (Nat.le_of_ble_eq_true rfl) hX hbl hL hS dL_law_78 ?_
    generalize y_cell xs L k = v
    refine lv_istore (lv' := [(13, .int v), (12, .int (nI k)), (11, .ref uo), (10, .ref (ay 8)), (9, .ref (ay 7)), (8, .ref (ay 6)), (7, .ref (ay 5)), (6, .ref (ay 4)), (5, .ref (ay 3)), (4, .ref (ay 2)), (3, .ref (ay 1)), (2, .ref (ay 0)), (1, .ref xo), (0, .ref b)]) hx hb dL_law_81 hl (by decide) rfl (fun ls hl => ?_)
    refine lv_iload hx hb dL_law_83 (lv_at hl 0 rfl) ?_
    refine lv_bipush (v := 22) hx hb dL_law_85 (by decide) ?_
    refine k_L_low v 22 (by omega) (by omega) ⟨hx, hb, hml, hown, hts⟩ gL_law_L_low ⟨Nat.le_of_ble_eq_true rfl, Nat.le_of_ble_eq_true rfl⟩ hl.1 hc0 (Nat.le_of_ble_eq_true rfl) dL_law_87 ?_
    obtain ⟨act, hact, eact⟩ := y_low_lt v (n := 22) (by omega) (by omega)
    refine lv_topc (y := nI act) (eact) ?_
    refine lv_istore (lv' := [(14, .int (nI act)), (13, .int v), (12, .int (nI k)), (11, .ref uo), (10, .ref (ay 8)), (9, .ref (ay 7)), (8, .ref (ay 6)), (7, .ref (ay 5)), (6, .ref (ay 4)), (5, .ref (ay 3)), (4, .ref (ay 2)), (3, .ref (ay 1)), (2, .ref (ay 0)), (1, .ref xo), (0, .ref b)]) hx hb dL_law_90 hl (by decide) rfl (fun ls hl => ?_)
    refine lv_iload hx hb dL_law_92 (lv_at hl 1 rfl) ?_
    refine lv_iconst (v := 5) hx hb dL_law_94 (by decide) ?_
    refine lv_ishr hx hb dL_law_95 ?_
    refine lv_aload_n hx hb dL_law_96 rfl (lv_at hl 12 rfl) ?_
    refine lv_iconst (v := 2) hx hb dL_law_97 (by decide) ?_
    refine lv_topc (y := nI 2) rfl ?_
    refine yr_q (j := 2) hx hb hK hPy (by omega) dL_law_98 ?_
    refine lv_iconst (v := 1) hx hb dL_law_99 (by decide) ?_
    refine lv_iadd hx hb dL_law_100 ?_
    refine lv_topc (y := nI (nr + 1)) (by rw [Y_q2 hY, nI_1]) ?_
    refine k_L_low (v >>> (5 &&& 31)) (nr + 1) (by omega) (by omega) ⟨hx, hb, hml, hown, hts⟩ gL_law_L_low ⟨Nat.le_of_ble_eq_true rfl, Nat.le_of_ble_eq_true rfl⟩ hl.1 hc0 (Nat.le_of_ble_eq_true rfl) dL_law_101 ?_
    obtain ⟨rec, hrec, erec⟩ := y_low_lt (v >>> (5 &&& 31)) (n := nr + 1) (by omega) (by omega)
    refine lv_topc (y := nI rec) (erec) ?_
    refine lv_istore (lv' := [(15, .int (nI rec)), (14, .int (nI act)), (13, .int v), (12, .int (nI k)), (11, .ref uo), (10, .ref (ay 8)), (9, .ref (ay 7)), (8, .ref (ay 6)), (7, .ref (ay 5)), (6, .ref (ay 4)), (5, .ref (ay 3)), (4, .ref (ay 2)), (3, .ref (ay 1)), (2, .ref (ay 0)), (1, .ref xo), (0, .ref b)]) hx hb dL_law_104 hl (by decide) rfl (fun ls hl => ?_)
    refine lv_iload hx hb dL_law_106 (lv_at hl 2 rfl) ?_
    refine lv_iconst (v := 5) hx hb dL_law_108 (by decide) ?_
    refine lv_ishr hx hb dL_law_109 ?_
    refine lv_bipush (v := 6) hx hb dL_law_110 (by decide) ?_
    refine k_L_low (v >>> (5 &&& 31)) 6 (by omega) (by omega) ⟨hx, hb, hml, hown, hts⟩ gL_law_L_low ⟨Nat.le_of_ble_eq_true rfl, Nat.le_of_ble_eq_true rfl⟩ hl.1 hc0 (Nat.le_of_ble_eq_true rfl) dL_law_112 ?_
    obtain ⟨sub, hsub, esub⟩ := y_low_lt (v >>> (5 &&& 31)) (n := 6) (by omega) (by omega)
    refine lv_topc (y := nI sub) (esub) ?_
    refine lv_istore (lv' := [(16, .int (nI sub)), (15, .int (nI rec)), (14, .int (nI act)), (13, .int v), (12, .int (nI k)), (11, .ref uo), (10, .ref (ay 8)), (9, .ref (ay 7)), (8, .ref (ay 6)), (7, .ref (ay 5)), (6, .ref (ay 4)), (5, .ref (ay 3)), (4, .ref (ay 2)), (3, .ref (ay 1)), (2, .ref (ay 0)), (1, .ref xo), (0, .ref b)]) hx hb dL_law_115 hl (by decide) rfl (fun ls hl => ?_)
    refine lv_aload_n hx hb dL_law_117 rfl (lv_at hl 14 rfl) ?_
    refine lv_iconst (v := 1) hx hb dL_law_118 (by decide) ?_
    refine lv_topc (y := nI 1) rfl ?_
    refine yr_q (j := 1) hx hb hK hPy (by omega) dL_law_119 ?_
    refine lv_if_ne (tgt := 127) hx hb dL_law_120 (by decide) (fun c120 => ?_) (fun c120 => ?_)
    · have hnp0 : 0 < np := Nat.pos_of_ne_zero (fun e => c120 (by rw [Y_q1 hY, e]; rfl))
      have hpw : 2 ^ np < 2 ^ 31 := Nat.pow_lt_pow_right (by decide) (by omega)
      refine lv_iload hx hb dL_law_127 (lv_at hl 3 rfl) ?_
      refine lv_bipush (v := 9) hx hb dL_law_129 (by decide) ?_
      refine lv_ishr hx hb dL_law_131 ?_
      refine lv_aload_n hx hb dL_law_132 rfl (lv_at hl 14 rfl) ?_
      refine lv_iconst (v := 1) hx hb dL_law_133 (by decide) ?_
      refine lv_topc (y := nI 1) rfl ?_
      refine yr_q (j := 1) hx hb hK hPy (by omega) dL_law_134 ?_
      refine lv_topc (y := nI np) (Y_q1 hY) ?_
      refine k_L_low (v >>> (9 &&& 31)) np (by omega) (by omega) ⟨hx, hb, hml, hown, hts⟩ gL_law_L_low ⟨Nat.le_of_ble_eq_true rfl, Nat.le_of_ble_eq_true rfl⟩ hl.1 hc0 (Nat.le_of_ble_eq_true rfl) dL_law_135 ?_
      obtain ⟨pu, hpu, epu⟩ := y_low_lt (v >>> (9 &&& 31)) (n := np) (by omega) (by omega)
      refine lv_topc (y := nI pu) (epu) ?_
      refine lv_istore (lv' := [(17, .int (nI pu)), (16, .int (nI sub)), (15, .int (nI rec)), (14, .int (nI act)), (13, .int v), (12, .int (nI k)), (11, .ref uo), (10, .ref (ay 8)), (9, .ref (ay 7)), (8, .ref (ay 6)), (7, .ref (ay 5)), (6, .ref (ay 4)), (5, .ref (ay 3)), (4, .ref (ay 2)), (3, .ref (ay 1)), (2, .ref (ay 0)), (1, .ref xo), (0, .ref b)]) hx hb dL_law_138 hl (by decide) rfl (fun ls hl => ?_)
      refine lv_aload_n hx hb dL_law_140 rfl (lv_at hl 15 rfl) ?_
      refine lv_iconst (v := 1) hx hb dL_law_141 (by decide) ?_
      refine lv_topc (y := nI 1) rfl ?_
      refine yr_q (j := 1) hx hb hK hPy (by omega) dL_law_142 ?_
      refine lv_if_ne (tgt := 150) hx hb dL_law_143 (by decide) (fun c143 => ?_) (fun c143 => absurd c143 c120)
      refine lv_iload hx hb dL_law_150 (lv_at hl 4 rfl) ?_
      refine lv_bipush (v := 12) hx hb dL_law_152 (by decide) ?_
      refine lv_ishr hx hb dL_law_154 ?_
      refine lv_iconst (v := 1) hx hb dL_law_155 (by decide) ?_
      refine lv_aload_n hx hb dL_law_156 rfl (lv_at hl 15 rfl) ?_
      refine lv_iconst (v := 1) hx hb dL_law_157 (by decide) ?_
      refine lv_topc (y := nI 1) rfl ?_
      refine yr_q (j := 1) hx hb hK hPy (by omega) dL_law_158 ?_
      refine lv_topc (y := nI np) (Y_q1 hY) ?_
      refine lv_ishl hx hb dL_law_159 ?_
      refine lv_topc (y := nI (2 ^ np)) (bI_nat np (by omega)) ?_
      refine k_L_low (v >>> (12 &&& 31)) (2 ^ np) (Nat.two_pow_pos np) (hpw) ⟨hx, hb, hml, hown, hts⟩ gL_law_L_low ⟨Nat.le_of_ble_eq_true rfl, Nat.le_of_ble_eq_true rfl⟩ hl.1 hc0 (Nat.le_of_ble_eq_true rfl) dL_law_160 ?_
      obtain ⟨st, hst, est⟩ := y_low_lt (v >>> (12 &&& 31)) (n := 2 ^ np) (Nat.two_pow_pos np) hpw
      refine lv_topc (y := nI st) (est) ?_
      refine lv_istore (lv' := [(18, .int (nI st)), (17, .int (nI pu)), (16, .int (nI sub)), (15, .int (nI rec)), (14, .int (nI act)), (13, .int v), (12, .int (nI k)), (11, .ref uo), (10, .ref (ay 8)), (9, .ref (ay 7)), (8, .ref (ay 6)), (7, .ref (ay 5)), (6, .ref (ay 4)), (5, .ref (ay 3)), (4, .ref (ay 2)), (3, .ref (ay 1)), (2, .ref (ay 0)), (1, .ref xo), (0, .ref b)]) hx hb dL_law_163 hl (by decide) rfl (fun ls hl => ?_)
      refine lv_iconst (v := 0) hx hb dL_law_165 (by decide) ?_
      refine lv_istore (lv' := [(19, .int 0), (18, .int (nI st)), (17, .int (nI pu)), (16, .int (nI sub)), (15, .int (nI rec)), (14, .int (nI act)), (13, .int v), (12, .int (nI k)), (11, .ref uo), (10, .ref (ay 8)), (9, .ref (ay 7)), (8, .ref (ay 6)), (7, .ref (ay 5)), (6, .ref (ay 4)), (5, .ref (ay 3)), (4, .ref (ay 2)), (3, .ref (ay 1)), (2, .ref (ay 0)), (1, .ref xo), (0, .ref b)]) hx hb dL_law_166 hl (by decide) rfl (fun ls hl => ?_)
      refine lv_iconst (v := 0) hx hb dL_law_168 (by decide) ?_
      refine lv_istore (lv' := [(20, .int 0), (19, .int 0), (18, .int (nI st)), (17, .int (nI pu)), (16, .int (nI sub)), (15, .int (nI rec)), (14, .int (nI act)), (13, .int v), (12, .int (nI k)), (11, .ref uo), (10, .ref (ay 8)), (9, .ref (ay 7)), (8, .ref (ay 6)), (7, .ref (ay 5)), (6, .ref (ay 4)), (5, .ref (ay 3)), (4, .ref (ay 2)), (3, .ref (ay 1)), (2, .ref (ay 0)), (1, .ref xo), (0, .ref b)]) hx hb dL_law_169 hl (by decide) rfl (fun ls hl => ?_)
      refine lv_aload_n hx hb dL_law_171 rfl (lv_at hl 18 rfl) ?_
      refine lv_iconst (v := 1) hx hb dL_law_172 (by decide) ?_
      refine lv_topc (y := nI 1) rfl ?_
      refine yr_q (j := 1) hx hb hK hPy (by omega) dL_law_173 ?_
      refine lv_iconst (v := 2) hx hb dL_law_174 (by decide) ?_
      refine lv_icmp_lt (tgt := 183) hx hb dL_law_175 (by decide) (fun c175 => ?_) (fun c175 => ?_)
      · exact lc_ap E0 A hR hY hT htd hcap v (nI pu) (nI st) act rec sub hPx hPy hPu hS (lv_sub hl [0, 1, 2, 3, 4, 5, 6, 7, 8, 9, 10, 11, 12, 13, 14, 15, 16, 17, 18, 19, 20] rfl) kk
      · refine lv_iload hx hb dL_law_178 (lv_at hl 6 rfl) ?_
        refine lv_if_ne (tgt := 315) hx hb dL_law_180 (by decide) (fun c180 => ?_) (fun c180 => ?_)
        · refine lv_iload hx hb dL_law_315 (lv_at hl 6 rfl) ?_
          refine lv_iconst (v := 5) hx hb dL_law_317 (by decide) ?_
          refine lv_icmp_ge (tgt := 446) hx hb dL_law_318 (by decide) (fun c318 => ?_) (fun c318 => ?_)
          · refine lv_iload hx hb dL_law_446 (lv_at hl 6 rfl) ?_
            refine lv_bipush (v := 8) hx hb dL_law_448 (by decide) ?_
            refine lv_icmp_ge (tgt := 530) hx hb dL_law_450 (by decide) (fun c450 => ?_) (fun c450 => ?_)
            · refine lv_iload hx hb dL_law_530 (lv_at hl 6 rfl) ?_
              refine lv_bipush (v := 11) hx hb dL_law_532 (by decide) ?_
              refine lv_icmp_ge (tgt := 651) hx hb dL_law_534 (by decide) (fun c534 => ?_) (fun c534 => ?_)
              · refine lv_iload hx hb dL_law_651 (lv_at hl 6 rfl) ?_
                refine lv_bipush (v := 11) hx hb dL_law_653 (by decide) ?_
                refine lv_icmp_ne (tgt := 705) hx hb dL_law_655 (by decide) (fun c655 => ?_) (fun c655 => ?_)
                · refine lv_iload hx hb dL_law_705 (lv_at hl 6 rfl) ?_
                  refine lv_bipush (v := 14) hx hb dL_law_707 (by decide) ?_
                  refine lv_icmp_ge (tgt := 825) hx hb dL_law_709 (by decide) (fun c709 => ?_) (fun c709 => ?_)
                  · refine lv_iload hx hb dL_law_825 (lv_at hl 6 rfl) ?_
                    refine lv_bipush (v := 14) hx hb dL_law_827 (by decide) ?_
                    refine lv_icmp_ne (tgt := 954) hx hb dL_law_829 (by decide) (fun c829 => ?_) (fun c829 => ?_)
                    · refine lv_iload hx hb dL_law_954 (lv_at hl 6 rfl) ?_
                      refine lv_bipush (v := 15) hx hb dL_law_956 (by decide) ?_
                      refine lv_icmp_ne (tgt := 1001) hx hb dL_law_958 (by decide) (fun c958 => ?_) (fun c958 => ?_)
                      · refine lv_iload hx hb dL_law_1001 (lv_at hl 6 rfl) ?_
                        refine lv_bipush (v := 16) hx hb dL_law_1003 (by decide) ?_
                        refine lv_icmp_ne (tgt := 1068) hx hb dL_law_1005 (by decide) (fun c1005 => ?_) (fun c1005 => ?_)
                        · refine lv_iload hx hb dL_law_1068 (lv_at hl 6 rfl) ?_
                          refine lv_bipush (v := 19) hx hb dL_law_1070 (by decide) ?_
                          refine lv_icmp_ge (tgt := 1119) hx hb dL_law_1072 (by decide) (fun c1072 => ?_) (fun c1072 => ?_)
                          · refine lv_iload hx hb dL_law_1119 (lv_at hl 6 rfl) ?_
                            refine lv_bipush (v := 19) hx hb dL_law_1121 (by decide) ?_
                            refine lv_icmp_ne (tgt := 1163) hx hb dL_law_1123 (by decide) (fun c1123 => ?_) (fun c1123 => ?_)
                            · refine lv_iload hx hb dL_law_1163 (lv_at hl 6 rfl) ?_
                              refine lv_bipush (v := 20) hx hb dL_law_1165 (by decide) ?_
                              refine lv_icmp_ne (tgt := 1190) hx hb dL_law_1167 (by decide) (fun c1167 => ?_) (fun c1167 => ?_)
                              · exact lc_ea E0 A hR hY hT htd hcap v act rec sub pu st hPx hPy hPu hS (lv_sub hl [0, 1, 2, 3, 4, 5, 6, 7, 8, 9, 10, 11, 12, 13, 14, 15, 16, 17, 18, 19, 20] rfl) kk
                              · exact lc_erase E0 A hR hY hT htd hcap v act rec sub pu st (by omega) hsub hpu hst hPx hPy hPu hS (lv_sub hl [0, 1, 2, 3, 4, 5, 6, 7, 8, 9, 10, 11, 12, 13, 14, 15, 16, 17, 18, 19, 20] rfl) kk
                            · exact lc_ret E0 A hR hY hT htd hcap v act rec sub pu st (by omega) hsub hpu hst hPx hPy hPu hS (lv_sub hl [0, 1, 2, 3, 4, 5, 6, 7, 8, 9, 10, 11, 12, 13, 14, 15, 16, 17, 18, 19, 20] rfl) kk
                          · exact lc_days E0 A hR hY hT htd hcap v act rec sub pu st (by omega) hsub hpu hst hPx hPy hPu hS (lv_sub hl [0, 1, 2, 3, 4, 5, 6, 7, 8, 9, 10, 11, 12, 13, 14, 15, 16, 17, 18, 19, 20] rfl) kk
                        · exact lc_req E0 A hR hY hT htd hcap v act rec sub pu st (by omega) hsub hpu hst hPx hPy hPu hS (lv_sub hl [0, 1, 2, 3, 4, 5, 6, 7, 8, 9, 10, 11, 12, 13, 14, 15, 16, 17, 18, 19, 20] rfl) kk
                      · exact lc_close E0 A hR hY hT htd hcap v act rec sub pu st (by omega) hsub hpu hst hPx hPy hPu hS (lv_sub hl [0, 1, 2, 3, 4, 5, 6, 7, 8, 9, 10, 11, 12, 13, 14, 15, 16, 17, 18, 19, 20] rfl) kk
                    · exact lc_hold E0 A hR hY hT htd hcap v act rec sub pu st (by omega) hsub hpu hst hPx hPy hPu hS (lv_sub hl [0, 1, 2, 3, 4, 5, 6, 7, 8, 9, 10, 11, 12, 13, 14, 15, 16, 17, 18, 19, 20] rfl) kk
                  · exact lc_use E0 A hR hY hT htd hcap v act rec sub pu st (by omega) hsub hpu hst hPx hPy hPu hS (lv_sub hl [0, 1, 2, 3, 4, 5, 6, 7, 8, 9, 10, 11, 12, 13, 14, 15, 16, 17, 18, 19, 20] rfl) kk
                · exact lc_src E0 A hR hY hT htd hcap v act rec sub pu st (by omega) hsub hpu hst hPx hPy hPu hS (lv_sub hl [0, 1, 2, 3, 4, 5, 6, 7, 8, 9, 10, 11, 12, 13, 14, 15, 16, 17, 18, 19, 20] rfl) kk
              · exact lc_der E0 A hR hY hT htd hcap v act rec sub pu st (by omega) hsub hpu hst hPx hPy hPu hS (lv_sub hl [0, 1, 2, 3, 4, 5, 6, 7, 8, 9, 10, 11, 12, 13, 14, 15, 16, 17, 18, 19, 20] rfl) kk
            · exact lc_add E0 A hR hY hT htd hcap v act rec sub pu st (by omega) hsub hpu hst hPx hPy hPu hS (lv_sub hl [0, 1, 2, 3, 4, 5, 6, 7, 8, 9, 10, 11, 12, 13, 14, 15, 16, 17, 18, 19, 20] rfl) kk
          · exact lc_cons E0 A hR hY hT htd hcap v act rec sub pu (nI st) hsub hpu hPx hPy hPu hS (lv_sub hl [0, 1, 2, 3, 4, 5, 6, 7, 8, 9, 10, 11, 12, 13, 14, 15, 16, 17, 18, 19, 20] rfl) kk
        · exact lc_ap E0 A hR hY hT htd hcap v (nI pu) (nI st) act rec sub hPx hPy hPu hS (lv_sub hl [0, 1, 2, 3, 4, 5, 6, 7, 8, 9, 10, 11, 12, 13, 14, 15, 16, 17, 18, 19, 20] rfl) kk
    · refine lv_iconst (v := 0) hx hb dL_law_123 (by decide) ?_
      refine lv_goto (tgt := 138) hx hb dL_law_124 (by decide) ?_
      refine lv_istore (lv' := [(17, .int 0), (16, .int (nI sub)), (15, .int (nI rec)), (14, .int (nI act)), (13, .int v), (12, .int (nI k)), (11, .ref uo), (10, .ref (ay 8)), (9, .ref (ay 7)), (8, .ref (ay 6)), (7, .ref (ay 5)), (6, .ref (ay 4)), (5, .ref (ay 3)), (4, .ref (ay 2)), (3, .ref (ay 1)), (2, .ref (ay 0)), (1, .ref xo), (0, .ref b)]) hx hb dL_law_138 hl (by decide) rfl (fun ls hl => ?_)
      refine lv_aload_n hx hb dL_law_140 rfl (lv_at hl 15 rfl) ?_
      refine lv_iconst (v := 1) hx hb dL_law_141 (by decide) ?_
      refine lv_topc (y := nI 1) rfl ?_
      refine yr_q (j := 1) hx hb hK hPy (by omega) dL_law_142 ?_
      refine lv_if_ne (tgt := 150) hx hb dL_law_143 (by decide) (fun c143 => absurd c120 c143) (fun c143 => ?_)
      refine lv_iconst (v := 1) hx hb dL_law_146 (by decide) ?_
      refine lv_goto (tgt := 163) hx hb dL_law_147 (by decide) ?_
      refine lv_istore (lv' := [(18, .int 1), (17, .int 0), (16, .int (nI sub)), (15, .int (nI rec)), (14, .int (nI act)), (13, .int v), (12, .int (nI k)), (11, .ref uo), (10, .ref (ay 8)), (9, .ref (ay 7)), (8, .ref (ay 6)), (7, .ref (ay 5)), (6, .ref (ay 4)), (5, .ref (ay 3)), (4, .ref (ay 2)), (3, .ref (ay 1)), (2, .ref (ay 0)), (1, .ref xo), (0, .ref b)]) hx hb dL_law_163 hl (by decide) rfl (fun ls hl => ?_)
      refine lv_iconst (v := 0) hx hb dL_law_165 (by decide) ?_
      refine lv_istore (lv' := [(19, .int 0), (18, .int 1), (17, .int 0), (16, .int (nI sub)), (15, .int (nI rec)), (14, .int (nI act)), (13, .int v), (12, .int (nI k)), (11, .ref uo), (10, .ref (ay 8)), (9, .ref (ay 7)), (8, .ref (ay 6)), (7, .ref (ay 5)), (6, .ref (ay 4)), (5, .ref (ay 3)), (4, .ref (ay 2)), (3, .ref (ay 1)), (2, .ref (ay 0)), (1, .ref xo), (0, .ref b)]) hx hb dL_law_166 hl (by decide) rfl (fun ls hl => ?_)
      refine lv_iconst (v := 0) hx hb dL_law_168 (by decide) ?_
      refine lv_istore (lv' := [(20, .int 0), (19, .int 0), (18, .int 1), (17, .int 0), (16, .int (nI sub)), (15, .int (nI rec)), (14, .int (nI act)), (13, .int v), (12, .int (nI k)), (11, .ref uo), (10, .ref (ay 8)), (9, .ref (ay 7)), (8, .ref (ay 6)), (7, .ref (ay 5)), (6, .ref (ay 4)), (5, .ref (ay 3)), (4, .ref (ay 2)), (3, .ref (ay 1)), (2, .ref (ay 0)), (1, .ref xo), (0, .ref b)]) hx hb dL_law_169 hl (by decide) rfl (fun ls hl => ?_)
      refine lv_aload_n hx hb dL_law_171 rfl (lv_at hl 18 rfl) ?_
      refine lv_iconst (v := 1) hx hb dL_law_172 (by decide) ?_
      refine lv_topc (y := nI 1) rfl ?_
      refine yr_q (j := 1) hx hb hK hPy (by omega) dL_law_173 ?_
      refine lv_iconst (v := 2) hx hb dL_law_174 (by decide) ?_
      refine lv_icmp_lt (tgt := 183) hx hb dL_law_175 (by decide) (fun c175 => ?_) (fun c175 => absurd (show τ.2 0 1 < 2 by rw [c120]; decide) c175)
      exact lc_ap E0 A hR hY hT htd hcap v (0) (1) act rec sub hPx hPy hPu hS (lv_sub hl [0, 1, 2, 3, 4, 5, 6, 7, 8, 9, 10, 11, 12, 13, 14, 15, 16, 17, 18, 19, 20] rfl) kk
end LL
