section LC
variable {p : Program} {l : Launch} {e : Env} {s : State} {m : MethodId} {below : List Frame} {meth : Method} {c : Code} {H : Heap} {locs : List Loc} {cells slots : Nat} {Q : State → Prop} {ls : Array Slot} {D : va_G} {tI tZ tL : ClassId} {xo uo b L i : Nat} {xs : Nat → Int32} {ax ay : Nat → Nat} {σ μ τ : ST} {υ : Nat → Int64} {td np nr T : Nat}
set_option maxHeartbeats 4000000 in
set_option maxRecDepth 100000 in
theorem lc_ea (E : L_E p l s m meth c b L xs D tI tZ tL) (A : L_A s xo ax ay uo) (hR : RR σ μ td np nr) (hY : YY μ τ υ td np nr T) (hT : T < 110) (htd : td ≤ 4 * T) (hcap : cells + 1 ≤ room_1.cells ∧ slots + 6 ≤ room_1.slots) (v : Int32) (act rec sub pu st : Nat) (hPx : va_P D vwCl (x_W tI tZ xo ax σ) H) (hPy : va_P D vwCl (y_W tI tZ 0 ay τ) H) (hPu : va_P D vwCl (u_W tL uo υ) H) (hS : va_S (L_g s) s.heap H locs) (hl : lv_has ls 23 [(20, .int 0), (19, .int 0), (18, .int (nI st)), (17, .int (nI pu)), (16, .int (nI sub)), (15, .int (nI rec)), (14, .int (nI act)), (13, .int v), (12, .int (nI i)), (11, .ref uo), (10, .ref (ay 8)), (9, .ref (ay 7)), (8, .ref (ay 6)), (7, .ref (ay 5)), (6, .ref (ay 4)), (5, .ref (ay 3)), (4, .ref (ay 2)), (3, .ref (ay 1)), (2, .ref (ay 0)), (1, .ref xo), (0, .ref b)]) (kk : ∀ (σ' τ' : ST) (υ' : Nat → Int64) (due : Int32) (H' : Heap) (locs' : List Loc) (ls' : Array Slot), ZZ σ' τ' υ' (T + 1) → va_P D vwCl (x_W tI tZ xo ax σ') H' → va_P D vwCl (y_W tI tZ 0 ay τ') H' → va_P D vwCl (u_W tL uo υ') H' → va_S (L_g s) s.heap H' locs' → lv_has ls' 23 (L_w b xo ay uo i due) → W p l e room_1 s m #[Value.ref b] below meth c H' locs' (cells + 1) (slots + 6) Q (F0 m 1225 ls' [])) : W p l e room_1 s m #[Value.ref b] below meth c H locs cells slots Q (F0 m 1190 ls []) := by
  obtain ⟨hx, hb, hml, hown, hts, hX, hbl, hK, hE, hlf, hL⟩ := E
  have hn30 := R_nr hR
  have hn8 := R_np hR
  have hc0 : cells ≤ room_1.cells ∧ slots ≤ room_1.slots := ⟨by have := hcap.1; omega, by have := hcap.2; omega⟩
  have S : CallFix p m c cL_law 23 s #[Value.ref b] wsL_law RL := ⟨hx, hb, hml, hown, hts⟩
  obtain ⟨fuel, μ', hrun, hR', -⟩ := ea_all (td := td) (np := np) (nr := nr) nr σ μ 0 hR (Nat.le_refl _) (fun i h1 h2 => absurd h1 (by omega))
  refine lv_iload hx hb dL_law_1190 (lv_at hl 7 rfl) ?_
  refine lv_iconst (v := 5) hx hb dL_law_1192 (by decide) ?_
  refine lv_ishr hx hb dL_law_1193 ?_
  refine lv_iconst (v := 3) hx hb dL_law_1194 (by decide) ?_
  refine k_L_low (v >>> (5 &&& 31)) 3 (by omega) (by omega) S gL_law_L_low ⟨Nat.le_of_ble_eq_true rfl, Nat.le_of_ble_eq_true rfl⟩ hl.1 hc0 (Nat.le_of_ble_eq_true rfl) dL_law_1195 ?_
  refine lv_if_ne (tgt := 1225) hx hb dL_law_1198 (by decide) (fun _ => ?_) (fun _ => ?_)
  · exact W.widen (Nat.le_add_right _ _) (Nat.le_add_right _ _) (kk σ τ υ 0 _ _ _ (St_0 hR hY hT htd) hPx hPy hPu hS (lv_sub hl [0, 1, 8, 9, 10, 11, 12, 13, 14, 15, 16, 17, 18, 19, 20] rfl))
  · have loop : ∀ (n : Nat) (σ1 μ1 τ1 : ST) (cnt : Int32), m_eaR nr n μ1 cnt = some (μ', x_eaC nr nr σ 0) → RR σ1 μ1 td np nr → YY μ1 τ1 υ td np nr T → ∀ (H : Heap) (locs : List Loc), va_P D vwCl (x_W tI tZ xo ax σ) H → va_P D vwCl (y_W tI tZ 0 ay τ1) H → va_P D vwCl (u_W tL uo υ) H → va_S (L_g s) s.heap H locs → ∀ ls, lv_has ls 23 [(19, .int cnt), (20, .int 0), (12, .int (nI i)), (11, .ref uo), (10, .ref (ay 8)), (9, .ref (ay 7)), (8, .ref (ay 6)), (7, .ref (ay 5)), (6, .ref (ay 4)), (5, .ref (ay 3)), (4, .ref (ay 2)), (3, .ref (ay 1)), (2, .ref (ay 0)), (1, .ref xo), (0, .ref b)] → W p l e room_1 s m #[Value.ref b] below meth c H locs cells slots Q (F0 m 1201 ls []) := by
      intro n
      induction n with
      | zero => intro σ1 μ1 τ1 cnt h; cases h
      | succ n ih =>
        intro σ1 μ1 τ1 cnt hrun1 hR1 hY1 H locs hPx hPy hPu hS ls hl
        refine lv_aload_n hx hb dL_law_1201 rfl (lv_at hl 12 rfl) ?_
        refine lv_aload_n hx hb dL_law_1202 rfl (lv_at hl 11 rfl) ?_
        refine lv_aload hx hb dL_law_1203 (lv_at hl 9 rfl) ?_
        refine lv_aload hx hb dL_law_1205 (lv_at hl 6 rfl) ?_
        refine k_L_erases D tI tZ tL 0 ay τ1 nr (Y_q2 hY1) hn30 S gL_law_L_erases ⟨Nat.le_of_ble_eq_true rfl, Nat.le_of_ble_eq_true rfl⟩ hl.1 hc0 (Nat.le_of_ble_eq_true rfl) (A_y A) hK hPy hS (A_yg A) dL_law_1207 (fun H locs hPy hz hk hS => ?_)
        replace hPx := x_kept9 hPx (fun q h1 h2 => hk q h1 (A_xy A q h2))
        replace hPu := u_kept9 hPu (hk uo (u_lt9 hPu) (A_uy A))
        rw [m_eaR] at hrun1
        cases hf : m_fo μ1.2 nr nr with
        | none =>
          rw [hf] at hrun1
          have h9 := S_er_n hR1 hY1 hf
          have e1 : μ1 = μ' := congrArg Prod.fst (Option.some.inj hrun1)
          have e2 : cnt = x_eaC nr nr σ 0 := congrArg Prod.snd (Option.some.inj hrun1)
          rw [h9.2.1] at hPy
          refine lv_topc (y := -1) h9.1 ?_
          refine lv_if_lt (tgt := 1219) hx hb dL_law_1210 (by decide) (fun _ => ?_) (fun h => absurd (by decide) h)
          refine lv_aload_n hx hb dL_law_1219 rfl (lv_at hl 13 rfl) ?_
          refine k_X0_eraseAll D tI tZ tL xo ax σ nr (R_x6 hR) hn30 S gL_law_X0_eraseAll ⟨Nat.le_of_ble_eq_true rfl, Nat.le_of_ble_eq_true rfl⟩ hl.1 hc0 (Nat.le_of_ble_eq_true rfl) (A_x A) hK hPx hS (A_xg A) dL_law_1220 (fun H locs hPx hz hk hS => ?_)
          replace hPy := y_kept9 hPy (fun q h1 h2 => hk q h1 (A_yx A q h2))
          replace hPu := u_kept9 hPu (hk uo (u_lt9 hPu) (A_ux A))
          refine lv_istore (lv' := [(20, .int (x_eaC nr nr σ 0)), (19, .int cnt), (12, .int (nI i)), (11, .ref uo), (10, .ref (ay 8)), (9, .ref (ay 7)), (8, .ref (ay 6)), (7, .ref (ay 5)), (6, .ref (ay 4)), (5, .ref (ay 3)), (4, .ref (ay 2)), (3, .ref (ay 1)), (2, .ref (ay 0)), (1, .ref xo), (0, .ref b)]) hx hb dL_law_1223 hl (by decide) rfl (fun ls hl => ?_)
          rw [e2] at hl
          rw [e1] at hY1
          exact W.widen (Nat.le_add_right _ _) (Nat.le_add_right _ _) (kk (x_eaS nr nr σ) τ1 υ (x_eaC nr nr σ 0) _ _ _ ⟨μ', td, np, nr, by omega, hR', Y_mono hY1 (by omega) hT⟩ hPx hPy hPu hS hl)
        | some j =>
          rw [hf] at hrun1
          have h9 := S_er_s hR1 hY1 hf
          refine lv_topc (y := nI j) h9.1 ?_
          refine lv_if_lt (tgt := 1219) hx hb dL_law_1210 (by decide) (fun h => absurd h (nI_pos (by have := h9.2.2.2.2.1; omega))) (fun _ => ?_)
          refine lv_iinc (v := cnt + 1) (lv' := [(19, .int (cnt + 1)), (20, .int 0), (12, .int (nI i)), (11, .ref uo), (10, .ref (ay 8)), (9, .ref (ay 7)), (8, .ref (ay 6)), (7, .ref (ay 5)), (6, .ref (ay 4)), (5, .ref (ay 3)), (4, .ref (ay 2)), (3, .ref (ay 1)), (2, .ref (ay 0)), (1, .ref xo), (0, .ref b)]) hx hb dL_law_1213 hl (k := 0) rfl rfl (by decide) rfl (fun ls hl => ?_)
          refine lv_goto (tgt := 1201) hx hb dL_law_1216 (by decide) ?_
          exact ih _ _ _ _ hrun1 h9.2.2.2.2.2 h9.2.2.2.1 _ _ hPx hPy hPu hS _ hl
    exact loop fuel σ μ τ 0 hrun hR hY _ _ hPx hPy hPu hS _ (lv_sub hl [1, 0, 8, 9, 10, 11, 12, 13, 14, 15, 16, 17, 18, 19, 20] rfl)
end LC
