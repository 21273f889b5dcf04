set_option maxHeartbeats 4000000 in
set_option maxRecDepth 100000 in
theorem c_X1_fails (l : Launch) (D : va_G) (tI tZ tL : ClassId) (h0 : Nat) (ad : Nat → Nat) (σ : ST) (v : Int32) (hn : (m_L h0 ad).Nodup) : Met l yX1_fails wsX1_fails ({ frames := 0, cells := 0, slots := 0, locals := 0 } : Room) (va_Pc ([.ref h0, .int v] : List Value) (m_B D tI tZ tL h0 ad σ)) (u_Q (some (.int 0)) (m_P D tI tZ h0 ad (s_set σ 0 v)) (m_A h0 ad)) 0 0 (m_A h0 ad) := by
  refine u_met (cc := cX1_fails) (maxL := 2) (ret := (some .int)) (by decide) rfl (Nat.le_of_ble_eq_true rfl) ?_
  intro p e s m below meth c hx hb hml hr hts hown hlocks hB hS ls hl
  have hD : ∀ σ : ST, va_D (m_A h0 ad) (m_W tI tZ h0 ad σ) := fun σ => m_D σ hn (fun _ h => h)
  have hown : s.vm.findClass RX1 = some m.cls := hown
  obtain ⟨hP, hK⟩ := hB
  have hl : lv_has ls 2 [(0, .ref h0), (1, .int v)] := hl
  have hin : ∀ w ∈ wsX10, w ∈ wsX1_fails := in_X1_fails
  have hl_thrown : ml_thrown ∈ wsX1_fails := by decide +kernel
  have key : ∀ (H : Heap) (locs : List Loc), va_P D vwCl (m_W tI tZ h0 ad σ) H → va_S (m_A h0 ad) s.heap H locs → ∀ ls, lv_has ls 2 [(0, .ref h0), (1, .int v)] → u_G p l e ({ frames := 0, cells := 0, slots := 0, locals := 0 } : Room) s m ([.ref h0, .int v] : List Value).toArray below meth c H locs (some (.int 0)) (m_P D tI tZ h0 ad (s_set σ 0 v)) (m_A h0 ad) (F0 m 0 ls []) := by
    intro H locs hP hS ls hl
    refine lv_aload_n hx hb dX1_fails_0 rfl (lv_at hl 0 rfl) ?_
    refine lv_iload_n hx hb dX1_fails_1 rfl (lv_at hl 1 rfl) ?_
    refine mp_thrown hx hb hts hin hown hK hP (hD _) hS hl_thrown dX1_fails_2 (fun H locs hP hS => ?_)
    refine lv_iconst (v := 0) hx hb dX1_fails_5 (by decide) ?_
    exact u_iret hx hb hr hlocks hS (hP) (rfl) dX1_fails_6
  exact key _ _ hP hS ls hl
theorem k_X1_fails {p : Program} {l : Launch} {e : Env} {R : Room} {s : State} {m : MethodId} {args : Array Value} {below : List Frame} {meth : Method} {c : Code} {H : Heap} {locs : List Loc} {cells slots : Nat} {Q : State → Prop} {cc : ByteArray} {pc : Nat} {ls : Array Slot} {rest : List Value} {Ts : List Cond} (D : va_G) (tI tZ tL : ClassId) (h0 : Nat) (ad : Nat → Nat) (σ : ST) (v : Int32) {A0 : Nat → Prop} {H0 : Heap} {own : String} {idx nL : Nat} (S : CallFix p m c cc nL s args Ts own) (hG : GoodIn Ts (wsV own idx RX1 yX1_fails wsX1_fails)) (hR : ({ frames := 0, cells := 0, slots := 0, locals := 0 } : Room).frames + 1 ≤ R.frames ∧ 8 + (2 + 11) + ({ frames := 0, cells := 0, slots := 0, locals := 0 } : Room).locals ≤ R.locals) (hsz : ls.size = nL) (hcap : cells ≤ R.cells ∧ slots ≤ R.slots) (hrm : (rest.map fun v => v.category).sum ≤ 8) (hn : (m_L h0 ad).Nodup) (hK : va_K D vwCl (kTY tI tZ tL) s) (hP : va_P D vwCl (m_W tI tZ h0 ad σ) H) (hS : va_S A0 H0 H locs) (hA : ∀ q, m_A h0 ad q → A0 q) (hdg : decode cc pc = .ok (.invokevirtual idx, 3)) (kk : ∀ (H1 : Heap) (locs1 : List Loc), va_P D vwCl (m_W tI tZ h0 ad (s_set σ 0 v)) H1 → H.size ≤ H1.size → (∀ q : Nat, q < H.size → ¬ m_A h0 ad q → H1[q]? = H[q]?) → va_S A0 H0 H1 locs1 → W p l e R s m args below meth c H1 locs1 cells slots Q (F0 m (pc + 3) ls (.int 0 :: rest))) : W p l e R s m args below meth c H locs cells slots Q (F0 m pc ls (.int v :: .ref h0 :: rest)) :=
  u_call (va_runV (As := [.int v]) (rest := rest) S (c_X1_fails l D tI tZ tL h0 ad σ v hn) (cwV 1 S.2.2.2.2 hG rfl rfl rfl (by decide +kernel) hR) (m_pre hK hP) rfl rfl hsz rfl (lv_room hrm) hdg hcap) hS hA hA kk

set_option maxHeartbeats 4000000 in
set_option maxRecDepth 100000 in
theorem c_X1_lays (l : Launch) (D : va_G) (tI tZ tL : ClassId) (h0 : Nat) (ad : Nat → Nat) (σ : ST) (of so P : Int32) (nr : Nat) (hnr : σ.1 7 = nI nr) (hr30 : nr < 30) (hn : (m_L h0 ad).Nodup) : Met l yX1_lays wsX1_lays ({ frames := 0, cells := 0, slots := 0, locals := 0 } : Room) (va_Pc ([.ref h0, .int of, .int so, .int P] : List Value) (m_B D tI tZ tL h0 ad σ)) (u_Q (some (.int (nI nr))) (m_P D tI tZ h0 ad (m_lay σ nr of so P)) (m_A h0 ad)) 0 0 (m_A h0 ad) := by
  refine u_met (cc := cX1_lays) (maxL := 4) (ret := (some .int)) (by decide) rfl (Nat.le_of_ble_eq_true rfl) ?_
  intro p e s m below meth c hx hb hml hr hts hown hlocks hB hS ls hl
  have hD : ∀ σ : ST, va_D (m_A h0 ad) (m_W tI tZ h0 ad σ) := fun σ => m_D σ hn (fun _ h => h)
  have hown : s.vm.findClass RX1 = some m.cls := hown
  obtain ⟨hP, hK⟩ := hB
  have hl : lv_has ls 4 [(0, .ref h0), (1, .int of), (2, .int so), (3, .int P)] := hl
  have hin : ∀ w ∈ wsX10, w ∈ wsX1_lays := in_X1_lays
  have hl_added : ml_added ∈ wsX1_lays := by decide +kernel
  have hl_goals : ml_goals ∈ wsX1_lays := by decide +kernel
  have hl_many : ml_many ∈ wsX1_lays := by decide +kernel
  have hl_root : ml_root ∈ wsX1_lays := by decide +kernel
  have hl_sources : ml_sources ∈ wsX1_lays := by decide +kernel
  have hl_state : ml_state ∈ wsX1_lays := by decide +kernel
  have hl_today : ml_today ∈ wsX1_lays := by decide +kernel
  have key : ∀ (H : Heap) (locs : List Loc), va_P D vwCl (m_W tI tZ h0 ad σ) H → va_S (m_A h0 ad) s.heap H locs → ∀ ls, lv_has ls 4 [(0, .ref h0), (1, .int of), (2, .int so), (3, .int P)] → u_G p l e ({ frames := 0, cells := 0, slots := 0, locals := 0 } : Room) s m ([.ref h0, .int of, .int so, .int P] : List Value).toArray below meth c H locs (some (.int (nI nr))) (m_P D tI tZ h0 ad (m_lay σ nr of so P)) (m_A h0 ad) (F0 m 0 ls []) := by
    intro H locs hP hS ls hl
    refine lv_aload_n hx hb dX1_lays_0 rfl (lv_at hl 0 rfl) ?_
    refine mg_root hx hb hts hin hown hK hP hl_root dX1_lays_1 ?_
    refine lv_aload_n hx hb dX1_lays_4 rfl (lv_at hl 0 rfl) ?_
    refine mg_many hx hb hts hin hown hK hP hl_many dX1_lays_5 ?_
    refine lv_topc (y := nI nr) (hnr) ?_
    refine lv_iload_n hx hb dX1_lays_8 rfl (lv_at hl 1 rfl) ?_
    refine mw_root (j := nr) hx hb hK hP (hD _) hS (by omega) dX1_lays_9 (fun H locs hP hS => ?_)
    refine lv_aload_n hx hb dX1_lays_10 rfl (lv_at hl 0 rfl) ?_
    refine mg_sources hx hb hts hin hown hK hP hl_sources dX1_lays_11 ?_
    refine lv_aload_n hx hb dX1_lays_14 rfl (lv_at hl 0 rfl) ?_
    refine mg_many hx hb hts hin hown hK hP hl_many dX1_lays_15 ?_
    refine lv_topc (y := nI nr) (hnr) ?_
    refine lv_iload_n hx hb dX1_lays_18 rfl (lv_at hl 2 rfl) ?_
    refine mw_sources (j := nr) hx hb hK hP (hD _) hS (by omega) dX1_lays_19 (fun H locs hP hS => ?_)
    refine lv_aload_n hx hb dX1_lays_20 rfl (lv_at hl 0 rfl) ?_
    refine mg_goals hx hb hts hin hown hK hP hl_goals dX1_lays_21 ?_
    refine lv_aload_n hx hb dX1_lays_24 rfl (lv_at hl 0 rfl) ?_
    refine mg_many hx hb hts hin hown hK hP hl_many dX1_lays_25 ?_
    refine lv_topc (y := nI nr) (hnr) ?_
    refine lv_iload_n hx hb dX1_lays_28 rfl (lv_at hl 3 rfl) ?_
    refine mw_goals (j := nr) hx hb hK hP (hD _) hS (by omega) dX1_lays_29 (fun H locs hP hS => ?_)
    refine lv_aload_n hx hb dX1_lays_30 rfl (lv_at hl 0 rfl) ?_
    refine mg_added hx hb hts hin hown hK hP hl_added dX1_lays_31 ?_
    refine lv_aload_n hx hb dX1_lays_34 rfl (lv_at hl 0 rfl) ?_
    refine mg_many hx hb hts hin hown hK hP hl_many dX1_lays_35 ?_
    refine lv_topc (y := nI nr) (hnr) ?_
    refine lv_aload_n hx hb dX1_lays_38 rfl (lv_at hl 0 rfl) ?_
    refine mg_today hx hb hts hin hown hK hP hl_today dX1_lays_39 ?_
    refine mw_added (j := nr) hx hb hK hP (hD _) hS (by omega) dX1_lays_42 (fun H locs hP hS => ?_)
    refine lv_aload_n hx hb dX1_lays_43 rfl (lv_at hl 0 rfl) ?_
    refine mg_state hx hb hts hin hown hK hP hl_state dX1_lays_44 ?_
    refine lv_aload_n hx hb dX1_lays_47 rfl (lv_at hl 0 rfl) ?_
    refine mg_many hx hb hts hin hown hK hP hl_many dX1_lays_48 ?_
    refine lv_topc (y := nI nr) (hnr) ?_
    refine lv_iconst (v := 0) hx hb dX1_lays_51 (by decide) ?_
    refine mw_state (j := nr) hx hb hK hP (hD _) hS (by omega) dX1_lays_52 (fun H locs hP hS => ?_)
    refine lv_aload_n hx hb dX1_lays_53 rfl (lv_at hl 0 rfl) ?_
    refine lv_dup hx hb dX1_lays_54 rfl ?_
    refine mg_many hx hb hts hin hown hK hP hl_many dX1_lays_55 ?_
    refine lv_iconst (v := 1) hx hb dX1_lays_58 (by decide) ?_
    refine lv_iadd hx hb dX1_lays_59 ?_
    refine mp_many hx hb hts hin hown hK hP (hD _) hS hl_many dX1_lays_60 (fun H locs hP hS => ?_)
    refine lv_aload_n hx hb dX1_lays_63 rfl (lv_at hl 0 rfl) ?_
    refine mg_many hx hb hts hin hown hK hP hl_many dX1_lays_64 ?_
    refine lv_iconst (v := 1) hx hb dX1_lays_67 (by decide) ?_
    refine lv_isub hx hb dX1_lays_68 ?_
    exact u_iret hx hb hr hlocks hS (by unfold m_lay; rw [← nI_1, ← hnr]; exact hP) (by show σ.1 7 + 1 - 1 = nI nr; rw [hnr, nI_1, nI_pred]) dX1_lays_69
  exact key _ _ hP hS ls hl
theorem k_X1_lays {p : Program} {l : Launch} {e : Env} {R : Room} {s : State} {m : MethodId} {args : Array Value} {below : List Frame} {meth : Method} {c : Code} {H : Heap} {locs : List Loc} {cells slots : Nat} {Q : State → Prop} {cc : ByteArray} {pc : Nat} {ls : Array Slot} {rest : List Value} {Ts : List Cond} (D : va_G) (tI tZ tL : ClassId) (h0 : Nat) (ad : Nat → Nat) (σ : ST) (of so P : Int32) (nr : Nat) (hnr : σ.1 7 = nI nr) (hr30 : nr < 30) {A0 : Nat → Prop} {H0 : Heap} {own : String} {idx nL : Nat} (S : CallFix p m c cc nL s args Ts own) (hG : GoodIn Ts (wsV own idx RX1 yX1_lays wsX1_lays)) (hR : ({ frames := 0, cells := 0, slots := 0, locals := 0 } : Room).frames + 1 ≤ R.frames ∧ 8 + (4 + 11) + ({ frames := 0, cells := 0, slots := 0, locals := 0 } : Room).locals ≤ R.locals) (hsz : ls.size = nL) (hcap : cells ≤ R.cells ∧ slots ≤ R.slots) (hrm : (rest.map fun v => v.category).sum ≤ 8) (hn : (m_L h0 ad).Nodup) (hK : va_K D vwCl (kTY tI tZ tL) s) (hP : va_P D vwCl (m_W tI tZ h0 ad σ) H) (hS : va_S A0 H0 H locs) (hA : ∀ q, m_A h0 ad q → A0 q) (hdg : decode cc pc = .ok (.invokevirtual idx, 3)) (kk : ∀ (H1 : Heap) (locs1 : List Loc), va_P D vwCl (m_W tI tZ h0 ad (m_lay σ nr of so P)) H1 → H.size ≤ H1.size → (∀ q : Nat, q < H.size → ¬ m_A h0 ad q → H1[q]? = H[q]?) → va_S A0 H0 H1 locs1 → W p l e R s m args below meth c H1 locs1 cells slots Q (F0 m (pc + 3) ls (.int (nI nr) :: rest))) : W p l e R s m args below meth c H locs cells slots Q (F0 m pc ls (.int P :: .int so :: .int of :: .ref h0 :: rest)) :=
  u_call (va_runV (As := [.int of, .int so, .int P]) (rest := rest) S (c_X1_lays l D tI tZ tL h0 ad σ of so P nr hnr hr30 hn) (cwV 3 S.2.2.2.2 hG rfl rfl rfl (by decide +kernel) hR) (m_pre hK hP) rfl rfl hsz rfl (lv_room hrm) hdg hcap) hS hA hA kk

set_option maxHeartbeats 4000000 in
set_option maxRecDepth 100000 in
theorem c_X1_asks (l : Launch) (D : va_G) (tI tZ tL : ClassId) (h0 : Nat) (ad : Nat → Nat) (σ : ST) (r : Nat) (nr : Nat) (hnr : σ.1 7 = nI nr) (hn30 : nr ≤ 30) (hrn : r < nr) (hn : (m_L h0 ad).Nodup) : Met l yX1_asks wsX1_asks ({ frames := 2, cells := 0, slots := 0, locals := 44 } : Room) (va_Pc ([.ref h0, .int (nI r)] : List Value) (m_B D tI tZ tL h0 ad σ)) (u_Q (some (.int (m_asC σ.2 nr r))) (m_P D tI tZ h0 ad (m_asS σ nr r)) (m_A h0 ad)) 0 0 (m_A h0 ad) := by
  refine u_met (cc := cX1_asks) (maxL := 5) (ret := (some .int)) (by decide) rfl (Nat.le_of_ble_eq_true rfl) ?_
  intro p e s m below meth c hx hb hml hr hts hown hlocks hB hS ls hl
  have hD : ∀ σ : ST, va_D (m_A h0 ad) (m_W tI tZ h0 ad σ) := fun σ => m_D σ hn (fun _ h => h)
  have hown : s.vm.findClass RX1 = some m.cls := hown
  obtain ⟨hP, hK⟩ := hB
  have hl : lv_has ls 5 [(0, .ref h0), (1, .int (nI r))] := hl
  have hin : ∀ w ∈ wsX10, w ∈ wsX1_asks := in_X1_asks
  have hl_many : ml_many ∈ wsX1_asks := by decide +kernel
  have hl_state : ml_state ∈ wsX1_asks := by decide +kernel
  have hlo : ∀ i, i < r → bt (m_aw σ.2 nr r) i = false := fun i hi => m_aw_lo (by omega) (by omega) hi
  have key : ∀ (H : Heap) (locs : List Loc), va_P D vwCl (m_W tI tZ h0 ad σ) H → va_S (m_A h0 ad) s.heap H locs → ∀ ls, lv_has ls 5 [(0, .ref h0), (1, .int (nI r))] → u_G p l e ({ frames := 2, cells := 0, slots := 0, locals := 44 } : Room) s m ([.ref h0, .int (nI r)] : List Value).toArray below meth c H locs (some (.int (m_asC σ.2 nr r))) (m_P D tI tZ h0 ad (m_asS σ nr r)) (m_A h0 ad) (F0 m 0 ls []) := by
    intro H locs hP hS ls hl
    refine lv_aload_n hx hb dX1_asks_0 rfl (lv_at hl 0 rfl) ?_
    refine mg_state hx hb hts hin hown hK hP hl_state dX1_asks_1 ?_
    refine lv_iload_n hx hb dX1_asks_4 rfl (lv_at hl 1 rfl) ?_
    refine mr_state (j := r) hx hb hK hP (by omega) dX1_asks_5 ?_
    refine lv_if_ne (tgt := 21) hx hb dX1_asks_6 (by decide) (fun c6 => ?_) (fun c6 => ?_)
    · refine lv_iconst (v := 0) hx hb dX1_asks_21 (by decide) ?_
      refine lv_istore_n (lv' := [(2, .int 0), (0, .ref h0), (1, .int (nI r))]) hx hb dX1_asks_22 rfl hl (by decide) rfl (fun ls hl => ?_)
      refine lv_iconst (v := 0) hx hb dX1_asks_23 (by decide) ?_
      refine lv_istore_n (lv' := [(3, .int 0), (2, .int 0), (0, .ref h0), (1, .int (nI r))]) hx hb dX1_asks_24 rfl hl (by decide) rfl (fun ls hl => ?_)
      refine lv_iload_n hx hb dX1_asks_25 rfl (lv_at hl 3 rfl) ?_
      refine lv_istore (lv' := [(4, .int (nI r)), (3, .int 0), (2, .int 0), (0, .ref h0), (1, .int (nI r))]) hx hb dX1_asks_26 hl (by decide) rfl (fun ls hl => ?_)
      have loop28 : ∀ (n k : Nat), k ≤ nr → nr + 1 ≤ k + n → ∀ (H : Heap) (locs : List Loc), va_P D vwCl (m_W tI tZ h0 ad (m_stS σ (m_aw σ.2 nr r) k)) H → va_S (m_A h0 ad) s.heap H locs → ∀ ls, lv_has ls 5 [(0, .ref h0), (2, .int (m_aw σ.2 nr r)), (3, .int (m_cn (σ.2 12) (m_aw σ.2 nr r) k)), (4, .int (nI k))] → u_G p l e ({ frames := 2, cells := 0, slots := 0, locals := 44 } : Room) s m ([.ref h0, .int (nI r)] : List Value).toArray below meth c H locs (some (.int (m_asC σ.2 nr r))) (m_P D tI tZ h0 ad (m_asS σ nr r)) (m_A h0 ad) (F0 m 28 ls []) := by
        intro n
        induction n with
        | zero => intro k h1 h2; omega
        | succ n ihk =>
          intro k hk_k hn_k   H locs hP hS ls hl
          refine lv_iload hx hb dX1_asks_28 (lv_at hl 3 rfl) ?_
          refine lv_aload_n hx hb dX1_asks_30 rfl (lv_at hl 0 rfl) ?_
          refine mg_many hx hb hts hin hown hK hP hl_many dX1_asks_31 ?_
          refine lv_icmp_ge (tgt := 73) hx hb dX1_asks_34 (by decide) (fun c34 => ?_) (fun c34 => ?_)
          · have hkn : k = nr := Nat.le_antisymm hk_k (ge_t hnr (by omega) (by omega) c34)
            refine lv_iload_n hx hb dX1_asks_73 rfl (lv_at hl 2 rfl) ?_
            exact u_iret hx hb hr hlocks hS (by rw [hkn] at hP; exact hP) (by rw [hkn]; rfl) dX1_asks_74
          · have hkn : k < nr := ge_f hnr (by omega) c34
            refine lv_iload_n hx hb dX1_asks_37 rfl (lv_at hl 1 rfl) ?_
            refine lv_iload hx hb dX1_asks_38 (lv_at hl 3 rfl) ?_
            refine k_X1_has (m_aw σ.2 nr r) k (by omega) ⟨hx, hb, hml, hown, hts⟩ gX1_asks_X1_has ⟨Nat.le_of_ble_eq_true rfl, Nat.le_of_ble_eq_true rfl⟩ hl.1 ⟨Nat.zero_le _, Nat.zero_le _⟩ (Nat.le_of_ble_eq_true rfl) dX1_asks_40 ?_
            refine lv_ifeq_b (tgt := 67) hx hb dX1_asks_43 (by decide) (fun c43 => ?_) (fun c43 => ?_)
            · refine lv_iinc (v := (nI k) + 1) (lv' := [(4, .int ((nI k) + 1)), (0, .ref h0), (2, .int (m_aw σ.2 nr r)), (3, .int (m_cn (σ.2 12) (m_aw σ.2 nr r) k))]) hx hb dX1_asks_67 hl (k := 3) rfl rfl (by decide) rfl (fun ls hl => ?_)
              refine lv_goto (tgt := 28) hx hb dX1_asks_70 (by decide) ?_
              exact ihk (k + 1) (by omega) (by omega)   _ _ (by rw [← m_st_f (fun h => by rw [c43] at h; cases h.1)]; exact hP) hS _ (lv_to (L := [(0, .ref h0), (2, .int (m_aw σ.2 nr r)), (3, .int (m_cn (σ.2 12) (m_aw σ.2 nr r) k)), (4, .int ((nI k) + 1))]) (lv_sub hl [1, 2, 3, 0] rfl) (lv_cr (lv_cr (lv_ci (by rw [m_cn, if_neg (fun h => by rw [c43] at h; cases h.1)]) (lv_ci (nI_1 k) rfl)))))
            · refine lv_aload_n hx hb dX1_asks_46 rfl (lv_at hl 0 rfl) ?_
              refine mg_state hx hb hts hin hown hK hP hl_state dX1_asks_47 ?_
              refine lv_iload hx hb dX1_asks_50 (lv_at hl 3 rfl) ?_
              refine mr_state (j := k) hx hb hK hP (by omega) dX1_asks_52 ?_
              refine lv_topc (y := σ.2 12 k) (m_st_at) ?_
              refine lv_if_ne (tgt := 67) hx hb dX1_asks_53 (by decide) (fun c53 => ?_) (fun c53 => ?_)
              · refine lv_iinc (v := (nI k) + 1) (lv' := [(4, .int ((nI k) + 1)), (0, .ref h0), (2, .int (m_aw σ.2 nr r)), (3, .int (m_cn (σ.2 12) (m_aw σ.2 nr r) k))]) hx hb dX1_asks_67 hl (k := 3) rfl rfl (by decide) rfl (fun ls hl => ?_)
                refine lv_goto (tgt := 28) hx hb dX1_asks_70 (by decide) ?_
                exact ihk (k + 1) (by omega) (by omega)   _ _ (by rw [← m_st_f (fun h => c53 h.2)]; exact hP) hS _ (lv_to (L := [(0, .ref h0), (2, .int (m_aw σ.2 nr r)), (3, .int (m_cn (σ.2 12) (m_aw σ.2 nr r) k)), (4, .int ((nI k) + 1))]) (lv_sub hl [1, 2, 3, 0] rfl) (lv_cr (lv_cr (lv_ci (by rw [m_cn, if_neg (fun h => c53 h.2)]) (lv_ci (nI_1 k) rfl)))))
              · refine lv_aload_n hx hb dX1_asks_56 rfl (lv_at hl 0 rfl) ?_
                refine mg_state hx hb hts hin hown hK hP hl_state dX1_asks_57 ?_
                refine lv_iload hx hb dX1_asks_60 (lv_at hl 3 rfl) ?_
                refine lv_iconst (v := 1) hx hb dX1_asks_62 (by decide) ?_
                refine mw_state (j := k) hx hb hK hP (hD _) hS (by omega) dX1_asks_63 (fun H locs hP hS => ?_)
                refine lv_iinc (v := (m_cn (σ.2 12) (m_aw σ.2 nr r) k) + 1) (lv' := [(3, .int ((m_cn (σ.2 12) (m_aw σ.2 nr r) k) + 1)), (0, .ref h0), (2, .int (m_aw σ.2 nr r)), (4, .int (nI k))]) hx hb dX1_asks_64 hl (k := 2) rfl rfl (by decide) rfl (fun ls hl => ?_)
                refine lv_iinc (v := (nI k) + 1) (lv' := [(4, .int ((nI k) + 1)), (3, .int ((m_cn (σ.2 12) (m_aw σ.2 nr r) k) + 1)), (0, .ref h0), (2, .int (m_aw σ.2 nr r))]) hx hb dX1_asks_67 hl (k := 3) rfl rfl (by decide) rfl (fun ls hl => ?_)
                refine lv_goto (tgt := 28) hx hb dX1_asks_70 (by decide) ?_
                exact ihk (k + 1) (by omega) (by omega)   _ _ (by rw [← m_st_t c43 c53]; exact hP) hS _ (lv_to (L := [(0, .ref h0), (2, .int (m_aw σ.2 nr r)), (3, .int ((m_cn (σ.2 12) (m_aw σ.2 nr r) k) + 1)), (4, .int ((nI k) + 1))]) (lv_sub hl [2, 3, 1, 0] rfl) (lv_cr (lv_cr (lv_ci (by rw [m_cn, if_pos ⟨c43, c53⟩]) (lv_ci (nI_1 k) rfl)))))
      exact loop28 (nr + 1) r (by omega) (by omega)   _ _ (by rw [m_st_lo hlo]; exact hP) hS _ (lv_to (L := [(0, .ref h0), (2, .int 0), (3, .int 0), (4, .int (nI r))]) (lv_sub hl [3, 2, 1, 0] rfl) (lv_cr (lv_ci (by rw [m_aw, if_neg c6]) (lv_ci ((m_cn_lo r hlo).symm) (lv_cr rfl)))))
    · refine lv_aload_n hx hb dX1_asks_9 rfl (lv_at hl 0 rfl) ?_
      refine lv_iload_n hx hb dX1_asks_10 rfl (lv_at hl 1 rfl) ?_
      refine k_X1_belowOf D tI tZ tL h0 ad σ r nr hnr hn30 hrn ⟨hx, hb, hml, hown, hts⟩ gX1_asks_X1_belowOf ⟨Nat.le_of_ble_eq_true rfl, Nat.le_of_ble_eq_true rfl⟩ hl.1 ⟨Nat.zero_le _, Nat.zero_le _⟩ (Nat.le_of_ble_eq_true rfl) hK hP dX1_asks_11 ?_
      refine lv_iconst (v := 1) hx hb dX1_asks_14 (by decide) ?_
      refine lv_iload_n hx hb dX1_asks_15 rfl (lv_at hl 1 rfl) ?_
      refine lv_ishl hx hb dX1_asks_16 ?_
      refine lv_ior hx hb dX1_asks_17 ?_
      refine lv_goto (tgt := 22) hx hb dX1_asks_18 (by decide) ?_
      refine lv_istore_n (lv' := [(2, .int ((m_belk (σ.2 9) r nr) ||| (1 <<< ((nI r) &&& 31)))), (0, .ref h0), (1, .int (nI r))]) hx hb dX1_asks_22 rfl hl (by decide) rfl (fun ls hl => ?_)
      refine lv_iconst (v := 0) hx hb dX1_asks_23 (by decide) ?_
      refine lv_istore_n (lv' := [(3, .int 0), (2, .int ((m_belk (σ.2 9) r nr) ||| (1 <<< ((nI r) &&& 31)))), (0, .ref h0), (1, .int (nI r))]) hx hb dX1_asks_24 rfl hl (by decide) rfl (fun ls hl => ?_)
      refine lv_iload_n hx hb dX1_asks_25 rfl (lv_at hl 3 rfl) ?_
      refine lv_istore (lv' := [(4, .int (nI r)), (3, .int 0), (2, .int ((m_belk (σ.2 9) r nr) ||| (1 <<< ((nI r) &&& 31)))), (0, .ref h0), (1, .int (nI r))]) hx hb dX1_asks_26 hl (by decide) rfl (fun ls hl => ?_)
      have loop28 : ∀ (n k : Nat), k ≤ nr → nr + 1 ≤ k + n → ∀ (H : Heap) (locs : List Loc), va_P D vwCl (m_W tI tZ h0 ad (m_stS σ (m_aw σ.2 nr r) k)) H → va_S (m_A h0 ad) s.heap H locs → ∀ ls, lv_has ls 5 [(0, .ref h0), (2, .int (m_aw σ.2 nr r)), (3, .int (m_cn (σ.2 12) (m_aw σ.2 nr r) k)), (4, .int (nI k))] → u_G p l e ({ frames := 2, cells := 0, slots := 0, locals := 44 } : Room) s m ([.ref h0, .int (nI r)] : List Value).toArray below meth c H locs (some (.int (m_asC σ.2 nr r))) (m_P D tI tZ h0 ad (m_asS σ nr r)) (m_A h0 ad) (F0 m 28 ls []) := by
        intro n
        induction n with
        | zero => intro k h1 h2; omega
        | succ n ihk =>
          intro k hk_k hn_k   H locs hP hS ls hl
          refine lv_iload hx hb dX1_asks_28 (lv_at hl 3 rfl) ?_
          refine lv_aload_n hx hb dX1_asks_30 rfl (lv_at hl 0 rfl) ?_
          refine mg_many hx hb hts hin hown hK hP hl_many dX1_asks_31 ?_
          refine lv_icmp_ge (tgt := 73) hx hb dX1_asks_34 (by decide) (fun c34 => ?_) (fun c34 => ?_)
          · have hkn : k = nr := Nat.le_antisymm hk_k (ge_t hnr (by omega) (by omega) c34)
            refine lv_iload_n hx hb dX1_asks_73 rfl (lv_at hl 2 rfl) ?_
            exact u_iret hx hb hr hlocks hS (by rw [hkn] at hP; exact hP) (by rw [hkn]; rfl) dX1_asks_74
          · have hkn : k < nr := ge_f hnr (by omega) c34
            refine lv_iload_n hx hb dX1_asks_37 rfl (lv_at hl 1 rfl) ?_
            refine lv_iload hx hb dX1_asks_38 (lv_at hl 3 rfl) ?_
            refine k_X1_has (m_aw σ.2 nr r) k (by omega) ⟨hx, hb, hml, hown, hts⟩ gX1_asks_X1_has ⟨Nat.le_of_ble_eq_true rfl, Nat.le_of_ble_eq_true rfl⟩ hl.1 ⟨Nat.zero_le _, Nat.zero_le _⟩ (Nat.le_of_ble_eq_true rfl) dX1_asks_40 ?_
            refine lv_ifeq_b (tgt := 67) hx hb dX1_asks_43 (by decide) (fun c43 => ?_) (fun c43 => ?_)
            · refine lv_iinc (v := (nI k) + 1) (lv' := [(4, .int ((nI k) + 1)), (0, .ref h0), (2, .int (m_aw σ.2 nr r)), (3, .int (m_cn (σ.2 12) (m_aw σ.2 nr r) k))]) hx hb dX1_asks_67 hl (k := 3) rfl rfl (by decide) rfl (fun ls hl => ?_)
              refine lv_goto (tgt := 28) hx hb dX1_asks_70 (by decide) ?_
              exact ihk (k + 1) (by omega) (by omega)   _ _ (by rw [← m_st_f (fun h => by rw [c43] at h; cases h.1)]; exact hP) hS _ (lv_to (L := [(0, .ref h0), (2, .int (m_aw σ.2 nr r)), (3, .int (m_cn (σ.2 12) (m_aw σ.2 nr r) k)), (4, .int ((nI k) + 1))]) (lv_sub hl [1, 2, 3, 0] rfl) (lv_cr (lv_cr (lv_ci (by rw [m_cn, if_neg (fun h => by rw [c43] at h; cases h.1)]) (lv_ci (nI_1 k) rfl)))))
            · refine lv_aload_n hx hb dX1_asks_46 rfl (lv_at hl 0 rfl) ?_
              refine mg_state hx hb hts hin hown hK hP hl_state dX1_asks_47 ?_
              refine lv_iload hx hb dX1_asks_50 (lv_at hl 3 rfl) ?_
              refine mr_state (j := k) hx hb hK hP (by omega) dX1_asks_52 ?_
              refine lv_topc (y := σ.2 12 k) (m_st_at) ?_
              refine lv_if_ne (tgt := 67) hx hb dX1_asks_53 (by decide) (fun c53 => ?_) (fun c53 => ?_)
              · refine lv_iinc (v := (nI k) + 1) (lv' := [(4, .int ((nI k) + 1)), (0, .ref h0), (2, .int (m_aw σ.2 nr r)), (3, .int (m_cn (σ.2 12) (m_aw σ.2 nr r) k))]) hx hb dX1_asks_67 hl (k := 3) rfl rfl (by decide) rfl (fun ls hl => ?_)
                refine lv_goto (tgt := 28) hx hb dX1_asks_70 (by decide) ?_
                exact ihk (k + 1) (by omega) (by omega)   _ _ (by rw [← m_st_f (fun h => c53 h.2)]; exact hP) hS _ (lv_to (L := [(0, .ref h0), (2, .int (m_aw σ.2 nr r)), (3, .int (m_cn (σ.2 12) (m_aw σ.2 nr r) k)), (4, .int ((nI k) + 1))]) (lv_sub hl [1, 2, 3, 0] rfl) (lv_cr (lv_cr (lv_ci (by rw [m_cn, if_neg (fun h => c53 h.2)]) (lv_ci (nI_1 k) rfl)))))
              · refine lv_aload_n hx hb dX1_asks_56 rfl (lv_at hl 0 rfl) ?_
                refine mg_state hx hb hts hin hown hK hP hl_state dX1_asks_57 ?_
                refine lv_iload hx hb dX1_asks_60 (lv_at hl 3 rfl) ?_
                refine lv_iconst (v := 1) hx hb dX1_asks_62 (by decide) ?_
                refine mw_state (j := k) hx hb hK hP (hD _) hS (by omega) dX1_asks_63 (fun H locs hP hS => ?_)
                refine lv_iinc (v := (m_cn (σ.2 12) (m_aw σ.2 nr r) k) + 1) (lv' := [(3, .int ((m_cn (σ.2 12) (m_aw σ.2 nr r) k) + 1)), (0, .ref h0), (2, .int (m_aw σ.2 nr r)), (4, .int (nI k))]) hx hb dX1_asks_64 hl (k := 2) rfl rfl (by decide) rfl (fun ls hl => ?_)
                refine lv_iinc (v := (nI k) + 1) (lv' := [(4, .int ((nI k) + 1)), (3, .int ((m_cn (σ.2 12) (m_aw σ.2 nr r) k) + 1)), (0, .ref h0), (2, .int (m_aw σ.2 nr r))]) hx hb dX1_asks_67 hl (k := 3) rfl rfl (by decide) rfl (fun ls hl => ?_)
                refine lv_goto (tgt := 28) hx hb dX1_asks_70 (by decide) ?_
                exact ihk (k + 1) (by omega) (by omega)   _ _ (by rw [← m_st_t c43 c53]; exact hP) hS _ (lv_to (L := [(0, .ref h0), (2, .int (m_aw σ.2 nr r)), (3, .int ((m_cn (σ.2 12) (m_aw σ.2 nr r) k) + 1)), (4, .int ((nI k) + 1))]) (lv_sub hl [2, 3, 1, 0] rfl) (lv_cr (lv_cr (lv_ci (by rw [m_cn, if_pos ⟨c43, c53⟩]) (lv_ci (nI_1 k) rfl)))))
      exact loop28 (nr + 1) r (by omega) (by omega)   _ _ (by rw [m_st_lo hlo]; exact hP) hS _ (lv_to (L := [(0, .ref h0), (2, .int ((m_belk (σ.2 9) r nr) ||| (1 <<< ((nI r) &&& 31)))), (3, .int 0), (4, .int (nI r))]) (lv_sub hl [3, 2, 1, 0] rfl) (lv_cr (lv_ci (by rw [m_aw, if_pos c6]; rfl) (lv_ci ((m_cn_lo r hlo).symm) (lv_cr rfl)))))
  exact key _ _ hP hS ls hl
theorem k_X1_asks {p : Program} {l : Launch} {e : Env} {R : Room} {s : State} {m : MethodId} {args : Array Value} {below : List Frame} {meth : Method} {c : Code} {H : Heap} {locs : List Loc} {cells slots : Nat} {Q : State → Prop} {cc : ByteArray} {pc : Nat} {ls : Array Slot} {rest : List Value} {Ts : List Cond} (D : va_G) (tI tZ tL : ClassId) (h0 : Nat) (ad : Nat → Nat) (σ : ST) (r : Nat) (nr : Nat) (hnr : σ.1 7 = nI nr) (hn30 : nr ≤ 30) (hrn : r < nr) {A0 : Nat → Prop} {H0 : Heap} {own : String} {idx nL : Nat} (S : CallFix p m c cc nL s args Ts own) (hG : GoodIn Ts (wsV own idx RX1 yX1_asks wsX1_asks)) (hR : ({ frames := 2, cells := 0, slots := 0, locals := 44 } : Room).frames + 1 ≤ R.frames ∧ 8 + (5 + 11) + ({ frames := 2, cells := 0, slots := 0, locals := 44 } : Room).locals ≤ R.locals) (hsz : ls.size = nL) (hcap : cells ≤ R.cells ∧ slots ≤ R.slots) (hrm : (rest.map fun v => v.category).sum ≤ 8) (hn : (m_L h0 ad).Nodup) (hK : va_K D vwCl (kTY tI tZ tL) s) (hP : va_P D vwCl (m_W tI tZ h0 ad σ) H) (hS : va_S A0 H0 H locs) (hA : ∀ q, m_A h0 ad q → A0 q) (hdg : decode cc pc = .ok (.invokevirtual idx, 3)) (kk : ∀ (H1 : Heap) (locs1 : List Loc), va_P D vwCl (m_W tI tZ h0 ad (m_asS σ nr r)) H1 → H.size ≤ H1.size → (∀ q : Nat, q < H.size → ¬ m_A h0 ad q → H1[q]? = H[q]?) → va_S A0 H0 H1 locs1 → W p l e R s m args below meth c H1 locs1 cells slots Q (F0 m (pc + 3) ls (.int (m_asC σ.2 nr r) :: rest))) : W p l e R s m args below meth c H locs cells slots Q (F0 m pc ls (.int (nI r) :: .ref h0 :: rest)) :=
  u_call (va_runV (As := [.int (nI r)]) (rest := rest) S (c_X1_asks l D tI tZ tL h0 ad σ r nr hnr hn30 hrn hn) (cwV 1 S.2.2.2.2 hG rfl rfl rfl (by decide +kernel) hR) (m_pre hK hP) rfl rfl hsz rfl (lv_room hrm) hdg hcap) hS hA hA kk

set_option maxHeartbeats 4000000 in
set_option maxRecDepth 100000 in
theorem c_X1_eraseOne_n (l : Launch) (D : va_G) (tI tZ tL : ClassId) (h0 : Nat) (ad : Nat → Nat) (σ : ST) (nr : Nat) (hnr : σ.1 7 = nI nr) (hn30 : nr ≤ 30) (hno : m_fo σ.2 nr nr = none) (hn : (m_L h0 ad).Nodup) : Met l yX1_eraseOne wsX1_eraseOne ({ frames := 3, cells := 0, slots := 0, locals := 68 } : Room) (va_Pc ([.ref h0] : List Value) (m_B D tI tZ tL h0 ad σ)) (u_Q (some (.int (-1))) (m_P D tI tZ h0 ad σ) (m_A h0 ad)) 0 0 (m_A h0 ad) := by
  refine u_met (cc := cX1_eraseOne) (maxL := 3) (ret := (some .int)) (by decide) rfl (Nat.le_of_ble_eq_true rfl) ?_
  intro p e s m below meth c hx hb hml hr hts hown hlocks hB hS ls hl
  have hD : ∀ σ : ST, va_D (m_A h0 ad) (m_W tI tZ h0 ad σ) := fun σ => m_D σ hn (fun _ h => h)
  have hown : s.vm.findClass RX1 = some m.cls := hown
  obtain ⟨hP, hK⟩ := hB
  have hl : lv_has ls 3 [(0, .ref h0)] := hl
  have hin : ∀ w ∈ wsX10, w ∈ wsX1_eraseOne := in_X1_eraseOne
  have hl_many : ml_many ∈ wsX1_eraseOne := by decide +kernel
  have key : ∀ (H : Heap) (locs : List Loc), va_P D vwCl (m_W tI tZ h0 ad σ) H → va_S (m_A h0 ad) s.heap H locs → ∀ ls, lv_has ls 3 [(0, .ref h0)] → u_G p l e ({ frames := 3, cells := 0, slots := 0, locals := 68 } : Room) s m ([.ref h0] : List Value).toArray below meth c H locs (some (.int (-1))) (m_P D tI tZ h0 ad σ) (m_A h0 ad) (F0 m 0 ls []) := by
    intro H locs hP hS ls hl
    refine lv_iconst (v := (-1)) hx hb dX1_eraseOne_0 (by decide) ?_
    refine lv_istore_n (lv' := [(1, .int (-1)), (0, .ref h0)]) hx hb dX1_eraseOne_1 rfl hl (by decide) rfl (fun ls hl => ?_)
    refine lv_iconst (v := 0) hx hb dX1_eraseOne_2 (by decide) ?_
    refine lv_istore_n (lv' := [(2, .int 0), (1, .int (-1)), (0, .ref h0)]) hx hb dX1_eraseOne_3 rfl hl (by decide) rfl (fun ls hl => ?_)
    have loop4 : ∀ (n k : Nat), k ≤ nr → nr + 1 ≤ k + n → ∀ ls, lv_has ls 3 [(0, .ref h0), (1, .int (m_oI (m_fo σ.2 nr k))), (2, .int (nI k))] → u_G p l e ({ frames := 3, cells := 0, slots := 0, locals := 68 } : Room) s m ([.ref h0] : List Value).toArray below meth c H locs (some (.int (-1))) (m_P D tI tZ h0 ad σ) (m_A h0 ad) (F0 m 4 ls []) := by
      intro n
      induction n with
      | zero => intro k h1 h2; omega
      | succ n ihk =>
        intro k hk_k hn_k   ls hl
        refine lv_iload_n hx hb dX1_eraseOne_4 rfl (lv_at hl 2 rfl) ?_
        refine lv_aload_n hx hb dX1_eraseOne_5 rfl (lv_at hl 0 rfl) ?_
        refine mg_many hx hb hts hin hown hK hP hl_many dX1_eraseOne_6 ?_
        refine lv_icmp_ge (tgt := 32) hx hb dX1_eraseOne_9 (by decide) (fun c9 => ?_) (fun c9 => ?_)
        · have hkn : k = nr := Nat.le_antisymm hk_k (ge_t hnr (by omega) (by omega) c9)
          refine lv_iload_n hx hb dX1_eraseOne_32 rfl (lv_at hl 1 rfl) ?_
          refine lv_topc (y := -1) (by rw [hkn, hno]; rfl) ?_
          refine lv_iconst (v := (-1)) hx hb dX1_eraseOne_33 (by decide) ?_
          refine lv_icmp_eq (tgt := 44) hx hb dX1_eraseOne_34 (by decide) (fun c34 => ?_) (fun c34 => absurd rfl c34)
          refine lv_iload_n hx hb dX1_eraseOne_44 rfl (lv_at hl 1 rfl) ?_
          refine lv_topc (y := -1) (by rw [hkn, hno]; rfl) ?_
          exact u_iret hx hb hr hlocks hS (hP) (rfl) dX1_eraseOne_45
        · have hkn : k < nr := ge_f hnr (by omega) c9
          refine lv_aload_n hx hb dX1_eraseOne_12 rfl (lv_at hl 0 rfl) ?_
          refine lv_iload_n hx hb dX1_eraseOne_13 rfl (lv_at hl 2 rfl) ?_
          refine k_X1_kept D tI tZ tL h0 ad σ k nr hnr hn30 (by omega) ⟨hx, hb, hml, hown, hts⟩ gX1_eraseOne_X1_kept ⟨Nat.le_of_ble_eq_true rfl, Nat.le_of_ble_eq_true rfl⟩ hl.1 ⟨Nat.zero_le _, Nat.zero_le _⟩ (Nat.le_of_ble_eq_true rfl) hK hP dX1_eraseOne_14 ?_
          refine lv_if_ne (tgt := 24) hx hb dX1_eraseOne_17 (by decide) (fun c17 => ?_) (fun c17 => ?_)
          · refine lv_iload_n hx hb dX1_eraseOne_24 rfl (lv_at hl 1 rfl) ?_
            refine lv_istore_n (lv' := [(1, .int (m_oI (m_fo σ.2 nr k))), (0, .ref h0), (2, .int (nI k))]) hx hb dX1_eraseOne_25 rfl hl (by decide) rfl (fun ls hl => ?_)
            refine lv_iinc (v := (nI k) + 1) (lv' := [(2, .int ((nI k) + 1)), (1, .int (m_oI (m_fo σ.2 nr k))), (0, .ref h0)]) hx hb dX1_eraseOne_26 hl (k := 2) rfl rfl (by decide) rfl (fun ls hl => ?_)
            refine lv_goto (tgt := 4) hx hb dX1_eraseOne_29 (by decide) ?_
            exact ihk (k + 1) (by omega) (by omega)   _ (lv_to (L := [(0, .ref h0), (1, .int (m_oI (m_fo σ.2 nr k))), (2, .int ((nI k) + 1))]) (lv_sub hl [2, 1, 0] rfl) (lv_cr (lv_ci (by rw [m_fo, if_neg c17]) (lv_ci (nI_1 k) rfl))))
          · refine lv_iload_n hx hb dX1_eraseOne_20 rfl (lv_at hl 2 rfl) ?_
            refine lv_goto (tgt := 25) hx hb dX1_eraseOne_21 (by decide) ?_
            refine lv_istore_n (lv' := [(1, .int (nI k)), (0, .ref h0), (2, .int (nI k))]) hx hb dX1_eraseOne_25 rfl hl (by decide) rfl (fun ls hl => ?_)
            refine lv_iinc (v := (nI k) + 1) (lv' := [(2, .int ((nI k) + 1)), (1, .int (nI k)), (0, .ref h0)]) hx hb dX1_eraseOne_26 hl (k := 2) rfl rfl (by decide) rfl (fun ls hl => ?_)
            refine lv_goto (tgt := 4) hx hb dX1_eraseOne_29 (by decide) ?_
            exact ihk (k + 1) (by omega) (by omega)   _ (lv_to (L := [(0, .ref h0), (1, .int (nI k)), (2, .int ((nI k) + 1))]) (lv_sub hl [2, 1, 0] rfl) (lv_cr (lv_ci (by rw [m_fo, if_pos c17]; rfl) (lv_ci (nI_1 k) rfl))))
    exact loop4 (nr + 1) 0 (by omega) (by omega)   _ (lv_to (L := [(0, .ref h0), (1, .int (-1)), (2, .int 0)]) (lv_sub hl [2, 1, 0] rfl) (lv_cr (lv_ci (rfl) (lv_ci (rfl) rfl))))
  exact key _ _ hP hS ls hl
theorem k_X1_eraseOne_n {p : Program} {l : Launch} {e : Env} {R : Room} {s : State} {m : MethodId} {args : Array Value} {below : List Frame} {meth : Method} {c : Code} {H : Heap} {locs : List Loc} {cells slots : Nat} {Q : State → Prop} {cc : ByteArray} {pc : Nat} {ls : Array Slot} {rest : List Value} {Ts : List Cond} (D : va_G) (tI tZ tL : ClassId) (h0 : Nat) (ad : Nat → Nat) (σ : ST) (nr : Nat) (hnr : σ.1 7 = nI nr) (hn30 : nr ≤ 30) (hno : m_fo σ.2 nr nr = none) {A0 : Nat → Prop} {H0 : Heap} {own : String} {idx nL : Nat} (S : CallFix p m c cc nL s args Ts own) (hG : GoodIn Ts (wsV own idx RX1 yX1_eraseOne wsX1_eraseOne)) (hR : ({ frames := 3, cells := 0, slots := 0, locals := 68 } : Room).frames + 1 ≤ R.frames ∧ 8 + (3 + 11) + ({ frames := 3, cells := 0, slots := 0, locals := 68 } : Room).locals ≤ R.locals) (hsz : ls.size = nL) (hcap : cells ≤ R.cells ∧ slots ≤ R.slots) (hrm : (rest.map fun v => v.category).sum ≤ 8) (hn : (m_L h0 ad).Nodup) (hK : va_K D vwCl (kTY tI tZ tL) s) (hP : va_P D vwCl (m_W tI tZ h0 ad σ) H) (hS : va_S A0 H0 H locs) (hA : ∀ q, m_A h0 ad q → A0 q) (hdg : decode cc pc = .ok (.invokevirtual idx, 3)) (kk : ∀ (H1 : Heap) (locs1 : List Loc), va_P D vwCl (m_W tI tZ h0 ad σ) H1 → H.size ≤ H1.size → (∀ q : Nat, q < H.size → ¬ m_A h0 ad q → H1[q]? = H[q]?) → va_S A0 H0 H1 locs1 → W p l e R s m args below meth c H1 locs1 cells slots Q (F0 m (pc + 3) ls (.int (-1) :: rest))) : W p l e R s m args below meth c H locs cells slots Q (F0 m pc ls (.ref h0 :: rest)) :=
  u_call (va_runV (As := []) (rest := rest) S (c_X1_eraseOne_n l D tI tZ tL h0 ad σ nr hnr hn30 hno hn) (cwV 0 S.2.2.2.2 hG rfl rfl rfl (by decide +kernel) hR) (m_pre hK hP) rfl rfl hsz rfl (lv_room hrm) hdg hcap) hS hA hA kk

set_option maxHeartbeats 4000000 in
set_option maxRecDepth 100000 in
theorem c_X1_eraseOne_s (l : Launch) (D : va_G) (tI tZ tL : ClassId) (h0 : Nat) (ad : Nat → Nat) (σ : ST) (nr : Nat) (hnr : σ.1 7 = nI nr) (hn30 : nr ≤ 30) (j : Nat) (hso : m_fo σ.2 nr nr = some j) (hn : (m_L h0 ad).Nodup) : Met l yX1_eraseOne wsX1_eraseOne ({ frames := 3, cells := 0, slots := 0, locals := 68 } : Room) (va_Pc ([.ref h0] : List Value) (m_B D tI tZ tL h0 ad σ)) (u_Q (some (.int (nI j))) (m_P D tI tZ h0 ad (s_put σ 12 j 2)) (m_A h0 ad)) 0 0 (m_A h0 ad) := by
  refine u_met (cc := cX1_eraseOne) (maxL := 3) (ret := (some .int)) (by decide) rfl (Nat.le_of_ble_eq_true rfl) ?_
  intro p e s m below meth c hx hb hml hr hts hown hlocks hB hS ls hl
  have hD : ∀ σ : ST, va_D (m_A h0 ad) (m_W tI tZ h0 ad σ) := fun σ => m_D σ hn (fun _ h => h)
  have hown : s.vm.findClass RX1 = some m.cls := hown
  obtain ⟨hP, hK⟩ := hB
  have hl : lv_has ls 3 [(0, .ref h0)] := hl
  have hin : ∀ w ∈ wsX10, w ∈ wsX1_eraseOne := in_X1_eraseOne
  have hl_many : ml_many ∈ wsX1_eraseOne := by decide +kernel
  have hl_state : ml_state ∈ wsX1_eraseOne := by decide +kernel
  have key : ∀ (H : Heap) (locs : List Loc), va_P D vwCl (m_W tI tZ h0 ad σ) H → va_S (m_A h0 ad) s.heap H locs → ∀ ls, lv_has ls 3 [(0, .ref h0)] → u_G p l e ({ frames := 3, cells := 0, slots := 0, locals := 68 } : Room) s m ([.ref h0] : List Value).toArray below meth c H locs (some (.int (nI j))) (m_P D tI tZ h0 ad (s_put σ 12 j 2)) (m_A h0 ad) (F0 m 0 ls []) := by
    intro H locs hP hS ls hl
    refine lv_iconst (v := (-1)) hx hb dX1_eraseOne_0 (by decide) ?_
    refine lv_istore_n (lv' := [(1, .int (-1)), (0, .ref h0)]) hx hb dX1_eraseOne_1 rfl hl (by decide) rfl (fun ls hl => ?_)
    refine lv_iconst (v := 0) hx hb dX1_eraseOne_2 (by decide) ?_
    refine lv_istore_n (lv' := [(2, .int 0), (1, .int (-1)), (0, .ref h0)]) hx hb dX1_eraseOne_3 rfl hl (by decide) rfl (fun ls hl => ?_)
    have loop4 : ∀ (n k : Nat), k ≤ nr → nr + 1 ≤ k + n → ∀ ls, lv_has ls 3 [(0, .ref h0), (1, .int (m_oI (m_fo σ.2 nr k))), (2, .int (nI k))] → u_G p l e ({ frames := 3, cells := 0, slots := 0, locals := 68 } : Room) s m ([.ref h0] : List Value).toArray below meth c H locs (some (.int (nI j))) (m_P D tI tZ h0 ad (s_put σ 12 j 2)) (m_A h0 ad) (F0 m 4 ls []) := by
      intro n
      induction n with
      | zero => intro k h1 h2; omega
      | succ n ihk =>
        intro k hk_k hn_k   ls hl
        refine lv_iload_n hx hb dX1_eraseOne_4 rfl (lv_at hl 2 rfl) ?_
        refine lv_aload_n hx hb dX1_eraseOne_5 rfl (lv_at hl 0 rfl) ?_
        refine mg_many hx hb hts hin hown hK hP hl_many dX1_eraseOne_6 ?_
        refine lv_icmp_ge (tgt := 32) hx hb dX1_eraseOne_9 (by decide) (fun c9 => ?_) (fun c9 => ?_)
        · have hkn : k = nr := Nat.le_antisymm hk_k (ge_t hnr (by omega) (by omega) c9)
          refine lv_iload_n hx hb dX1_eraseOne_32 rfl (lv_at hl 1 rfl) ?_
          refine lv_topc (y := nI j) (by rw [hkn, hso]; rfl) ?_
          refine lv_iconst (v := (-1)) hx hb dX1_eraseOne_33 (by decide) ?_
          refine lv_icmp_eq (tgt := 44) hx hb dX1_eraseOne_34 (by decide) (fun c34 => absurd c34 (nI_ne_m1 (by have := m_fo_lt nr hso; omega))) (fun c34 => ?_)
          refine lv_aload_n hx hb dX1_eraseOne_37 rfl (lv_at hl 0 rfl) ?_
          refine mg_state hx hb hts hin hown hK hP hl_state dX1_eraseOne_38 ?_
          refine lv_iload_n hx hb dX1_eraseOne_41 rfl (lv_at hl 1 rfl) ?_
          refine lv_topc (y := nI j) (by rw [hkn, hso]; rfl) ?_
          refine lv_iconst (v := 2) hx hb dX1_eraseOne_42 (by decide) ?_
          refine mw_state (j := j) hx hb hK hP (hD _) hS (by have := m_fo_lt nr hso; omega) dX1_eraseOne_43 (fun H locs hP hS => ?_)
          refine lv_iload_n hx hb dX1_eraseOne_44 rfl (lv_at hl 1 rfl) ?_
          refine lv_topc (y := nI j) (by rw [hkn, hso]; rfl) ?_
          exact u_iret hx hb hr hlocks hS (hP) (rfl) dX1_eraseOne_45
        · have hkn : k < nr := ge_f hnr (by omega) c9
          refine lv_aload_n hx hb dX1_eraseOne_12 rfl (lv_at hl 0 rfl) ?_
          refine lv_iload_n hx hb dX1_eraseOne_13 rfl (lv_at hl 2 rfl) ?_
          refine k_X1_kept D tI tZ tL h0 ad σ k nr hnr hn30 (by omega) ⟨hx, hb, hml, hown, hts⟩ gX1_eraseOne_X1_kept ⟨Nat.le_of_ble_eq_true rfl, Nat.le_of_ble_eq_true rfl⟩ hl.1 ⟨Nat.zero_le _, Nat.zero_le _⟩ (Nat.le_of_ble_eq_true rfl) hK hP dX1_eraseOne_14 ?_
          refine lv_if_ne (tgt := 24) hx hb dX1_eraseOne_17 (by decide) (fun c17 => ?_) (fun c17 => ?_)
          · refine lv_iload_n hx hb dX1_eraseOne_24 rfl (lv_at hl 1 rfl) ?_
            refine lv_istore_n (lv' := [(1, .int (m_oI (m_fo σ.2 nr k))), (0, .ref h0), (2, .int (nI k))]) hx hb dX1_eraseOne_25 rfl hl (by decide) rfl (fun ls hl => ?_)
            refine lv_iinc (v := (nI k) + 1) (lv' := [(2, .int ((nI k) + 1)), (1, .int (m_oI (m_fo σ.2 nr k))), (0, .ref h0)]) hx hb dX1_eraseOne_26 hl (k := 2) rfl rfl (by decide) rfl (fun ls hl => ?_)
            refine lv_goto (tgt := 4) hx hb dX1_eraseOne_29 (by decide) ?_
            exact ihk (k + 1) (by omega) (by omega)   _ (lv_to (L := [(0, .ref h0), (1, .int (m_oI (m_fo σ.2 nr k))), (2, .int ((nI k) + 1))]) (lv_sub hl [2, 1, 0] rfl) (lv_cr (lv_ci (by rw [m_fo, if_neg c17]) (lv_ci (nI_1 k) rfl))))
          · refine lv_iload_n hx hb dX1_eraseOne_20 rfl (lv_at hl 2 rfl) ?_
            refine lv_goto (tgt := 25) hx hb dX1_eraseOne_21 (by decide) ?_
            refine lv_istore_n (lv' := [(1, .int (nI k)), (0, .ref h0), (2, .int (nI k))]) hx hb dX1_eraseOne_25 rfl hl (by decide) rfl (fun ls hl => ?_)
            refine lv_iinc (v := (nI k) + 1) (lv' := [(2, .int ((nI k) + 1)), (1, .int (nI k)), (0, .ref h0)]) hx hb dX1_eraseOne_26 hl (k := 2) rfl rfl (by decide) rfl (fun ls hl => ?_)
            refine lv_goto (tgt := 4) hx hb dX1_eraseOne_29 (by decide) ?_
            exact ihk (k + 1) (by omega) (by omega)   _ (lv_to (L := [(0, .ref h0), (1, .int (nI k)), (2, .int ((nI k) + 1))]) (lv_sub hl [2, 1, 0] rfl) (lv_cr (lv_ci (by rw [m_fo, if_pos c17]; rfl) (lv_ci (nI_1 k) rfl))))
    exact loop4 (nr + 1) 0 (by omega) (by omega)   _ (lv_to (L := [(0, .ref h0), (1, .int (-1)), (2, .int 0)]) (lv_sub hl [2, 1, 0] rfl) (lv_cr (lv_ci (rfl) (lv_ci (rfl) rfl))))
  exact key _ _ hP hS ls hl
theorem k_X1_eraseOne_s {p : Program} {l : Launch} {e : Env} {R : Room} {s : State} {m : MethodId} {args : Array Value} {below : List Frame} {meth : Method} {c : Code} {H : Heap} {locs : List Loc} {cells slots : Nat} {Q : State → Prop} {cc : ByteArray} {pc : Nat} {ls : Array Slot} {rest : List Value} {Ts : List Cond} (D : va_G) (tI tZ tL : ClassId) (h0 : Nat) (ad : Nat → Nat) (σ : ST) (nr : Nat) (hnr : σ.1 7 = nI nr) (hn30 : nr ≤ 30) (j : Nat) (hso : m_fo σ.2 nr nr = some j) {A0 : Nat → Prop} {H0 : Heap} {own : String} {idx nL : Nat} (S : CallFix p m c cc nL s args Ts own) (hG : GoodIn Ts (wsV own idx RX1 yX1_eraseOne wsX1_eraseOne)) (hR : ({ frames := 3, cells := 0, slots := 0, locals := 68 } : Room).frames + 1 ≤ R.frames ∧ 8 + (3 + 11) + ({ frames := 3, cells := 0, slots := 0, locals := 68 } : Room).locals ≤ R.locals) (hsz : ls.size = nL) (hcap : cells ≤ R.cells ∧ slots ≤ R.slots) (hrm : (rest.map fun v => v.category).sum ≤ 8) (hn : (m_L h0 ad).Nodup) (hK : va_K D vwCl (kTY tI tZ tL) s) (hP : va_P D vwCl (m_W tI tZ h0 ad σ) H) (hS : va_S A0 H0 H locs) (hA : ∀ q, m_A h0 ad q → A0 q) (hdg : decode cc pc = .ok (.invokevirtual idx, 3)) (kk : ∀ (H1 : Heap) (locs1 : List Loc), va_P D vwCl (m_W tI tZ h0 ad (s_put σ 12 j 2)) H1 → H.size ≤ H1.size → (∀ q : Nat, q < H.size → ¬ m_A h0 ad q → H1[q]? = H[q]?) → va_S A0 H0 H1 locs1 → W p l e R s m args below meth c H1 locs1 cells slots Q (F0 m (pc + 3) ls (.int (nI j) :: rest))) : W p l e R s m args below meth c H locs cells slots Q (F0 m pc ls (.ref h0 :: rest)) :=
  u_call (va_runV (As := []) (rest := rest) S (c_X1_eraseOne_s l D tI tZ tL h0 ad σ nr hnr hn30 j hso hn) (cwV 0 S.2.2.2.2 hG rfl rfl rfl (by decide +kernel) hR) (m_pre hK hP) rfl rfl hsz rfl (lv_room hrm) hdg hcap) hS hA hA kk

