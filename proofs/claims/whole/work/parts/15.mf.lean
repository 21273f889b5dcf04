set_option maxHeartbeats 4000000 in
set_option maxRecDepth 100000 in
theorem c_X1_records (l : Launch) (D : va_G) (tI tZ tL : ClassId) (h0 : Nat) (ad : Nat → Nat) (σ : ST)  (hn : (m_L h0 ad).Nodup) : Met l yX1_records wsX1_records ({ frames := 0, cells := 0, slots := 0, locals := 0 } : Room) (va_Pc ([.ref h0] : List Value) (m_B D tI tZ tL h0 ad σ)) (u_Q (some (.int (σ.1 7))) (m_P D tI tZ h0 ad (s_set σ 0 0)) (m_A h0 ad)) 0 0 (m_A h0 ad) := by
  refine u_met (cc := cX1_records) (maxL := 1) (ret := (some .int)) (by decide) rfl (Nat.le_of_ble_eq_true rfl) ?_
  intro p e s m below meth c hx hb hml hr hts hown hlocks hB hS ls hl
  have hD : ∀ σ : ST, va_D (m_A h0 ad) (m_W tI tZ h0 ad σ) := fun σ => m_D σ hn (fun _ h => h)
  have hown : s.vm.findClass RX1 = some m.cls := hown
  obtain ⟨hP, hK⟩ := hB
  have hl : lv_has ls 1 [(0, .ref h0)] := hl
  have hin : ∀ w ∈ wsX10, w ∈ wsX1_records := in_X1_records
  have hl_many : ml_many ∈ wsX1_records := by decide +kernel
  have hl_thrown : ml_thrown ∈ wsX1_records := by decide +kernel
  have key : ∀ (H : Heap) (locs : List Loc), va_P D vwCl (m_W tI tZ h0 ad σ) H → va_S (m_A h0 ad) s.heap H locs → ∀ ls, lv_has ls 1 [(0, .ref h0)] → u_G p l e ({ frames := 0, cells := 0, slots := 0, locals := 0 } : Room) s m ([.ref h0] : List Value).toArray below meth c H locs (some (.int (σ.1 7))) (m_P D tI tZ h0 ad (s_set σ 0 0)) (m_A h0 ad) (F0 m 0 ls []) := by
    intro H locs hP hS ls hl
    refine lv_aload_n hx hb dX1_records_0 rfl (lv_at hl 0 rfl) ?_
    refine lv_iconst (v := 0) hx hb dX1_records_1 (by decide) ?_
    refine mp_thrown hx hb hts hin hown hK hP (hD _) hS hl_thrown dX1_records_2 (fun H locs hP hS => ?_)
    refine lv_aload_n hx hb dX1_records_5 rfl (lv_at hl 0 rfl) ?_
    refine mg_many hx hb hts hin hown hK hP hl_many dX1_records_6 ?_
    exact u_iret hx hb hr hlocks hS (hP) (rfl) dX1_records_9
  exact key _ _ hP hS ls hl
theorem k_X1_records {p : Program} {l : Launch} {e : Env} {R : Room} {s : State} {m : MethodId} {args : Array Value} {below : List Frame} {meth : Method} {c : Code} {H : Heap} {locs : List Loc} {cells slots : Nat} {Q : State → Prop} {cc : ByteArray} {pc : Nat} {ls : Array Slot} {rest : List Value} {Ts : List Cond} (D : va_G) (tI tZ tL : ClassId) (h0 : Nat) (ad : Nat → Nat) (σ : ST)  {A0 : Nat → Prop} {H0 : Heap} {own : String} {idx nL : Nat} (S : CallFix p m c cc nL s args Ts own) (hG : GoodIn Ts (wsV own idx RX1 yX1_records wsX1_records)) (hR : ({ frames := 0, cells := 0, slots := 0, locals := 0 } : Room).frames + 1 ≤ R.frames ∧ 8 + (1 + 11) + ({ frames := 0, cells := 0, slots := 0, locals := 0 } : Room).locals ≤ R.locals) (hsz : ls.size = nL) (hcap : cells ≤ R.cells ∧ slots ≤ R.slots) (hrm : (rest.map fun v => v.category).sum ≤ 8) (hn : (m_L h0 ad).Nodup) (hK : va_K D vwCl (kTY tI tZ tL) s) (hP : va_P D vwCl (m_W tI tZ h0 ad σ) H) (hS : va_S A0 H0 H locs) (hA : ∀ q, m_A h0 ad q → A0 q) (hdg : decode cc pc = .ok (.invokevirtual idx, 3)) (kk : ∀ (H1 : Heap) (locs1 : List Loc), va_P D vwCl (m_W tI tZ h0 ad (s_set σ 0 0)) H1 → H.size ≤ H1.size → (∀ q : Nat, q < H.size → ¬ m_A h0 ad q → H1[q]? = H[q]?) → va_S A0 H0 H1 locs1 → W p l e R s m args below meth c H1 locs1 cells slots Q (F0 m (pc + 3) ls (.int (σ.1 7) :: rest))) : W p l e R s m args below meth c H locs cells slots Q (F0 m pc ls (.ref h0 :: rest)) :=
  u_call (va_runV (As := []) (rest := rest) S (c_X1_records l D tI tZ tL h0 ad σ  hn) (cwV 0 S.2.2.2.2 hG rfl rfl rfl (by decide +kernel) hR) (m_pre hK hP) rfl rfl hsz rfl (lv_room hrm) hdg hcap) hS hA hA kk

set_option maxHeartbeats 4000000 in
set_option maxRecDepth 100000 in
theorem c_X1_day (l : Launch) (D : va_G) (tI tZ tL : ClassId) (h0 : Nat) (ad : Nat → Nat) (σ : ST)  (hn : (m_L h0 ad).Nodup) : Met l yX1_day wsX1_day ({ frames := 0, cells := 0, slots := 0, locals := 0 } : Room) (va_Pc ([.ref h0] : List Value) (m_B D tI tZ tL h0 ad σ)) (u_Q (some (.int (σ.1 1))) (m_P D tI tZ h0 ad (s_set σ 0 0)) (m_A h0 ad)) 0 0 (m_A h0 ad) := by
  refine u_met (cc := cX1_day) (maxL := 1) (ret := (some .int)) (by decide) rfl (Nat.le_of_ble_eq_true rfl) ?_
  intro p e s m below meth c hx hb hml hr hts hown hlocks hB hS ls hl
  have hD : ∀ σ : ST, va_D (m_A h0 ad) (m_W tI tZ h0 ad σ) := fun σ => m_D σ hn (fun _ h => h)
  have hown : s.vm.findClass RX1 = some m.cls := hown
  obtain ⟨hP, hK⟩ := hB
  have hl : lv_has ls 1 [(0, .ref h0)] := hl
  have hin : ∀ w ∈ wsX10, w ∈ wsX1_day := in_X1_day
  have hl_thrown : ml_thrown ∈ wsX1_day := by decide +kernel
  have hl_today : ml_today ∈ wsX1_day := by decide +kernel
  have key : ∀ (H : Heap) (locs : List Loc), va_P D vwCl (m_W tI tZ h0 ad σ) H → va_S (m_A h0 ad) s.heap H locs → ∀ ls, lv_has ls 1 [(0, .ref h0)] → u_G p l e ({ frames := 0, cells := 0, slots := 0, locals := 0 } : Room) s m ([.ref h0] : List Value).toArray below meth c H locs (some (.int (σ.1 1))) (m_P D tI tZ h0 ad (s_set σ 0 0)) (m_A h0 ad) (F0 m 0 ls []) := by
    intro H locs hP hS ls hl
    refine lv_aload_n hx hb dX1_day_0 rfl (lv_at hl 0 rfl) ?_
    refine lv_iconst (v := 0) hx hb dX1_day_1 (by decide) ?_
    refine mp_thrown hx hb hts hin hown hK hP (hD _) hS hl_thrown dX1_day_2 (fun H locs hP hS => ?_)
    refine lv_aload_n hx hb dX1_day_5 rfl (lv_at hl 0 rfl) ?_
    refine mg_today hx hb hts hin hown hK hP hl_today dX1_day_6 ?_
    exact u_iret hx hb hr hlocks hS (hP) (rfl) dX1_day_9
  exact key _ _ hP hS ls hl
theorem k_X1_day {p : Program} {l : Launch} {e : Env} {R : Room} {s : State} {m : MethodId} {args : Array Value} {below : List Frame} {meth : Method} {c : Code} {H : Heap} {locs : List Loc} {cells slots : Nat} {Q : State → Prop} {cc : ByteArray} {pc : Nat} {ls : Array Slot} {rest : List Value} {Ts : List Cond} (D : va_G) (tI tZ tL : ClassId) (h0 : Nat) (ad : Nat → Nat) (σ : ST)  {A0 : Nat → Prop} {H0 : Heap} {own : String} {idx nL : Nat} (S : CallFix p m c cc nL s args Ts own) (hG : GoodIn Ts (wsV own idx RX1 yX1_day wsX1_day)) (hR : ({ frames := 0, cells := 0, slots := 0, locals := 0 } : Room).frames + 1 ≤ R.frames ∧ 8 + (1 + 11) + ({ frames := 0, cells := 0, slots := 0, locals := 0 } : Room).locals ≤ R.locals) (hsz : ls.size = nL) (hcap : cells ≤ R.cells ∧ slots ≤ R.slots) (hrm : (rest.map fun v => v.category).sum ≤ 8) (hn : (m_L h0 ad).Nodup) (hK : va_K D vwCl (kTY tI tZ tL) s) (hP : va_P D vwCl (m_W tI tZ h0 ad σ) H) (hS : va_S A0 H0 H locs) (hA : ∀ q, m_A h0 ad q → A0 q) (hdg : decode cc pc = .ok (.invokevirtual idx, 3)) (kk : ∀ (H1 : Heap) (locs1 : List Loc), va_P D vwCl (m_W tI tZ h0 ad (s_set σ 0 0)) H1 → H.size ≤ H1.size → (∀ q : Nat, q < H.size → ¬ m_A h0 ad q → H1[q]? = H[q]?) → va_S A0 H0 H1 locs1 → W p l e R s m args below meth c H1 locs1 cells slots Q (F0 m (pc + 3) ls (.int (σ.1 1) :: rest))) : W p l e R s m args below meth c H locs cells slots Q (F0 m pc ls (.ref h0 :: rest)) :=
  u_call (va_runV (As := []) (rest := rest) S (c_X1_day l D tI tZ tL h0 ad σ  hn) (cwV 0 S.2.2.2.2 hG rfl rfl rfl (by decide +kernel) hR) (m_pre hK hP) rfl rfl hsz rfl (lv_room hrm) hdg hcap) hS hA hA kk

set_option maxHeartbeats 4000000 in
set_option maxRecDepth 100000 in
theorem c_X1_held (l : Launch) (D : va_G) (tI tZ tL : ClassId) (h0 : Nat) (ad : Nat → Nat) (σ : ST)  (hn : (m_L h0 ad).Nodup) : Met l yX1_held wsX1_held ({ frames := 1, cells := 0, slots := 0, locals := 22 } : Room) (va_Pc ([.ref h0] : List Value) (m_B D tI tZ tL h0 ad σ)) (u_Q (some (.int (x_held (σ.2 14) 6))) (m_P D tI tZ h0 ad (s_set σ 0 0)) (m_A h0 ad)) 0 0 (m_A h0 ad) := by
  refine u_met (cc := cX1_held) (maxL := 1) (ret := (some .int)) (by decide) rfl (Nat.le_of_ble_eq_true rfl) ?_
  intro p e s m below meth c hx hb hml hr hts hown hlocks hB hS ls hl
  have hD : ∀ σ : ST, va_D (m_A h0 ad) (m_W tI tZ h0 ad σ) := fun σ => m_D σ hn (fun _ h => h)
  have hown : s.vm.findClass RX1 = some m.cls := hown
  obtain ⟨hP, hK⟩ := hB
  have hl : lv_has ls 1 [(0, .ref h0)] := hl
  have hin : ∀ w ∈ wsX10, w ∈ wsX1_held := in_X1_held
  have hl_thrown : ml_thrown ∈ wsX1_held := by decide +kernel
  have key : ∀ (H : Heap) (locs : List Loc), va_P D vwCl (m_W tI tZ h0 ad σ) H → va_S (m_A h0 ad) s.heap H locs → ∀ ls, lv_has ls 1 [(0, .ref h0)] → u_G p l e ({ frames := 1, cells := 0, slots := 0, locals := 22 } : Room) s m ([.ref h0] : List Value).toArray below meth c H locs (some (.int (x_held (σ.2 14) 6))) (m_P D tI tZ h0 ad (s_set σ 0 0)) (m_A h0 ad) (F0 m 0 ls []) := by
    intro H locs hP hS ls hl
    refine lv_aload_n hx hb dX1_held_0 rfl (lv_at hl 0 rfl) ?_
    refine lv_iconst (v := 0) hx hb dX1_held_1 (by decide) ?_
    refine mp_thrown hx hb hts hin hown hK hP (hD _) hS hl_thrown dX1_held_2 (fun H locs hP hS => ?_)
    refine lv_aload_n hx hb dX1_held_5 rfl (lv_at hl 0 rfl) ?_
    refine k_X1_heldSet D tI tZ tL h0 ad (s_set σ 0 0)  ⟨hx, hb, hml, hown, hts⟩ gX1_held_X1_heldSet ⟨Nat.le_of_ble_eq_true rfl, Nat.le_of_ble_eq_true rfl⟩ hl.1 ⟨Nat.zero_le _, Nat.zero_le _⟩ (Nat.le_of_ble_eq_true rfl) hK hP dX1_held_6 ?_
    exact u_iret hx hb hr hlocks hS (hP) (rfl) dX1_held_9
  exact key _ _ hP hS ls hl
theorem k_X1_held {p : Program} {l : Launch} {e : Env} {R : Room} {s : State} {m : MethodId} {args : Array Value} {below : List Frame} {meth : Method} {c : Code} {H : Heap} {locs : List Loc} {cells slots : Nat} {Q : State → Prop} {cc : ByteArray} {pc : Nat} {ls : Array Slot} {rest : List Value} {Ts : List Cond} (D : va_G) (tI tZ tL : ClassId) (h0 : Nat) (ad : Nat → Nat) (σ : ST)  {A0 : Nat → Prop} {H0 : Heap} {own : String} {idx nL : Nat} (S : CallFix p m c cc nL s args Ts own) (hG : GoodIn Ts (wsV own idx RX1 yX1_held wsX1_held)) (hR : ({ frames := 1, cells := 0, slots := 0, locals := 22 } : Room).frames + 1 ≤ R.frames ∧ 8 + (1 + 11) + ({ frames := 1, cells := 0, slots := 0, locals := 22 } : Room).locals ≤ R.locals) (hsz : ls.size = nL) (hcap : cells ≤ R.cells ∧ slots ≤ R.slots) (hrm : (rest.map fun v => v.category).sum ≤ 8) (hn : (m_L h0 ad).Nodup) (hK : va_K D vwCl (kTY tI tZ tL) s) (hP : va_P D vwCl (m_W tI tZ h0 ad σ) H) (hS : va_S A0 H0 H locs) (hA : ∀ q, m_A h0 ad q → A0 q) (hdg : decode cc pc = .ok (.invokevirtual idx, 3)) (kk : ∀ (H1 : Heap) (locs1 : List Loc), va_P D vwCl (m_W tI tZ h0 ad (s_set σ 0 0)) H1 → H.size ≤ H1.size → (∀ q : Nat, q < H.size → ¬ m_A h0 ad q → H1[q]? = H[q]?) → va_S A0 H0 H1 locs1 → W p l e R s m args below meth c H1 locs1 cells slots Q (F0 m (pc + 3) ls (.int (x_held (σ.2 14) 6) :: rest))) : W p l e R s m args below meth c H locs cells slots Q (F0 m pc ls (.ref h0 :: rest)) :=
  u_call (va_runV (As := []) (rest := rest) S (c_X1_held l D tI tZ tL h0 ad σ  hn) (cwV 0 S.2.2.2.2 hG rfl rfl rfl (by decide +kernel) hR) (m_pre hK hP) rfl rfl hsz rfl (lv_room hrm) hdg hcap) hS hA hA kk

set_option maxHeartbeats 4000000 in
set_option maxRecDepth 100000 in
theorem c_X1_due (l : Launch) (D : va_G) (tI tZ tL : ClassId) (h0 : Nat) (ad : Nat → Nat) (σ : ST) (np : Nat) (hnp : σ.1 2 = nI np) (hn8 : np ≤ 8) (nr : Nat) (hnr : σ.1 7 = nI nr) (hn30 : nr ≤ 30)  (hn : (m_L h0 ad).Nodup) : Met l yX1_due wsX1_due ({ frames := 5, cells := 0, slots := 0, locals := 113 } : Room) (va_Pc ([.ref h0] : List Value) (m_B D tI tZ tL h0 ad σ)) (u_Q (some (.int (m_due σ.2 (σ.1 1) np nr))) (m_P D tI tZ h0 ad (s_set σ 0 0)) (m_A h0 ad)) 0 0 (m_A h0 ad) := by
  refine u_met (cc := cX1_due) (maxL := 1) (ret := (some .int)) (by decide) rfl (Nat.le_of_ble_eq_true rfl) ?_
  intro p e s m below meth c hx hb hml hr hts hown hlocks hB hS ls hl
  have hD : ∀ σ : ST, va_D (m_A h0 ad) (m_W tI tZ h0 ad σ) := fun σ => m_D σ hn (fun _ h => h)
  have hown : s.vm.findClass RX1 = some m.cls := hown
  obtain ⟨hP, hK⟩ := hB
  have hl : lv_has ls 1 [(0, .ref h0)] := hl
  have hin : ∀ w ∈ wsX10, w ∈ wsX1_due := in_X1_due
  have hl_thrown : ml_thrown ∈ wsX1_due := by decide +kernel
  have key : ∀ (H : Heap) (locs : List Loc), va_P D vwCl (m_W tI tZ h0 ad σ) H → va_S (m_A h0 ad) s.heap H locs → ∀ ls, lv_has ls 1 [(0, .ref h0)] → u_G p l e ({ frames := 5, cells := 0, slots := 0, locals := 113 } : Room) s m ([.ref h0] : List Value).toArray below meth c H locs (some (.int (m_due σ.2 (σ.1 1) np nr))) (m_P D tI tZ h0 ad (s_set σ 0 0)) (m_A h0 ad) (F0 m 0 ls []) := by
    intro H locs hP hS ls hl
    refine lv_aload_n hx hb dX1_due_0 rfl (lv_at hl 0 rfl) ?_
    refine lv_iconst (v := 0) hx hb dX1_due_1 (by decide) ?_
    refine mp_thrown hx hb hts hin hown hK hP (hD _) hS hl_thrown dX1_due_2 (fun H locs hP hS => ?_)
    refine lv_aload_n hx hb dX1_due_5 rfl (lv_at hl 0 rfl) ?_
    refine k_X1_dueSet D tI tZ tL h0 ad (s_set σ 0 0) np hnp hn8 nr hnr hn30 ⟨hx, hb, hml, hown, hts⟩ gX1_due_X1_dueSet ⟨Nat.le_of_ble_eq_true rfl, Nat.le_of_ble_eq_true rfl⟩ hl.1 ⟨Nat.zero_le _, Nat.zero_le _⟩ (Nat.le_of_ble_eq_true rfl) hK hP dX1_due_6 ?_
    exact u_iret hx hb hr hlocks hS (hP) (rfl) dX1_due_9
  exact key _ _ hP hS ls hl
theorem k_X1_due {p : Program} {l : Launch} {e : Env} {R : Room} {s : State} {m : MethodId} {args : Array Value} {below : List Frame} {meth : Method} {c : Code} {H : Heap} {locs : List Loc} {cells slots : Nat} {Q : State → Prop} {cc : ByteArray} {pc : Nat} {ls : Array Slot} {rest : List Value} {Ts : List Cond} (D : va_G) (tI tZ tL : ClassId) (h0 : Nat) (ad : Nat → Nat) (σ : ST) (np : Nat) (hnp : σ.1 2 = nI np) (hn8 : np ≤ 8) (nr : Nat) (hnr : σ.1 7 = nI nr) (hn30 : nr ≤ 30)  {A0 : Nat → Prop} {H0 : Heap} {own : String} {idx nL : Nat} (S : CallFix p m c cc nL s args Ts own) (hG : GoodIn Ts (wsV own idx RX1 yX1_due wsX1_due)) (hR : ({ frames := 5, cells := 0, slots := 0, locals := 113 } : Room).frames + 1 ≤ R.frames ∧ 8 + (1 + 11) + ({ frames := 5, cells := 0, slots := 0, locals := 113 } : Room).locals ≤ R.locals) (hsz : ls.size = nL) (hcap : cells ≤ R.cells ∧ slots ≤ R.slots) (hrm : (rest.map fun v => v.category).sum ≤ 8) (hn : (m_L h0 ad).Nodup) (hK : va_K D vwCl (kTY tI tZ tL) s) (hP : va_P D vwCl (m_W tI tZ h0 ad σ) H) (hS : va_S A0 H0 H locs) (hA : ∀ q, m_A h0 ad q → A0 q) (hdg : decode cc pc = .ok (.invokevirtual idx, 3)) (kk : ∀ (H1 : Heap) (locs1 : List Loc), va_P D vwCl (m_W tI tZ h0 ad (s_set σ 0 0)) H1 → H.size ≤ H1.size → (∀ q : Nat, q < H.size → ¬ m_A h0 ad q → H1[q]? = H[q]?) → va_S A0 H0 H1 locs1 → W p l e R s m args below meth c H1 locs1 cells slots Q (F0 m (pc + 3) ls (.int (m_due σ.2 (σ.1 1) np nr) :: rest))) : W p l e R s m args below meth c H locs cells slots Q (F0 m pc ls (.ref h0 :: rest)) :=
  u_call (va_runV (As := []) (rest := rest) S (c_X1_due l D tI tZ tL h0 ad σ np hnp hn8 nr hnr hn30 hn) (cwV 0 S.2.2.2.2 hG rfl rfl rfl (by decide +kernel) hR) (m_pre hK hP) rfl rfl hsz rfl (lv_room hrm) hdg hcap) hS hA hA kk

set_option maxHeartbeats 4000000 in
set_option maxRecDepth 100000 in
theorem c_X1_thrown (l : Launch) (D : va_G) (tI tZ tL : ClassId) (h0 : Nat) (ad : Nat → Nat) (σ : ST)  (hn : (m_L h0 ad).Nodup) : Met l yX1_thrown wsX1_thrown ({ frames := 0, cells := 0, slots := 0, locals := 0 } : Room) (va_Pc ([.ref h0] : List Value) (m_B D tI tZ tL h0 ad σ)) (u_Q (some (.int (σ.1 0))) (m_P D tI tZ h0 ad σ) (m_A h0 ad)) 0 0 (m_A h0 ad) := by
  refine u_met (cc := cX1_thrown) (maxL := 1) (ret := (some .int)) (by decide) rfl (Nat.le_of_ble_eq_true rfl) ?_
  intro p e s m below meth c hx hb hml hr hts hown hlocks hB hS ls hl
  have hD : ∀ σ : ST, va_D (m_A h0 ad) (m_W tI tZ h0 ad σ) := fun σ => m_D σ hn (fun _ h => h)
  have hown : s.vm.findClass RX1 = some m.cls := hown
  obtain ⟨hP, hK⟩ := hB
  have hl : lv_has ls 1 [(0, .ref h0)] := hl
  have hin : ∀ w ∈ wsX10, w ∈ wsX1_thrown := in_X1_thrown
  have hl_thrown : ml_thrown ∈ wsX1_thrown := by decide +kernel
  have key : ∀ (H : Heap) (locs : List Loc), va_P D vwCl (m_W tI tZ h0 ad σ) H → va_S (m_A h0 ad) s.heap H locs → ∀ ls, lv_has ls 1 [(0, .ref h0)] → u_G p l e ({ frames := 0, cells := 0, slots := 0, locals := 0 } : Room) s m ([.ref h0] : List Value).toArray below meth c H locs (some (.int (σ.1 0))) (m_P D tI tZ h0 ad σ) (m_A h0 ad) (F0 m 0 ls []) := by
    intro H locs hP hS ls hl
    refine lv_aload_n hx hb dX1_thrown_0 rfl (lv_at hl 0 rfl) ?_
    refine mg_thrown hx hb hts hin hown hK hP hl_thrown dX1_thrown_1 ?_
    exact u_iret hx hb hr hlocks hS (hP) (rfl) dX1_thrown_4
  exact key _ _ hP hS ls hl
theorem k_X1_thrown {p : Program} {l : Launch} {e : Env} {R : Room} {s : State} {m : MethodId} {args : Array Value} {below : List Frame} {meth : Method} {c : Code} {H : Heap} {locs : List Loc} {cells slots : Nat} {Q : State → Prop} {cc : ByteArray} {pc : Nat} {ls : Array Slot} {rest : List Value} {Ts : List Cond} (D : va_G) (tI tZ tL : ClassId) (h0 : Nat) (ad : Nat → Nat) (σ : ST)  {A0 : Nat → Prop} {H0 : Heap} {own : String} {idx nL : Nat} (S : CallFix p m c cc nL s args Ts own) (hG : GoodIn Ts (wsV own idx RX1 yX1_thrown wsX1_thrown)) (hR : ({ frames := 0, cells := 0, slots := 0, locals := 0 } : Room).frames + 1 ≤ R.frames ∧ 8 + (1 + 11) + ({ frames := 0, cells := 0, slots := 0, locals := 0 } : Room).locals ≤ R.locals) (hsz : ls.size = nL) (hcap : cells ≤ R.cells ∧ slots ≤ R.slots) (hrm : (rest.map fun v => v.category).sum ≤ 8) (hn : (m_L h0 ad).Nodup) (hK : va_K D vwCl (kTY tI tZ tL) s) (hP : va_P D vwCl (m_W tI tZ h0 ad σ) H) (hS : va_S A0 H0 H locs) (hA : ∀ q, m_A h0 ad q → A0 q) (hdg : decode cc pc = .ok (.invokevirtual idx, 3)) (kk : ∀ (H1 : Heap) (locs1 : List Loc), va_P D vwCl (m_W tI tZ h0 ad σ) H1 → H.size ≤ H1.size → (∀ q : Nat, q < H.size → ¬ m_A h0 ad q → H1[q]? = H[q]?) → va_S A0 H0 H1 locs1 → W p l e R s m args below meth c H1 locs1 cells slots Q (F0 m (pc + 3) ls (.int (σ.1 0) :: rest))) : W p l e R s m args below meth c H locs cells slots Q (F0 m pc ls (.ref h0 :: rest)) :=
  u_call (va_runV (As := []) (rest := rest) S (c_X1_thrown l D tI tZ tL h0 ad σ  hn) (cwV 0 S.2.2.2.2 hG rfl rfl rfl (by decide +kernel) hR) (m_pre hK hP) rfl rfl hsz rfl (lv_room hrm) hdg hcap) hS hA hA kk

set_option maxHeartbeats 4000000 in
set_option maxRecDepth 100000 in
theorem c_X1_consents_f (l : Launch) (D : va_G) (tI tZ tL : ClassId) (h0 : Nat) (ad : Nat → Nat) (σ : ST) (v : Int32) (hbad : m_in v 0 11 = false) (hn : (m_L h0 ad).Nodup) : Met l yX1_consents wsX1_consents ({ frames := 2, cells := 0, slots := 0, locals := 42 } : Room) (va_Pc ([.ref h0, .int v] : List Value) (m_B D tI tZ tL h0 ad σ)) (u_Q (some (.int 0)) (m_P D tI tZ h0 ad (s_set (s_set σ 0 0) 0 1)) (m_A h0 ad)) 0 0 (m_A h0 ad) := by
  refine u_met (cc := cX1_consents) (maxL := 2) (ret := (some .int)) (by decide) rfl (Nat.le_of_ble_eq_true rfl) ?_
  intro p e s m below meth c hx hb hml hr hts hown hlocks hB hS ls hl
  have hD : ∀ σ : ST, va_D (m_A h0 ad) (m_W tI tZ h0 ad σ) := fun σ => m_D σ hn (fun _ h => h)
  have hown : s.vm.findClass RX1 = some m.cls := hown
  obtain ⟨hP, hK⟩ := hB
  have hl : lv_has ls 2 [(0, .ref h0), (1, .int v)] := hl
  have hin : ∀ w ∈ wsX10, w ∈ wsX1_consents := in_X1_consents
  have hl_thrown : ml_thrown ∈ wsX1_consents := by decide +kernel
  have key : ∀ (H : Heap) (locs : List Loc), va_P D vwCl (m_W tI tZ h0 ad σ) H → va_S (m_A h0 ad) s.heap H locs → ∀ ls, lv_has ls 2 [(0, .ref h0), (1, .int v)] → u_G p l e ({ frames := 2, cells := 0, slots := 0, locals := 42 } : Room) s m ([.ref h0, .int v] : List Value).toArray below meth c H locs (some (.int 0)) (m_P D tI tZ h0 ad (s_set (s_set σ 0 0) 0 1)) (m_A h0 ad) (F0 m 0 ls []) := by
    intro H locs hP hS ls hl
    refine lv_aload_n hx hb dX1_consents_0 rfl (lv_at hl 0 rfl) ?_
    refine lv_iconst (v := 0) hx hb dX1_consents_1 (by decide) ?_
    refine mp_thrown hx hb hts hin hown hK hP (hD _) hS hl_thrown dX1_consents_2 (fun H locs hP hS => ?_)
    refine lv_iload_n hx hb dX1_consents_5 rfl (lv_at hl 1 rfl) ?_
    refine k_X1_isSubject v ⟨hx, hb, hml, hown, hts⟩ gX1_consents_X1_isSubject ⟨Nat.le_of_ble_eq_true rfl, Nat.le_of_ble_eq_true rfl⟩ hl.1 ⟨Nat.zero_le _, Nat.zero_le _⟩ (Nat.le_of_ble_eq_true rfl) dX1_consents_6 ?_
    refine lv_ifeq_b (tgt := 21) hx hb dX1_consents_9 (by decide) (fun c9 => ?_) (fun c9 => absurd c9 (by first | exact ne_t hbad | exact ne_f hbad))
    refine lv_aload_n hx hb dX1_consents_21 rfl (lv_at hl 0 rfl) ?_
    refine lv_iconst (v := 1) hx hb dX1_consents_22 (by decide) ?_
    refine k_X1_fails D tI tZ tL h0 ad (s_set σ 0 0) 1 ⟨hx, hb, hml, hown, hts⟩ gX1_consents_X1_fails ⟨Nat.le_of_ble_eq_true rfl, Nat.le_of_ble_eq_true rfl⟩ hl.1 ⟨Nat.zero_le _, Nat.zero_le _⟩ (Nat.le_of_ble_eq_true rfl) hn hK hP hS (fun q h => h) dX1_consents_23 (fun H locs hP _ _ hS => ?_)
    exact u_iret hx hb hr hlocks hS (hP) (rfl) dX1_consents_26
  exact key _ _ hP hS ls hl
theorem k_X1_consents_f {p : Program} {l : Launch} {e : Env} {R : Room} {s : State} {m : MethodId} {args : Array Value} {below : List Frame} {meth : Method} {c : Code} {H : Heap} {locs : List Loc} {cells slots : Nat} {Q : State → Prop} {cc : ByteArray} {pc : Nat} {ls : Array Slot} {rest : List Value} {Ts : List Cond} (D : va_G) (tI tZ tL : ClassId) (h0 : Nat) (ad : Nat → Nat) (σ : ST) (v : Int32) (hbad : m_in v 0 11 = false) {A0 : Nat → Prop} {H0 : Heap} {own : String} {idx nL : Nat} (S : CallFix p m c cc nL s args Ts own) (hG : GoodIn Ts (wsV own idx RX1 yX1_consents wsX1_consents)) (hR : ({ frames := 2, cells := 0, slots := 0, locals := 42 } : Room).frames + 1 ≤ R.frames ∧ 8 + (2 + 11) + ({ frames := 2, cells := 0, slots := 0, locals := 42 } : Room).locals ≤ R.locals) (hsz : ls.size = nL) (hcap : cells ≤ R.cells ∧ slots ≤ R.slots) (hrm : (rest.map fun v => v.category).sum ≤ 8) (hn : (m_L h0 ad).Nodup) (hK : va_K D vwCl (kTY tI tZ tL) s) (hP : va_P D vwCl (m_W tI tZ h0 ad σ) H) (hS : va_S A0 H0 H locs) (hA : ∀ q, m_A h0 ad q → A0 q) (hdg : decode cc pc = .ok (.invokevirtual idx, 3)) (kk : ∀ (H1 : Heap) (locs1 : List Loc), va_P D vwCl (m_W tI tZ h0 ad (s_set (s_set σ 0 0) 0 1)) H1 → H.size ≤ H1.size → (∀ q : Nat, q < H.size → ¬ m_A h0 ad q → H1[q]? = H[q]?) → va_S A0 H0 H1 locs1 → W p l e R s m args below meth c H1 locs1 cells slots Q (F0 m (pc + 3) ls (.int 0 :: rest))) : W p l e R s m args below meth c H locs cells slots Q (F0 m pc ls (.int v :: .ref h0 :: rest)) :=
  u_call (va_runV (As := [.int v]) (rest := rest) S (c_X1_consents_f l D tI tZ tL h0 ad σ v hbad hn) (cwV 1 S.2.2.2.2 hG rfl rfl rfl (by decide +kernel) hR) (m_pre hK hP) rfl rfl hsz rfl (lv_room hrm) hdg hcap) hS hA hA kk

set_option maxHeartbeats 4000000 in
set_option maxRecDepth 100000 in
theorem c_X1_traces_f (l : Launch) (D : va_G) (tI tZ tL : ClassId) (h0 : Nat) (ad : Nat → Nat) (σ : ST) (v : Int32) (hbad : m_in v 0 11 = false) (hn : (m_L h0 ad).Nodup) : Met l yX1_traces wsX1_traces ({ frames := 2, cells := 0, slots := 0, locals := 42 } : Room) (va_Pc ([.ref h0, .int v] : List Value) (m_B D tI tZ tL h0 ad σ)) (u_Q (some (.int 0)) (m_P D tI tZ h0 ad (s_set (s_set σ 0 0) 0 1)) (m_A h0 ad)) 0 0 (m_A h0 ad) := by
  refine u_met (cc := cX1_traces) (maxL := 2) (ret := (some .int)) (by decide) rfl (Nat.le_of_ble_eq_true rfl) ?_
  intro p e s m below meth c hx hb hml hr hts hown hlocks hB hS ls hl
  have hD : ∀ σ : ST, va_D (m_A h0 ad) (m_W tI tZ h0 ad σ) := fun σ => m_D σ hn (fun _ h => h)
  have hown : s.vm.findClass RX1 = some m.cls := hown
  obtain ⟨hP, hK⟩ := hB
  have hl : lv_has ls 2 [(0, .ref h0), (1, .int v)] := hl
  have hin : ∀ w ∈ wsX10, w ∈ wsX1_traces := in_X1_traces
  have hl_thrown : ml_thrown ∈ wsX1_traces := by decide +kernel
  have key : ∀ (H : Heap) (locs : List Loc), va_P D vwCl (m_W tI tZ h0 ad σ) H → va_S (m_A h0 ad) s.heap H locs → ∀ ls, lv_has ls 2 [(0, .ref h0), (1, .int v)] → u_G p l e ({ frames := 2, cells := 0, slots := 0, locals := 42 } : Room) s m ([.ref h0, .int v] : List Value).toArray below meth c H locs (some (.int 0)) (m_P D tI tZ h0 ad (s_set (s_set σ 0 0) 0 1)) (m_A h0 ad) (F0 m 0 ls []) := by
    intro H locs hP hS ls hl
    refine lv_aload_n hx hb dX1_traces_0 rfl (lv_at hl 0 rfl) ?_
    refine lv_iconst (v := 0) hx hb dX1_traces_1 (by decide) ?_
    refine mp_thrown hx hb hts hin hown hK hP (hD _) hS hl_thrown dX1_traces_2 (fun H locs hP hS => ?_)
    refine lv_iload_n hx hb dX1_traces_5 rfl (lv_at hl 1 rfl) ?_
    refine k_X1_isSubject v ⟨hx, hb, hml, hown, hts⟩ gX1_traces_X1_isSubject ⟨Nat.le_of_ble_eq_true rfl, Nat.le_of_ble_eq_true rfl⟩ hl.1 ⟨Nat.zero_le _, Nat.zero_le _⟩ (Nat.le_of_ble_eq_true rfl) dX1_traces_6 ?_
    refine lv_ifeq_b (tgt := 20) hx hb dX1_traces_9 (by decide) (fun c9 => ?_) (fun c9 => absurd c9 (by first | exact ne_t hbad | exact ne_f hbad))
    refine lv_aload_n hx hb dX1_traces_20 rfl (lv_at hl 0 rfl) ?_
    refine lv_iconst (v := 1) hx hb dX1_traces_21 (by decide) ?_
    refine k_X1_fails D tI tZ tL h0 ad (s_set σ 0 0) 1 ⟨hx, hb, hml, hown, hts⟩ gX1_traces_X1_fails ⟨Nat.le_of_ble_eq_true rfl, Nat.le_of_ble_eq_true rfl⟩ hl.1 ⟨Nat.zero_le _, Nat.zero_le _⟩ (Nat.le_of_ble_eq_true rfl) hn hK hP hS (fun q h => h) dX1_traces_22 (fun H locs hP _ _ hS => ?_)
    exact u_iret hx hb hr hlocks hS (hP) (rfl) dX1_traces_25
  exact key _ _ hP hS ls hl
theorem k_X1_traces_f {p : Program} {l : Launch} {e : Env} {R : Room} {s : State} {m : MethodId} {args : Array Value} {below : List Frame} {meth : Method} {c : Code} {H : Heap} {locs : List Loc} {cells slots : Nat} {Q : State → Prop} {cc : ByteArray} {pc : Nat} {ls : Array Slot} {rest : List Value} {Ts : List Cond} (D : va_G) (tI tZ tL : ClassId) (h0 : Nat) (ad : Nat → Nat) (σ : ST) (v : Int32) (hbad : m_in v 0 11 = false) {A0 : Nat → Prop} {H0 : Heap} {own : String} {idx nL : Nat} (S : CallFix p m c cc nL s args Ts own) (hG : GoodIn Ts (wsV own idx RX1 yX1_traces wsX1_traces)) (hR : ({ frames := 2, cells := 0, slots := 0, locals := 42 } : Room).frames + 1 ≤ R.frames ∧ 8 + (2 + 11) + ({ frames := 2, cells := 0, slots := 0, locals := 42 } : Room).locals ≤ R.locals) (hsz : ls.size = nL) (hcap : cells ≤ R.cells ∧ slots ≤ R.slots) (hrm : (rest.map fun v => v.category).sum ≤ 8) (hn : (m_L h0 ad).Nodup) (hK : va_K D vwCl (kTY tI tZ tL) s) (hP : va_P D vwCl (m_W tI tZ h0 ad σ) H) (hS : va_S A0 H0 H locs) (hA : ∀ q, m_A h0 ad q → A0 q) (hdg : decode cc pc = .ok (.invokevirtual idx, 3)) (kk : ∀ (H1 : Heap) (locs1 : List Loc), va_P D vwCl (m_W tI tZ h0 ad (s_set (s_set σ 0 0) 0 1)) H1 → H.size ≤ H1.size → (∀ q : Nat, q < H.size → ¬ m_A h0 ad q → H1[q]? = H[q]?) → va_S A0 H0 H1 locs1 → W p l e R s m args below meth c H1 locs1 cells slots Q (F0 m (pc + 3) ls (.int 0 :: rest))) : W p l e R s m args below meth c H locs cells slots Q (F0 m pc ls (.int v :: .ref h0 :: rest)) :=
  u_call (va_runV (As := [.int v]) (rest := rest) S (c_X1_traces_f l D tI tZ tL h0 ad σ v hbad hn) (cwV 1 S.2.2.2.2 hG rfl rfl rfl (by decide +kernel) hR) (m_pre hK hP) rfl rfl hsz rfl (lv_room hrm) hdg hcap) hS hA hA kk

set_option maxHeartbeats 4000000 in
set_option maxRecDepth 100000 in
theorem c_X1_tracesFromRoots_f (l : Launch) (D : va_G) (tI tZ tL : ClassId) (h0 : Nat) (ad : Nat → Nat) (σ : ST) (v : Int32) (hbad : m_in v 0 11 = false) (hn : (m_L h0 ad).Nodup) : Met l yX1_tracesFromRoots wsX1_tracesFromRoots ({ frames := 2, cells := 0, slots := 0, locals := 42 } : Room) (va_Pc ([.ref h0, .int v] : List Value) (m_B D tI tZ tL h0 ad σ)) (u_Q (some (.int 0)) (m_P D tI tZ h0 ad (s_set (s_set σ 0 0) 0 1)) (m_A h0 ad)) 0 0 (m_A h0 ad) := by
  refine u_met (cc := cX1_tracesFromRoots) (maxL := 2) (ret := (some .int)) (by decide) rfl (Nat.le_of_ble_eq_true rfl) ?_
  intro p e s m below meth c hx hb hml hr hts hown hlocks hB hS ls hl
  have hD : ∀ σ : ST, va_D (m_A h0 ad) (m_W tI tZ h0 ad σ) := fun σ => m_D σ hn (fun _ h => h)
  have hown : s.vm.findClass RX1 = some m.cls := hown
  obtain ⟨hP, hK⟩ := hB
  have hl : lv_has ls 2 [(0, .ref h0), (1, .int v)] := hl
  have hin : ∀ w ∈ wsX10, w ∈ wsX1_tracesFromRoots := in_X1_tracesFromRoots
  have hl_thrown : ml_thrown ∈ wsX1_tracesFromRoots := by decide +kernel
  have key : ∀ (H : Heap) (locs : List Loc), va_P D vwCl (m_W tI tZ h0 ad σ) H → va_S (m_A h0 ad) s.heap H locs → ∀ ls, lv_has ls 2 [(0, .ref h0), (1, .int v)] → u_G p l e ({ frames := 2, cells := 0, slots := 0, locals := 42 } : Room) s m ([.ref h0, .int v] : List Value).toArray below meth c H locs (some (.int 0)) (m_P D tI tZ h0 ad (s_set (s_set σ 0 0) 0 1)) (m_A h0 ad) (F0 m 0 ls []) := by
    intro H locs hP hS ls hl
    refine lv_aload_n hx hb dX1_tracesFromRoots_0 rfl (lv_at hl 0 rfl) ?_
    refine lv_iconst (v := 0) hx hb dX1_tracesFromRoots_1 (by decide) ?_
    refine mp_thrown hx hb hts hin hown hK hP (hD _) hS hl_thrown dX1_tracesFromRoots_2 (fun H locs hP hS => ?_)
    refine lv_iload_n hx hb dX1_tracesFromRoots_5 rfl (lv_at hl 1 rfl) ?_
    refine k_X1_isSubject v ⟨hx, hb, hml, hown, hts⟩ gX1_tracesFromRoots_X1_isSubject ⟨Nat.le_of_ble_eq_true rfl, Nat.le_of_ble_eq_true rfl⟩ hl.1 ⟨Nat.zero_le _, Nat.zero_le _⟩ (Nat.le_of_ble_eq_true rfl) dX1_tracesFromRoots_6 ?_
    refine lv_ifeq_b (tgt := 20) hx hb dX1_tracesFromRoots_9 (by decide) (fun c9 => ?_) (fun c9 => absurd c9 (by first | exact ne_t hbad | exact ne_f hbad))
    refine lv_aload_n hx hb dX1_tracesFromRoots_20 rfl (lv_at hl 0 rfl) ?_
    refine lv_iconst (v := 1) hx hb dX1_tracesFromRoots_21 (by decide) ?_
    refine k_X1_fails D tI tZ tL h0 ad (s_set σ 0 0) 1 ⟨hx, hb, hml, hown, hts⟩ gX1_tracesFromRoots_X1_fails ⟨Nat.le_of_ble_eq_true rfl, Nat.le_of_ble_eq_true rfl⟩ hl.1 ⟨Nat.zero_le _, Nat.zero_le _⟩ (Nat.le_of_ble_eq_true rfl) hn hK hP hS (fun q h => h) dX1_tracesFromRoots_22 (fun H locs hP _ _ hS => ?_)
    exact u_iret hx hb hr hlocks hS (hP) (rfl) dX1_tracesFromRoots_25
  exact key _ _ hP hS ls hl
theorem k_X1_tracesFromRoots_f {p : Program} {l : Launch} {e : Env} {R : Room} {s : State} {m : MethodId} {args : Array Value} {below : List Frame} {meth : Method} {c : Code} {H : Heap} {locs : List Loc} {cells slots : Nat} {Q : State → Prop} {cc : ByteArray} {pc : Nat} {ls : Array Slot} {rest : List Value} {Ts : List Cond} (D : va_G) (tI tZ tL : ClassId) (h0 : Nat) (ad : Nat → Nat) (σ : ST) (v : Int32) (hbad : m_in v 0 11 = false) {A0 : Nat → Prop} {H0 : Heap} {own : String} {idx nL : Nat} (S : CallFix p m c cc nL s args Ts own) (hG : GoodIn Ts (wsV own idx RX1 yX1_tracesFromRoots wsX1_tracesFromRoots)) (hR : ({ frames := 2, cells := 0, slots := 0, locals := 42 } : Room).frames + 1 ≤ R.frames ∧ 8 + (2 + 11) + ({ frames := 2, cells := 0, slots := 0, locals := 42 } : Room).locals ≤ R.locals) (hsz : ls.size = nL) (hcap : cells ≤ R.cells ∧ slots ≤ R.slots) (hrm : (rest.map fun v => v.category).sum ≤ 8) (hn : (m_L h0 ad).Nodup) (hK : va_K D vwCl (kTY tI tZ tL) s) (hP : va_P D vwCl (m_W tI tZ h0 ad σ) H) (hS : va_S A0 H0 H locs) (hA : ∀ q, m_A h0 ad q → A0 q) (hdg : decode cc pc = .ok (.invokevirtual idx, 3)) (kk : ∀ (H1 : Heap) (locs1 : List Loc), va_P D vwCl (m_W tI tZ h0 ad (s_set (s_set σ 0 0) 0 1)) H1 → H.size ≤ H1.size → (∀ q : Nat, q < H.size → ¬ m_A h0 ad q → H1[q]? = H[q]?) → va_S A0 H0 H1 locs1 → W p l e R s m args below meth c H1 locs1 cells slots Q (F0 m (pc + 3) ls (.int 0 :: rest))) : W p l e R s m args below meth c H locs cells slots Q (F0 m pc ls (.int v :: .ref h0 :: rest)) :=
  u_call (va_runV (As := [.int v]) (rest := rest) S (c_X1_tracesFromRoots_f l D tI tZ tL h0 ad σ v hbad hn) (cwV 1 S.2.2.2.2 hG rfl rfl rfl (by decide +kernel) hR) (m_pre hK hP) rfl rfl hsz rfl (lv_room hrm) hdg hcap) hS hA hA kk

set_option maxHeartbeats 4000000 in
set_option maxRecDepth 100000 in
theorem c_X1_request_f (l : Launch) (D : va_G) (tI tZ tL : ClassId) (h0 : Nat) (ad : Nat → Nat) (σ : ST) (v : Int32) (hbad : m_in v 0 11 = false) (hn : (m_L h0 ad).Nodup) : Met l yX1_request wsX1_request ({ frames := 2, cells := 0, slots := 0, locals := 42 } : Room) (va_Pc ([.ref h0, .int v] : List Value) (m_B D tI tZ tL h0 ad σ)) (u_Q (some (.int 0)) (m_P D tI tZ h0 ad (s_set (s_set σ 0 0) 0 1)) (m_A h0 ad)) 0 0 (m_A h0 ad) := by
  refine u_met (cc := cX1_request) (maxL := 4) (ret := (some .int)) (by decide) rfl (Nat.le_of_ble_eq_true rfl) ?_
  intro p e s m below meth c hx hb hml hr hts hown hlocks hB hS ls hl
  have hD : ∀ σ : ST, va_D (m_A h0 ad) (m_W tI tZ h0 ad σ) := fun σ => m_D σ hn (fun _ h => h)
  have hown : s.vm.findClass RX1 = some m.cls := hown
  obtain ⟨hP, hK⟩ := hB
  have hl : lv_has ls 4 [(0, .ref h0), (1, .int v)] := hl
  have hin : ∀ w ∈ wsX10, w ∈ wsX1_request := in_X1_request
  have hl_thrown : ml_thrown ∈ wsX1_request := by decide +kernel
  have key : ∀ (H : Heap) (locs : List Loc), va_P D vwCl (m_W tI tZ h0 ad σ) H → va_S (m_A h0 ad) s.heap H locs → ∀ ls, lv_has ls 4 [(0, .ref h0), (1, .int v)] → u_G p l e ({ frames := 2, cells := 0, slots := 0, locals := 42 } : Room) s m ([.ref h0, .int v] : List Value).toArray below meth c H locs (some (.int 0)) (m_P D tI tZ h0 ad (s_set (s_set σ 0 0) 0 1)) (m_A h0 ad) (F0 m 0 ls []) := by
    intro H locs hP hS ls hl
    refine lv_aload_n hx hb dX1_request_0 rfl (lv_at hl 0 rfl) ?_
    refine lv_iconst (v := 0) hx hb dX1_request_1 (by decide) ?_
    refine mp_thrown hx hb hts hin hown hK hP (hD _) hS hl_thrown dX1_request_2 (fun H locs hP hS => ?_)
    refine lv_iload_n hx hb dX1_request_5 rfl (lv_at hl 1 rfl) ?_
    refine k_X1_isSubject v ⟨hx, hb, hml, hown, hts⟩ gX1_request_X1_isSubject ⟨Nat.le_of_ble_eq_true rfl, Nat.le_of_ble_eq_true rfl⟩ hl.1 ⟨Nat.zero_le _, Nat.zero_le _⟩ (Nat.le_of_ble_eq_true rfl) dX1_request_6 ?_
    refine lv_ifne_b (tgt := 18) hx hb dX1_request_9 (by decide) (fun c9 => absurd c9 (by first | exact ne_t hbad | exact ne_f hbad)) (fun c9 => ?_)
    refine lv_aload_n hx hb dX1_request_12 rfl (lv_at hl 0 rfl) ?_
    refine lv_iconst (v := 1) hx hb dX1_request_13 (by decide) ?_
    refine k_X1_fails D tI tZ tL h0 ad (s_set σ 0 0) 1 ⟨hx, hb, hml, hown, hts⟩ gX1_request_X1_fails ⟨Nat.le_of_ble_eq_true rfl, Nat.le_of_ble_eq_true rfl⟩ hl.1 ⟨Nat.zero_le _, Nat.zero_le _⟩ (Nat.le_of_ble_eq_true rfl) hn hK hP hS (fun q h => h) dX1_request_14 (fun H locs hP _ _ hS => ?_)
    exact u_iret hx hb hr hlocks hS (hP) (rfl) dX1_request_17
  exact key _ _ hP hS ls hl
theorem k_X1_request_f {p : Program} {l : Launch} {e : Env} {R : Room} {s : State} {m : MethodId} {args : Array Value} {below : List Frame} {meth : Method} {c : Code} {H : Heap} {locs : List Loc} {cells slots : Nat} {Q : State → Prop} {cc : ByteArray} {pc : Nat} {ls : Array Slot} {rest : List Value} {Ts : List Cond} (D : va_G) (tI tZ tL : ClassId) (h0 : Nat) (ad : Nat → Nat) (σ : ST) (v : Int32) (hbad : m_in v 0 11 = false) {A0 : Nat → Prop} {H0 : Heap} {own : String} {idx nL : Nat} (S : CallFix p m c cc nL s args Ts own) (hG : GoodIn Ts (wsV own idx RX1 yX1_request wsX1_request)) (hR : ({ frames := 2, cells := 0, slots := 0, locals := 42 } : Room).frames + 1 ≤ R.frames ∧ 8 + (4 + 11) + ({ frames := 2, cells := 0, slots := 0, locals := 42 } : Room).locals ≤ R.locals) (hsz : ls.size = nL) (hcap : cells ≤ R.cells ∧ slots ≤ R.slots) (hrm : (rest.map fun v => v.category).sum ≤ 8) (hn : (m_L h0 ad).Nodup) (hK : va_K D vwCl (kTY tI tZ tL) s) (hP : va_P D vwCl (m_W tI tZ h0 ad σ) H) (hS : va_S A0 H0 H locs) (hA : ∀ q, m_A h0 ad q → A0 q) (hdg : decode cc pc = .ok (.invokevirtual idx, 3)) (kk : ∀ (H1 : Heap) (locs1 : List Loc), va_P D vwCl (m_W tI tZ h0 ad (s_set (s_set σ 0 0) 0 1)) H1 → H.size ≤ H1.size → (∀ q : Nat, q < H.size → ¬ m_A h0 ad q → H1[q]? = H[q]?) → va_S A0 H0 H1 locs1 → W p l e R s m args below meth c H1 locs1 cells slots Q (F0 m (pc + 3) ls (.int 0 :: rest))) : W p l e R s m args below meth c H locs cells slots Q (F0 m pc ls (.int v :: .ref h0 :: rest)) :=
  u_call (va_runV (As := [.int v]) (rest := rest) S (c_X1_request_f l D tI tZ tL h0 ad σ v hbad hn) (cwV 1 S.2.2.2.2 hG rfl rfl rfl (by decide +kernel) hR) (m_pre hK hP) rfl rfl hsz rfl (lv_room hrm) hdg hcap) hS hA hA kk

set_option maxHeartbeats 4000000 in
set_option maxRecDepth 100000 in
theorem c_X1_consents (l : Launch) (D : va_G) (tI tZ tL : ClassId) (h0 : Nat) (ad : Nat → Nat) (σ : ST) (j : Nat) (hj12 : j < 12)  (hn : (m_L h0 ad).Nodup) : Met l yX1_consents wsX1_consents ({ frames := 2, cells := 0, slots := 0, locals := 42 } : Room) (va_Pc ([.ref h0, .int (nI j)] : List Value) (m_B D tI tZ tL h0 ad σ)) (u_Q (some (.int (σ.2 5 j))) (m_P D tI tZ h0 ad (s_set σ 0 0)) (m_A h0 ad)) 0 0 (m_A h0 ad) := by
  refine u_met (cc := cX1_consents) (maxL := 2) (ret := (some .int)) (by decide) rfl (Nat.le_of_ble_eq_true rfl) ?_
  intro p e s m below meth c hx hb hml hr hts hown hlocks hB hS ls hl
  have hD : ∀ σ : ST, va_D (m_A h0 ad) (m_W tI tZ h0 ad σ) := fun σ => m_D σ hn (fun _ h => h)
  have hown : s.vm.findClass RX1 = some m.cls := hown
  obtain ⟨hP, hK⟩ := hB
  have hl : lv_has ls 2 [(0, .ref h0), (1, .int (nI j))] := hl
  have hin : ∀ w ∈ wsX10, w ∈ wsX1_consents := in_X1_consents
  have hl_consented : ml_consented ∈ wsX1_consents := by decide +kernel
  have hl_thrown : ml_thrown ∈ wsX1_consents := by decide +kernel
  have key : ∀ (H : Heap) (locs : List Loc), va_P D vwCl (m_W tI tZ h0 ad σ) H → va_S (m_A h0 ad) s.heap H locs → ∀ ls, lv_has ls 2 [(0, .ref h0), (1, .int (nI j))] → u_G p l e ({ frames := 2, cells := 0, slots := 0, locals := 42 } : Room) s m ([.ref h0, .int (nI j)] : List Value).toArray below meth c H locs (some (.int (σ.2 5 j))) (m_P D tI tZ h0 ad (s_set σ 0 0)) (m_A h0 ad) (F0 m 0 ls []) := by
    intro H locs hP hS ls hl
    refine lv_aload_n hx hb dX1_consents_0 rfl (lv_at hl 0 rfl) ?_
    refine lv_iconst (v := 0) hx hb dX1_consents_1 (by decide) ?_
    refine mp_thrown hx hb hts hin hown hK hP (hD _) hS hl_thrown dX1_consents_2 (fun H locs hP hS => ?_)
    refine lv_iload_n hx hb dX1_consents_5 rfl (lv_at hl 1 rfl) ?_
    refine k_X1_isSubject (nI j) ⟨hx, hb, hml, hown, hts⟩ gX1_consents_X1_isSubject ⟨Nat.le_of_ble_eq_true rfl, Nat.le_of_ble_eq_true rfl⟩ hl.1 ⟨Nat.zero_le _, Nat.zero_le _⟩ (Nat.le_of_ble_eq_true rfl) dX1_consents_6 ?_
    refine lv_ifeq_b (tgt := 21) hx hb dX1_consents_9 (by decide) (fun c9 => absurd c9 (ne_f (m_in_t (n := 12) (by decide) hj12 (by decide)))) (fun c9 => ?_)
    refine lv_aload_n hx hb dX1_consents_12 rfl (lv_at hl 0 rfl) ?_
    refine mg_consented hx hb hts hin hown hK hP hl_consented dX1_consents_13 ?_
    refine lv_iload_n hx hb dX1_consents_16 rfl (lv_at hl 1 rfl) ?_
    refine mr_consented (j := j) hx hb hK hP (by omega) dX1_consents_17 ?_
    refine lv_goto (tgt := 26) hx hb dX1_consents_18 (by decide) ?_
    exact u_iret hx hb hr hlocks hS (hP) (rfl) dX1_consents_26
  exact key _ _ hP hS ls hl
theorem k_X1_consents {p : Program} {l : Launch} {e : Env} {R : Room} {s : State} {m : MethodId} {args : Array Value} {below : List Frame} {meth : Method} {c : Code} {H : Heap} {locs : List Loc} {cells slots : Nat} {Q : State → Prop} {cc : ByteArray} {pc : Nat} {ls : Array Slot} {rest : List Value} {Ts : List Cond} (D : va_G) (tI tZ tL : ClassId) (h0 : Nat) (ad : Nat → Nat) (σ : ST) (j : Nat) (hj12 : j < 12)  {A0 : Nat → Prop} {H0 : Heap} {own : String} {idx nL : Nat} (S : CallFix p m c cc nL s args Ts own) (hG : GoodIn Ts (wsV own idx RX1 yX1_consents wsX1_consents)) (hR : ({ frames := 2, cells := 0, slots := 0, locals := 42 } : Room).frames + 1 ≤ R.frames ∧ 8 + (2 + 11) + ({ frames := 2, cells := 0, slots := 0, locals := 42 } : Room).locals ≤ R.locals) (hsz : ls.size = nL) (hcap : cells ≤ R.cells ∧ slots ≤ R.slots) (hrm : (rest.map fun v => v.category).sum ≤ 8) (hn : (m_L h0 ad).Nodup) (hK : va_K D vwCl (kTY tI tZ tL) s) (hP : va_P D vwCl (m_W tI tZ h0 ad σ) H) (hS : va_S A0 H0 H locs) (hA : ∀ q, m_A h0 ad q → A0 q) (hdg : decode cc pc = .ok (.invokevirtual idx, 3)) (kk : ∀ (H1 : Heap) (locs1 : List Loc), va_P D vwCl (m_W tI tZ h0 ad (s_set σ 0 0)) H1 → H.size ≤ H1.size → (∀ q : Nat, q < H.size → ¬ m_A h0 ad q → H1[q]? = H[q]?) → va_S A0 H0 H1 locs1 → W p l e R s m args below meth c H1 locs1 cells slots Q (F0 m (pc + 3) ls (.int (σ.2 5 j) :: rest))) : W p l e R s m args below meth c H locs cells slots Q (F0 m pc ls (.int (nI j) :: .ref h0 :: rest)) :=
  u_call (va_runV (As := [.int (nI j)]) (rest := rest) S (c_X1_consents l D tI tZ tL h0 ad σ j hj12 hn) (cwV 1 S.2.2.2.2 hG rfl rfl rfl (by decide +kernel) hR) (m_pre hK hP) rfl rfl hsz rfl (lv_room hrm) hdg hcap) hS hA hA kk

set_option maxHeartbeats 4000000 in
set_option maxRecDepth 100000 in
theorem c_X1_traces (l : Launch) (D : va_G) (tI tZ tL : ClassId) (h0 : Nat) (ad : Nat → Nat) (σ : ST) (j : Nat) (hj12 : j < 12) (nr : Nat) (hnr : σ.1 7 = nI nr) (hn30 : nr ≤ 30)  (hn : (m_L h0 ad).Nodup) : Met l yX1_traces wsX1_traces ({ frames := 4, cells := 0, slots := 0, locals := 91 } : Room) (va_Pc ([.ref h0, .int (nI j)] : List Value) (m_B D tI tZ tL h0 ad σ)) (u_Q (some (.int (m_trc σ.2 j nr))) (m_P D tI tZ h0 ad (s_set σ 0 0)) (m_A h0 ad)) 0 0 (m_A h0 ad) := by
  refine u_met (cc := cX1_traces) (maxL := 2) (ret := (some .int)) (by decide) rfl (Nat.le_of_ble_eq_true rfl) ?_
  intro p e s m below meth c hx hb hml hr hts hown hlocks hB hS ls hl
  have hD : ∀ σ : ST, va_D (m_A h0 ad) (m_W tI tZ h0 ad σ) := fun σ => m_D σ hn (fun _ h => h)
  have hown : s.vm.findClass RX1 = some m.cls := hown
  obtain ⟨hP, hK⟩ := hB
  have hl : lv_has ls 2 [(0, .ref h0), (1, .int (nI j))] := hl
  have hin : ∀ w ∈ wsX10, w ∈ wsX1_traces := in_X1_traces
  have hl_thrown : ml_thrown ∈ wsX1_traces := by decide +kernel
  have key : ∀ (H : Heap) (locs : List Loc), va_P D vwCl (m_W tI tZ h0 ad σ) H → va_S (m_A h0 ad) s.heap H locs → ∀ ls, lv_has ls 2 [(0, .ref h0), (1, .int (nI j))] → u_G p l e ({ frames := 4, cells := 0, slots := 0, locals := 91 } : Room) s m ([.ref h0, .int (nI j)] : List Value).toArray below meth c H locs (some (.int (m_trc σ.2 j nr))) (m_P D tI tZ h0 ad (s_set σ 0 0)) (m_A h0 ad) (F0 m 0 ls []) := by
    intro H locs hP hS ls hl
    refine lv_aload_n hx hb dX1_traces_0 rfl (lv_at hl 0 rfl) ?_
    refine lv_iconst (v := 0) hx hb dX1_traces_1 (by decide) ?_
    refine mp_thrown hx hb hts hin hown hK hP (hD _) hS hl_thrown dX1_traces_2 (fun H locs hP hS => ?_)
    refine lv_iload_n hx hb dX1_traces_5 rfl (lv_at hl 1 rfl) ?_
    refine k_X1_isSubject (nI j) ⟨hx, hb, hml, hown, hts⟩ gX1_traces_X1_isSubject ⟨Nat.le_of_ble_eq_true rfl, Nat.le_of_ble_eq_true rfl⟩ hl.1 ⟨Nat.zero_le _, Nat.zero_le _⟩ (Nat.le_of_ble_eq_true rfl) dX1_traces_6 ?_
    refine lv_ifeq_b (tgt := 20) hx hb dX1_traces_9 (by decide) (fun c9 => absurd c9 (ne_f (m_in_t (n := 12) (by decide) hj12 (by decide)))) (fun c9 => ?_)
    refine lv_aload_n hx hb dX1_traces_12 rfl (lv_at hl 0 rfl) ?_
    refine lv_iload_n hx hb dX1_traces_13 rfl (lv_at hl 1 rfl) ?_
    refine k_X1_tracesOf D tI tZ tL h0 ad (s_set σ 0 0) j hj12 nr hnr hn30 ⟨hx, hb, hml, hown, hts⟩ gX1_traces_X1_tracesOf ⟨Nat.le_of_ble_eq_true rfl, Nat.le_of_ble_eq_true rfl⟩ hl.1 ⟨Nat.zero_le _, Nat.zero_le _⟩ (Nat.le_of_ble_eq_true rfl) hK hP dX1_traces_14 ?_
    refine lv_goto (tgt := 25) hx hb dX1_traces_17 (by decide) ?_
    exact u_iret hx hb hr hlocks hS (hP) (rfl) dX1_traces_25
  exact key _ _ hP hS ls hl
theorem k_X1_traces {p : Program} {l : Launch} {e : Env} {R : Room} {s : State} {m : MethodId} {args : Array Value} {below : List Frame} {meth : Method} {c : Code} {H : Heap} {locs : List Loc} {cells slots : Nat} {Q : State → Prop} {cc : ByteArray} {pc : Nat} {ls : Array Slot} {rest : List Value} {Ts : List Cond} (D : va_G) (tI tZ tL : ClassId) (h0 : Nat) (ad : Nat → Nat) (σ : ST) (j : Nat) (hj12 : j < 12) (nr : Nat) (hnr : σ.1 7 = nI nr) (hn30 : nr ≤ 30)  {A0 : Nat → Prop} {H0 : Heap} {own : String} {idx nL : Nat} (S : CallFix p m c cc nL s args Ts own) (hG : GoodIn Ts (wsV own idx RX1 yX1_traces wsX1_traces)) (hR : ({ frames := 4, cells := 0, slots := 0, locals := 91 } : Room).frames + 1 ≤ R.frames ∧ 8 + (2 + 11) + ({ frames := 4, cells := 0, slots := 0, locals := 91 } : Room).locals ≤ R.locals) (hsz : ls.size = nL) (hcap : cells ≤ R.cells ∧ slots ≤ R.slots) (hrm : (rest.map fun v => v.category).sum ≤ 8) (hn : (m_L h0 ad).Nodup) (hK : va_K D vwCl (kTY tI tZ tL) s) (hP : va_P D vwCl (m_W tI tZ h0 ad σ) H) (hS : va_S A0 H0 H locs) (hA : ∀ q, m_A h0 ad q → A0 q) (hdg : decode cc pc = .ok (.invokevirtual idx, 3)) (kk : ∀ (H1 : Heap) (locs1 : List Loc), va_P D vwCl (m_W tI tZ h0 ad (s_set σ 0 0)) H1 → H.size ≤ H1.size → (∀ q : Nat, q < H.size → ¬ m_A h0 ad q → H1[q]? = H[q]?) → va_S A0 H0 H1 locs1 → W p l e R s m args below meth c H1 locs1 cells slots Q (F0 m (pc + 3) ls (.int (m_trc σ.2 j nr) :: rest))) : W p l e R s m args below meth c H locs cells slots Q (F0 m pc ls (.int (nI j) :: .ref h0 :: rest)) :=
  u_call (va_runV (As := [.int (nI j)]) (rest := rest) S (c_X1_traces l D tI tZ tL h0 ad σ j hj12 nr hnr hn30 hn) (cwV 1 S.2.2.2.2 hG rfl rfl rfl (by decide +kernel) hR) (m_pre hK hP) rfl rfl hsz rfl (lv_room hrm) hdg hcap) hS hA hA kk

set_option maxHeartbeats 4000000 in
set_option maxRecDepth 100000 in
theorem c_X1_tracesFromRoots (l : Launch) (D : va_G) (tI tZ tL : ClassId) (h0 : Nat) (ad : Nat → Nat) (σ : ST) (j : Nat) (hj12 : j < 12) (nr : Nat) (hnr : σ.1 7 = nI nr) (hn30 : nr ≤ 30)  (hn : (m_L h0 ad).Nodup) : Met l yX1_tracesFromRoots wsX1_tracesFromRoots ({ frames := 4, cells := 0, slots := 0, locals := 91 } : Room) (va_Pc ([.ref h0, .int (nI j)] : List Value) (m_B D tI tZ tL h0 ad σ)) (u_Q (some (.int (m_trc σ.2 j nr))) (m_P D tI tZ h0 ad (s_set σ 0 0)) (m_A h0 ad)) 0 0 (m_A h0 ad) := by
  refine u_met (cc := cX1_tracesFromRoots) (maxL := 2) (ret := (some .int)) (by decide) rfl (Nat.le_of_ble_eq_true rfl) ?_
  intro p e s m below meth c hx hb hml hr hts hown hlocks hB hS ls hl
  have hD : ∀ σ : ST, va_D (m_A h0 ad) (m_W tI tZ h0 ad σ) := fun σ => m_D σ hn (fun _ h => h)
  have hown : s.vm.findClass RX1 = some m.cls := hown
  obtain ⟨hP, hK⟩ := hB
  have hl : lv_has ls 2 [(0, .ref h0), (1, .int (nI j))] := hl
  have hin : ∀ w ∈ wsX10, w ∈ wsX1_tracesFromRoots := in_X1_tracesFromRoots
  have hl_thrown : ml_thrown ∈ wsX1_tracesFromRoots := by decide +kernel
  have key : ∀ (H : Heap) (locs : List Loc), va_P D vwCl (m_W tI tZ h0 ad σ) H → va_S (m_A h0 ad) s.heap H locs → ∀ ls, lv_has ls 2 [(0, .ref h0), (1, .int (nI j))] → u_G p l e ({ frames := 4, cells := 0, slots := 0, locals := 91 } : Room) s m ([.ref h0, .int (nI j)] : List Value).toArray below meth c H locs (some (.int (m_trc σ.2 j nr))) (m_P D tI tZ h0 ad (s_set σ 0 0)) (m_A h0 ad) (F0 m 0 ls []) := by
    intro H locs hP hS ls hl
    refine lv_aload_n hx hb dX1_tracesFromRoots_0 rfl (lv_at hl 0 rfl) ?_
    refine lv_iconst (v := 0) hx hb dX1_tracesFromRoots_1 (by decide) ?_
    refine mp_thrown hx hb hts hin hown hK hP (hD _) hS hl_thrown dX1_tracesFromRoots_2 (fun H locs hP hS => ?_)
    refine lv_iload_n hx hb dX1_tracesFromRoots_5 rfl (lv_at hl 1 rfl) ?_
    refine k_X1_isSubject (nI j) ⟨hx, hb, hml, hown, hts⟩ gX1_tracesFromRoots_X1_isSubject ⟨Nat.le_of_ble_eq_true rfl, Nat.le_of_ble_eq_true rfl⟩ hl.1 ⟨Nat.zero_le _, Nat.zero_le _⟩ (Nat.le_of_ble_eq_true rfl) dX1_tracesFromRoots_6 ?_
    refine lv_ifeq_b (tgt := 20) hx hb dX1_tracesFromRoots_9 (by decide) (fun c9 => absurd c9 (ne_f (m_in_t (n := 12) (by decide) hj12 (by decide)))) (fun c9 => ?_)
    refine lv_aload_n hx hb dX1_tracesFromRoots_12 rfl (lv_at hl 0 rfl) ?_
    refine lv_iload_n hx hb dX1_tracesFromRoots_13 rfl (lv_at hl 1 rfl) ?_
    refine k_X1_tracesOf D tI tZ tL h0 ad (s_set σ 0 0) j hj12 nr hnr hn30 ⟨hx, hb, hml, hown, hts⟩ gX1_tracesFromRoots_X1_tracesOf ⟨Nat.le_of_ble_eq_true rfl, Nat.le_of_ble_eq_true rfl⟩ hl.1 ⟨Nat.zero_le _, Nat.zero_le _⟩ (Nat.le_of_ble_eq_true rfl) hK hP dX1_tracesFromRoots_14 ?_
    refine lv_goto (tgt := 25) hx hb dX1_tracesFromRoots_17 (by decide) ?_
    exact u_iret hx hb hr hlocks hS (hP) (rfl) dX1_tracesFromRoots_25
  exact key _ _ hP hS ls hl
theorem k_X1_tracesFromRoots {p : Program} {l : Launch} {e : Env} {R : Room} {s : State} {m : MethodId} {args : Array Value} {below : List Frame} {meth : Method} {c : Code} {H : Heap} {locs : List Loc} {cells slots : Nat} {Q : State → Prop} {cc : ByteArray} {pc : Nat} {ls : Array Slot} {rest : List Value} {Ts : List Cond} (D : va_G) (tI tZ tL : ClassId) (h0 : Nat) (ad : Nat → Nat) (σ : ST) (j : Nat) (hj12 : j < 12) (nr : Nat) (hnr : σ.1 7 = nI nr) (hn30 : nr ≤ 30)  {A0 : Nat → Prop} {H0 : Heap} {own : String} {idx nL : Nat} (S : CallFix p m c cc nL s args Ts own) (hG : GoodIn Ts (wsV own idx RX1 yX1_tracesFromRoots wsX1_tracesFromRoots)) (hR : ({ frames := 4, cells := 0, slots := 0, locals := 91 } : Room).frames + 1 ≤ R.frames ∧ 8 + (2 + 11) + ({ frames := 4, cells := 0, slots := 0, locals := 91 } : Room).locals ≤ R.locals) (hsz : ls.size = nL) (hcap : cells ≤ R.cells ∧ slots ≤ R.slots) (hrm : (rest.map fun v => v.category).sum ≤ 8) (hn : (m_L h0 ad).Nodup) (hK : va_K D vwCl (kTY tI tZ tL) s) (hP : va_P D vwCl (m_W tI tZ h0 ad σ) H) (hS : va_S A0 H0 H locs) (hA : ∀ q, m_A h0 ad q → A0 q) (hdg : decode cc pc = .ok (.invokevirtual idx, 3)) (kk : ∀ (H1 : Heap) (locs1 : List Loc), va_P D vwCl (m_W tI tZ h0 ad (s_set σ 0 0)) H1 → H.size ≤ H1.size → (∀ q : Nat, q < H.size → ¬ m_A h0 ad q → H1[q]? = H[q]?) → va_S A0 H0 H1 locs1 → W p l e R s m args below meth c H1 locs1 cells slots Q (F0 m (pc + 3) ls (.int (m_trc σ.2 j nr) :: rest))) : W p l e R s m args below meth c H locs cells slots Q (F0 m pc ls (.int (nI j) :: .ref h0 :: rest)) :=
  u_call (va_runV (As := [.int (nI j)]) (rest := rest) S (c_X1_tracesFromRoots l D tI tZ tL h0 ad σ j hj12 nr hnr hn30 hn) (cwV 1 S.2.2.2.2 hG rfl rfl rfl (by decide +kernel) hR) (m_pre hK hP) rfl rfl hsz rfl (lv_room hrm) hdg hcap) hS hA hA kk

set_option maxHeartbeats 4000000 in
set_option maxRecDepth 100000 in
theorem c_X1_request (l : Launch) (D : va_G) (tI tZ tL : ClassId) (h0 : Nat) (ad : Nat → Nat) (σ : ST) (j : Nat) (hj12 : j < 12) (nr : Nat) (hnr : σ.1 7 = nI nr) (hn30 : nr ≤ 30)  (hn : (m_L h0 ad).Nodup) : Met l yX1_request wsX1_request ({ frames := 3, cells := 0, slots := 0, locals := 68 } : Room) (va_Pc ([.ref h0, .int (nI j)] : List Value) (m_B D tI tZ tL h0 ad σ)) (u_Q (some (.int (m_rqC nr j (s_set σ 0 0) nr))) (m_P D tI tZ h0 ad (m_rqS nr j (s_set σ 0 0) nr)) (m_A h0 ad)) 0 0 (m_A h0 ad) := by
  refine u_met (cc := cX1_request) (maxL := 4) (ret := (some .int)) (by decide) rfl (Nat.le_of_ble_eq_true rfl) ?_
  intro p e s m below meth c hx hb hml hr hts hown hlocks hB hS ls hl
  have hD : ∀ σ : ST, va_D (m_A h0 ad) (m_W tI tZ h0 ad σ) := fun σ => m_D σ hn (fun _ h => h)
  have hown : s.vm.findClass RX1 = some m.cls := hown
  obtain ⟨hP, hK⟩ := hB
  have hl : lv_has ls 4 [(0, .ref h0), (1, .int (nI j))] := hl
  have hin : ∀ w ∈ wsX10, w ∈ wsX1_request := in_X1_request
  have hl_many : ml_many ∈ wsX1_request := by decide +kernel
  have hl_thrown : ml_thrown ∈ wsX1_request := by decide +kernel
  have key : ∀ (H : Heap) (locs : List Loc), va_P D vwCl (m_W tI tZ h0 ad σ) H → va_S (m_A h0 ad) s.heap H locs → ∀ ls, lv_has ls 4 [(0, .ref h0), (1, .int (nI j))] → u_G p l e ({ frames := 3, cells := 0, slots := 0, locals := 68 } : Room) s m ([.ref h0, .int (nI j)] : List Value).toArray below meth c H locs (some (.int (m_rqC nr j (s_set σ 0 0) nr))) (m_P D tI tZ h0 ad (m_rqS nr j (s_set σ 0 0) nr)) (m_A h0 ad) (F0 m 0 ls []) := by
    intro H locs hP hS ls hl
    refine lv_aload_n hx hb dX1_request_0 rfl (lv_at hl 0 rfl) ?_
    refine lv_iconst (v := 0) hx hb dX1_request_1 (by decide) ?_
    refine mp_thrown hx hb hts hin hown hK hP (hD _) hS hl_thrown dX1_request_2 (fun H locs hP hS => ?_)
    refine lv_iload_n hx hb dX1_request_5 rfl (lv_at hl 1 rfl) ?_
    refine k_X1_isSubject (nI j) ⟨hx, hb, hml, hown, hts⟩ gX1_request_X1_isSubject ⟨Nat.le_of_ble_eq_true rfl, Nat.le_of_ble_eq_true rfl⟩ hl.1 ⟨Nat.zero_le _, Nat.zero_le _⟩ (Nat.le_of_ble_eq_true rfl) dX1_request_6 ?_
    refine lv_ifne_b (tgt := 18) hx hb dX1_request_9 (by decide) (fun c9 => ?_) (fun c9 => absurd c9 (ne_f (m_in_t (n := 12) (by decide) hj12 (by decide))))
    refine lv_iconst (v := 0) hx hb dX1_request_18 (by decide) ?_
    refine lv_istore_n (lv' := [(2, .int 0), (0, .ref h0), (1, .int (nI j))]) hx hb dX1_request_19 rfl hl (by decide) rfl (fun ls hl => ?_)
    refine lv_iconst (v := 0) hx hb dX1_request_20 (by decide) ?_
    refine lv_istore_n (lv' := [(3, .int 0), (2, .int 0), (0, .ref h0), (1, .int (nI j))]) hx hb dX1_request_21 rfl hl (by decide) rfl (fun ls hl => ?_)
    have loop22 : ∀ (n k : Nat), k ≤ nr → nr + 1 ≤ k + n → ∀ (H : Heap) (locs : List Loc), va_P D vwCl (m_W tI tZ h0 ad (m_rqS nr j (s_set σ 0 0) k)) H → va_S (m_A h0 ad) s.heap H locs → ∀ ls, lv_has ls 4 [(0, .ref h0), (1, .int (nI j)), (2, .int (m_rqC nr j (s_set σ 0 0) k)), (3, .int (nI k))] → u_G p l e ({ frames := 3, cells := 0, slots := 0, locals := 68 } : Room) s m ([.ref h0, .int (nI j)] : List Value).toArray below meth c H locs (some (.int (m_rqC nr j (s_set σ 0 0) nr))) (m_P D tI tZ h0 ad (m_rqS nr j (s_set σ 0 0) nr)) (m_A h0 ad) (F0 m 22 ls []) := by
      intro n
      induction n with
      | zero => intro k h1 h2; omega
      | succ n ihk =>
        intro k hk_k hn_k   H locs hP hS ls hl
        have hnrk : (m_rqS nr j (s_set σ 0 0) k).1 7 = nI nr := by rw [m_rq_1]; exact hnr
        refine lv_iload_n hx hb dX1_request_22 rfl (lv_at hl 3 rfl) ?_
        refine lv_aload_n hx hb dX1_request_23 rfl (lv_at hl 0 rfl) ?_
        refine mg_many hx hb hts hin hown hK hP hl_many dX1_request_24 ?_
        refine lv_icmp_ge (tgt := 60) hx hb dX1_request_27 (by decide) (fun c27 => ?_) (fun c27 => ?_)
        · have hkn : k = nr := Nat.le_antisymm hk_k (ge_t hnrk (by omega) (by omega) c27)
          refine lv_iload_n hx hb dX1_request_60 rfl (lv_at hl 2 rfl) ?_
          exact u_iret hx hb hr hlocks hS (by rw [hkn] at hP; exact hP) (by rw [hkn]) dX1_request_61
        · have hkn : k < nr := ge_f hnrk (by omega) c27
          refine lv_iload_n hx hb dX1_request_30 rfl (lv_at hl 2 rfl) ?_
          refine lv_aload_n hx hb dX1_request_31 rfl (lv_at hl 0 rfl) ?_
          refine lv_iload_n hx hb dX1_request_32 rfl (lv_at hl 3 rfl) ?_
          refine k_X1_subjects D tI tZ tL h0 ad (m_rqS nr j (s_set σ 0 0) k) k (by omega) ⟨hx, hb, hml, hown, hts⟩ gX1_request_X1_subjects ⟨Nat.le_of_ble_eq_true rfl, Nat.le_of_ble_eq_true rfl⟩ hl.1 ⟨Nat.zero_le _, Nat.zero_le _⟩ (Nat.le_of_ble_eq_true rfl) hK hP dX1_request_33 ?_
          refine lv_iload_n hx hb dX1_request_36 rfl (lv_at hl 1 rfl) ?_
          refine k_X1_has (m_subj (m_rqS nr j (s_set σ 0 0) k).2 k) j (by omega) ⟨hx, hb, hml, hown, hts⟩ gX1_request_X1_has ⟨Nat.le_of_ble_eq_true rfl, Nat.le_of_ble_eq_true rfl⟩ hl.1 ⟨Nat.zero_le _, Nat.zero_le _⟩ (Nat.le_of_ble_eq_true rfl) dX1_request_37 ?_
          refine lv_ifeq_b (tgt := 51) hx hb dX1_request_40 (by decide) (fun c40 => ?_) (fun c40 => ?_)
          · refine lv_iconst (v := 0) hx hb dX1_request_51 (by decide) ?_
            refine lv_iadd hx hb dX1_request_52 ?_
            refine lv_istore_n (lv' := [(2, .int ((m_rqC nr j (s_set σ 0 0) k) + 0)), (0, .ref h0), (1, .int (nI j)), (3, .int (nI k))]) hx hb dX1_request_53 rfl hl (by decide) rfl (fun ls hl => ?_)
            refine lv_iinc (v := (nI k) + 1) (lv' := [(3, .int ((nI k) + 1)), (2, .int ((m_rqC nr j (s_set σ 0 0) k) + 0)), (0, .ref h0), (1, .int (nI j))]) hx hb dX1_request_54 hl (k := 3) rfl rfl (by decide) rfl (fun ls hl => ?_)
            refine lv_goto (tgt := 22) hx hb dX1_request_57 (by decide) ?_
            exact ihk (k + 1) (by omega) (by omega)   _ _ (by rw [m_rqS, if_neg (by rw [c40]; decide)]; exact hP) hS _ (lv_to (L := [(0, .ref h0), (1, .int (nI j)), (2, .int ((m_rqC nr j (s_set σ 0 0) k) + 0)), (3, .int ((nI k) + 1))]) (lv_sub hl [2, 3, 1, 0] rfl) (lv_cr (lv_cr (lv_ci (by rw [add0, m_rqC, if_neg (by rw [c40]; decide)]) (lv_ci (nI_1 k) rfl)))))
          · refine lv_aload_n hx hb dX1_request_43 rfl (lv_at hl 0 rfl) ?_
            refine lv_iload_n hx hb dX1_request_44 rfl (lv_at hl 3 rfl) ?_
            refine k_X1_asks D tI tZ tL h0 ad (m_rqS nr j (s_set σ 0 0) k) k nr (hnrk) hn30 (by omega) ⟨hx, hb, hml, hown, hts⟩ gX1_request_X1_asks ⟨Nat.le_of_ble_eq_true rfl, Nat.le_of_ble_eq_true rfl⟩ hl.1 ⟨Nat.zero_le _, Nat.zero_le _⟩ (Nat.le_of_ble_eq_true rfl) hn hK hP hS (fun q h => h) dX1_request_45 (fun H locs hP _ _ hS => ?_)
            refine lv_goto (tgt := 52) hx hb dX1_request_48 (by decide) ?_
            refine lv_iadd hx hb dX1_request_52 ?_
            refine lv_istore_n (lv' := [(2, .int ((m_rqC nr j (s_set σ 0 0) k) + (m_asC (m_rqS nr j (s_set σ 0 0) k).2 nr k))), (0, .ref h0), (1, .int (nI j)), (3, .int (nI k))]) hx hb dX1_request_53 rfl hl (by decide) rfl (fun ls hl => ?_)
            refine lv_iinc (v := (nI k) + 1) (lv' := [(3, .int ((nI k) + 1)), (2, .int ((m_rqC nr j (s_set σ 0 0) k) + (m_asC (m_rqS nr j (s_set σ 0 0) k).2 nr k))), (0, .ref h0), (1, .int (nI j))]) hx hb dX1_request_54 hl (k := 3) rfl rfl (by decide) rfl (fun ls hl => ?_)
            refine lv_goto (tgt := 22) hx hb dX1_request_57 (by decide) ?_
            exact ihk (k + 1) (by omega) (by omega)   _ _ (by rw [m_rqS, if_pos c40]; exact hP) hS _ (lv_to (L := [(0, .ref h0), (1, .int (nI j)), (2, .int ((m_rqC nr j (s_set σ 0 0) k) + (m_asC (m_rqS nr j (s_set σ 0 0) k).2 nr k))), (3, .int ((nI k) + 1))]) (lv_sub hl [2, 3, 1, 0] rfl) (lv_cr (lv_cr (lv_ci (by rw [m_rqC, if_pos c40]) (lv_ci (nI_1 k) rfl)))))
    exact loop22 (nr + 1) 0 (by omega) (by omega)   _ _ (hP) hS _ (lv_to (L := [(0, .ref h0), (1, .int (nI j)), (2, .int 0), (3, .int 0)]) (lv_sub hl [2, 3, 1, 0] rfl) (lv_cr (lv_cr (lv_ci (rfl) (lv_ci (rfl) rfl)))))
  exact key _ _ hP hS ls hl
theorem k_X1_request {p : Program} {l : Launch} {e : Env} {R : Room} {s : State} {m : MethodId} {args : Array Value} {below : List Frame} {meth : Method} {c : Code} {H : Heap} {locs : List Loc} {cells slots : Nat} {Q : State → Prop} {cc : ByteArray} {pc : Nat} {ls : Array Slot} {rest : List Value} {Ts : List Cond} (D : va_G) (tI tZ tL : ClassId) (h0 : Nat) (ad : Nat → Nat) (σ : ST) (j : Nat) (hj12 : j < 12) (nr : Nat) (hnr : σ.1 7 = nI nr) (hn30 : nr ≤ 30)  {A0 : Nat → Prop} {H0 : Heap} {own : String} {idx nL : Nat} (S : CallFix p m c cc nL s args Ts own) (hG : GoodIn Ts (wsV own idx RX1 yX1_request wsX1_request)) (hR : ({ frames := 3, cells := 0, slots := 0, locals := 68 } : Room).frames + 1 ≤ R.frames ∧ 8 + (4 + 11) + ({ frames := 3, cells := 0, slots := 0, locals := 68 } : Room).locals ≤ R.locals) (hsz : ls.size = nL) (hcap : cells ≤ R.cells ∧ slots ≤ R.slots) (hrm : (rest.map fun v => v.category).sum ≤ 8) (hn : (m_L h0 ad).Nodup) (hK : va_K D vwCl (kTY tI tZ tL) s) (hP : va_P D vwCl (m_W tI tZ h0 ad σ) H) (hS : va_S A0 H0 H locs) (hA : ∀ q, m_A h0 ad q → A0 q) (hdg : decode cc pc = .ok (.invokevirtual idx, 3)) (kk : ∀ (H1 : Heap) (locs1 : List Loc), va_P D vwCl (m_W tI tZ h0 ad (m_rqS nr j (s_set σ 0 0) nr)) H1 → H.size ≤ H1.size → (∀ q : Nat, q < H.size → ¬ m_A h0 ad q → H1[q]? = H[q]?) → va_S A0 H0 H1 locs1 → W p l e R s m args below meth c H1 locs1 cells slots Q (F0 m (pc + 3) ls (.int (m_rqC nr j (s_set σ 0 0) nr) :: rest))) : W p l e R s m args below meth c H locs cells slots Q (F0 m pc ls (.int (nI j) :: .ref h0 :: rest)) :=
  u_call (va_runV (As := [.int (nI j)]) (rest := rest) S (c_X1_request l D tI tZ tL h0 ad σ j hj12 nr hnr hn30 hn) (cwV 1 S.2.2.2.2 hG rfl rfl rfl (by decide +kernel) hR) (m_pre hK hP) rfl rfl hsz rfl (lv_room hrm) hdg hcap) hS hA hA kk

set_option maxHeartbeats 4000000 in
set_option maxRecDepth 100000 in
theorem c_X1_stateOf_f (l : Launch) (D : va_G) (tI tZ tL : ClassId) (h0 : Nat) (ad : Nat → Nat) (σ : ST) (v : Int32) (hbad : m_in v 0 (σ.1 7 - 1) = false) (hn : (m_L h0 ad).Nodup) : Met l yX1_stateOf wsX1_stateOf ({ frames := 2, cells := 0, slots := 0, locals := 43 } : Room) (va_Pc ([.ref h0, .int v] : List Value) (m_B D tI tZ tL h0 ad σ)) (u_Q (some (.int 0)) (m_P D tI tZ h0 ad (s_set (s_set σ 0 0) 0 1)) (m_A h0 ad)) 0 0 (m_A h0 ad) := by
  refine u_met (cc := cX1_stateOf) (maxL := 2) (ret := (some .int)) (by decide) rfl (Nat.le_of_ble_eq_true rfl) ?_
  intro p e s m below meth c hx hb hml hr hts hown hlocks hB hS ls hl
  have hD : ∀ σ : ST, va_D (m_A h0 ad) (m_W tI tZ h0 ad σ) := fun σ => m_D σ hn (fun _ h => h)
  have hown : s.vm.findClass RX1 = some m.cls := hown
  obtain ⟨hP, hK⟩ := hB
  have hl : lv_has ls 2 [(0, .ref h0), (1, .int v)] := hl
  have hin : ∀ w ∈ wsX10, w ∈ wsX1_stateOf := in_X1_stateOf
  have hl_thrown : ml_thrown ∈ wsX1_stateOf := by decide +kernel
  have key : ∀ (H : Heap) (locs : List Loc), va_P D vwCl (m_W tI tZ h0 ad σ) H → va_S (m_A h0 ad) s.heap H locs → ∀ ls, lv_has ls 2 [(0, .ref h0), (1, .int v)] → u_G p l e ({ frames := 2, cells := 0, slots := 0, locals := 43 } : Room) s m ([.ref h0, .int v] : List Value).toArray below meth c H locs (some (.int 0)) (m_P D tI tZ h0 ad (s_set (s_set σ 0 0) 0 1)) (m_A h0 ad) (F0 m 0 ls []) := by
    intro H locs hP hS ls hl
    refine lv_aload_n hx hb dX1_stateOf_0 rfl (lv_at hl 0 rfl) ?_
    refine lv_iconst (v := 0) hx hb dX1_stateOf_1 (by decide) ?_
    refine mp_thrown hx hb hts hin hown hK hP (hD _) hS hl_thrown dX1_stateOf_2 (fun H locs hP hS => ?_)
    refine lv_aload_n hx hb dX1_stateOf_5 rfl (lv_at hl 0 rfl) ?_
    refine lv_iload_n hx hb dX1_stateOf_6 rfl (lv_at hl 1 rfl) ?_
    refine k_X1_isRecord D tI tZ tL h0 ad (s_set σ 0 0) v ⟨hx, hb, hml, hown, hts⟩ gX1_stateOf_X1_isRecord ⟨Nat.le_of_ble_eq_true rfl, Nat.le_of_ble_eq_true rfl⟩ hl.1 ⟨Nat.zero_le _, Nat.zero_le _⟩ (Nat.le_of_ble_eq_true rfl) hK hP dX1_stateOf_7 ?_
    refine lv_ifeq_b (tgt := 22) hx hb dX1_stateOf_10 (by decide) (fun c10 => ?_) (fun c10 => absurd c10 (by first | exact ne_t hbad | exact ne_f hbad))
    refine lv_aload_n hx hb dX1_stateOf_22 rfl (lv_at hl 0 rfl) ?_
    refine lv_iconst (v := 1) hx hb dX1_stateOf_23 (by decide) ?_
    refine k_X1_fails D tI tZ tL h0 ad (s_set σ 0 0) 1 ⟨hx, hb, hml, hown, hts⟩ gX1_stateOf_X1_fails ⟨Nat.le_of_ble_eq_true rfl, Nat.le_of_ble_eq_true rfl⟩ hl.1 ⟨Nat.zero_le _, Nat.zero_le _⟩ (Nat.le_of_ble_eq_true rfl) hn hK hP hS (fun q h => h) dX1_stateOf_24 (fun H locs hP _ _ hS => ?_)
    exact u_iret hx hb hr hlocks hS (hP) (rfl) dX1_stateOf_27
  exact key _ _ hP hS ls hl
theorem k_X1_stateOf_f {p : Program} {l : Launch} {e : Env} {R : Room} {s : State} {m : MethodId} {args : Array Value} {below : List Frame} {meth : Method} {c : Code} {H : Heap} {locs : List Loc} {cells slots : Nat} {Q : State → Prop} {cc : ByteArray} {pc : Nat} {ls : Array Slot} {rest : List Value} {Ts : List Cond} (D : va_G) (tI tZ tL : ClassId) (h0 : Nat) (ad : Nat → Nat) (σ : ST) (v : Int32) (hbad : m_in v 0 (σ.1 7 - 1) = false) {A0 : Nat → Prop} {H0 : Heap} {own : String} {idx nL : Nat} (S : CallFix p m c cc nL s args Ts own) (hG : GoodIn Ts (wsV own idx RX1 yX1_stateOf wsX1_stateOf)) (hR : ({ frames := 2, cells := 0, slots := 0, locals := 43 } : Room).frames + 1 ≤ R.frames ∧ 8 + (2 + 11) + ({ frames := 2, cells := 0, slots := 0, locals := 43 } : Room).locals ≤ R.locals) (hsz : ls.size = nL) (hcap : cells ≤ R.cells ∧ slots ≤ R.slots) (hrm : (rest.map fun v => v.category).sum ≤ 8) (hn : (m_L h0 ad).Nodup) (hK : va_K D vwCl (kTY tI tZ tL) s) (hP : va_P D vwCl (m_W tI tZ h0 ad σ) H) (hS : va_S A0 H0 H locs) (hA : ∀ q, m_A h0 ad q → A0 q) (hdg : decode cc pc = .ok (.invokevirtual idx, 3)) (kk : ∀ (H1 : Heap) (locs1 : List Loc), va_P D vwCl (m_W tI tZ h0 ad (s_set (s_set σ 0 0) 0 1)) H1 → H.size ≤ H1.size → (∀ q : Nat, q < H.size → ¬ m_A h0 ad q → H1[q]? = H[q]?) → va_S A0 H0 H1 locs1 → W p l e R s m args below meth c H1 locs1 cells slots Q (F0 m (pc + 3) ls (.int 0 :: rest))) : W p l e R s m args below meth c H locs cells slots Q (F0 m pc ls (.int v :: .ref h0 :: rest)) :=
  u_call (va_runV (As := [.int v]) (rest := rest) S (c_X1_stateOf_f l D tI tZ tL h0 ad σ v hbad hn) (cwV 1 S.2.2.2.2 hG rfl rfl rfl (by decide +kernel) hR) (m_pre hK hP) rfl rfl hsz rfl (lv_room hrm) hdg hcap) hS hA hA kk

set_option maxHeartbeats 4000000 in
set_option maxRecDepth 100000 in
theorem c_X1_subjectsOf_f (l : Launch) (D : va_G) (tI tZ tL : ClassId) (h0 : Nat) (ad : Nat → Nat) (σ : ST) (v : Int32) (hbad : m_in v 0 (σ.1 7 - 1) = false) (hn : (m_L h0 ad).Nodup) : Met l yX1_subjectsOf wsX1_subjectsOf ({ frames := 2, cells := 0, slots := 0, locals := 43 } : Room) (va_Pc ([.ref h0, .int v] : List Value) (m_B D tI tZ tL h0 ad σ)) (u_Q (some (.int 0)) (m_P D tI tZ h0 ad (s_set (s_set σ 0 0) 0 1)) (m_A h0 ad)) 0 0 (m_A h0 ad) := by
  refine u_met (cc := cX1_subjectsOf) (maxL := 2) (ret := (some .int)) (by decide) rfl (Nat.le_of_ble_eq_true rfl) ?_
  intro p e s m below meth c hx hb hml hr hts hown hlocks hB hS ls hl
  have hD : ∀ σ : ST, va_D (m_A h0 ad) (m_W tI tZ h0 ad σ) := fun σ => m_D σ hn (fun _ h => h)
  have hown : s.vm.findClass RX1 = some m.cls := hown
  obtain ⟨hP, hK⟩ := hB
  have hl : lv_has ls 2 [(0, .ref h0), (1, .int v)] := hl
  have hin : ∀ w ∈ wsX10, w ∈ wsX1_subjectsOf := in_X1_subjectsOf
  have hl_thrown : ml_thrown ∈ wsX1_subjectsOf := by decide +kernel
  have key : ∀ (H : Heap) (locs : List Loc), va_P D vwCl (m_W tI tZ h0 ad σ) H → va_S (m_A h0 ad) s.heap H locs → ∀ ls, lv_has ls 2 [(0, .ref h0), (1, .int v)] → u_G p l e ({ frames := 2, cells := 0, slots := 0, locals := 43 } : Room) s m ([.ref h0, .int v] : List Value).toArray below meth c H locs (some (.int 0)) (m_P D tI tZ h0 ad (s_set (s_set σ 0 0) 0 1)) (m_A h0 ad) (F0 m 0 ls []) := by
    intro H locs hP hS ls hl
    refine lv_aload_n hx hb dX1_subjectsOf_0 rfl (lv_at hl 0 rfl) ?_
    refine lv_iconst (v := 0) hx hb dX1_subjectsOf_1 (by decide) ?_
    refine mp_thrown hx hb hts hin hown hK hP (hD _) hS hl_thrown dX1_subjectsOf_2 (fun H locs hP hS => ?_)
    refine lv_aload_n hx hb dX1_subjectsOf_5 rfl (lv_at hl 0 rfl) ?_
    refine lv_iload_n hx hb dX1_subjectsOf_6 rfl (lv_at hl 1 rfl) ?_
    refine k_X1_isRecord D tI tZ tL h0 ad (s_set σ 0 0) v ⟨hx, hb, hml, hown, hts⟩ gX1_subjectsOf_X1_isRecord ⟨Nat.le_of_ble_eq_true rfl, Nat.le_of_ble_eq_true rfl⟩ hl.1 ⟨Nat.zero_le _, Nat.zero_le _⟩ (Nat.le_of_ble_eq_true rfl) hK hP dX1_subjectsOf_7 ?_
    refine lv_ifeq_b (tgt := 21) hx hb dX1_subjectsOf_10 (by decide) (fun c10 => ?_) (fun c10 => absurd c10 (by first | exact ne_t hbad | exact ne_f hbad))
    refine lv_aload_n hx hb dX1_subjectsOf_21 rfl (lv_at hl 0 rfl) ?_
    refine lv_iconst (v := 1) hx hb dX1_subjectsOf_22 (by decide) ?_
    refine k_X1_fails D tI tZ tL h0 ad (s_set σ 0 0) 1 ⟨hx, hb, hml, hown, hts⟩ gX1_subjectsOf_X1_fails ⟨Nat.le_of_ble_eq_true rfl, Nat.le_of_ble_eq_true rfl⟩ hl.1 ⟨Nat.zero_le _, Nat.zero_le _⟩ (Nat.le_of_ble_eq_true rfl) hn hK hP hS (fun q h => h) dX1_subjectsOf_23 (fun H locs hP _ _ hS => ?_)
    exact u_iret hx hb hr hlocks hS (hP) (rfl) dX1_subjectsOf_26
  exact key _ _ hP hS ls hl
theorem k_X1_subjectsOf_f {p : Program} {l : Launch} {e : Env} {R : Room} {s : State} {m : MethodId} {args : Array Value} {below : List Frame} {meth : Method} {c : Code} {H : Heap} {locs : List Loc} {cells slots : Nat} {Q : State → Prop} {cc : ByteArray} {pc : Nat} {ls : Array Slot} {rest : List Value} {Ts : List Cond} (D : va_G) (tI tZ tL : ClassId) (h0 : Nat) (ad : Nat → Nat) (σ : ST) (v : Int32) (hbad : m_in v 0 (σ.1 7 - 1) = false) {A0 : Nat → Prop} {H0 : Heap} {own : String} {idx nL : Nat} (S : CallFix p m c cc nL s args Ts own) (hG : GoodIn Ts (wsV own idx RX1 yX1_subjectsOf wsX1_subjectsOf)) (hR : ({ frames := 2, cells := 0, slots := 0, locals := 43 } : Room).frames + 1 ≤ R.frames ∧ 8 + (2 + 11) + ({ frames := 2, cells := 0, slots := 0, locals := 43 } : Room).locals ≤ R.locals) (hsz : ls.size = nL) (hcap : cells ≤ R.cells ∧ slots ≤ R.slots) (hrm : (rest.map fun v => v.category).sum ≤ 8) (hn : (m_L h0 ad).Nodup) (hK : va_K D vwCl (kTY tI tZ tL) s) (hP : va_P D vwCl (m_W tI tZ h0 ad σ) H) (hS : va_S A0 H0 H locs) (hA : ∀ q, m_A h0 ad q → A0 q) (hdg : decode cc pc = .ok (.invokevirtual idx, 3)) (kk : ∀ (H1 : Heap) (locs1 : List Loc), va_P D vwCl (m_W tI tZ h0 ad (s_set (s_set σ 0 0) 0 1)) H1 → H.size ≤ H1.size → (∀ q : Nat, q < H.size → ¬ m_A h0 ad q → H1[q]? = H[q]?) → va_S A0 H0 H1 locs1 → W p l e R s m args below meth c H1 locs1 cells slots Q (F0 m (pc + 3) ls (.int 0 :: rest))) : W p l e R s m args below meth c H locs cells slots Q (F0 m pc ls (.int v :: .ref h0 :: rest)) :=
  u_call (va_runV (As := [.int v]) (rest := rest) S (c_X1_subjectsOf_f l D tI tZ tL h0 ad σ v hbad hn) (cwV 1 S.2.2.2.2 hG rfl rfl rfl (by decide +kernel) hR) (m_pre hK hP) rfl rfl hsz rfl (lv_room hrm) hdg hcap) hS hA hA kk

set_option maxHeartbeats 4000000 in
set_option maxRecDepth 100000 in
theorem c_X1_below_f (l : Launch) (D : va_G) (tI tZ tL : ClassId) (h0 : Nat) (ad : Nat → Nat) (σ : ST) (v : Int32) (hbad : m_in v 0 (σ.1 7 - 1) = false) (hn : (m_L h0 ad).Nodup) : Met l yX1_below wsX1_below ({ frames := 2, cells := 0, slots := 0, locals := 43 } : Room) (va_Pc ([.ref h0, .int v] : List Value) (m_B D tI tZ tL h0 ad σ)) (u_Q (some (.int 0)) (m_P D tI tZ h0 ad (s_set (s_set σ 0 0) 0 1)) (m_A h0 ad)) 0 0 (m_A h0 ad) := by
  refine u_met (cc := cX1_below) (maxL := 2) (ret := (some .int)) (by decide) rfl (Nat.le_of_ble_eq_true rfl) ?_
  intro p e s m below meth c hx hb hml hr hts hown hlocks hB hS ls hl
  have hD : ∀ σ : ST, va_D (m_A h0 ad) (m_W tI tZ h0 ad σ) := fun σ => m_D σ hn (fun _ h => h)
  have hown : s.vm.findClass RX1 = some m.cls := hown
  obtain ⟨hP, hK⟩ := hB
  have hl : lv_has ls 2 [(0, .ref h0), (1, .int v)] := hl
  have hin : ∀ w ∈ wsX10, w ∈ wsX1_below := in_X1_below
  have hl_thrown : ml_thrown ∈ wsX1_below := by decide +kernel
  have key : ∀ (H : Heap) (locs : List Loc), va_P D vwCl (m_W tI tZ h0 ad σ) H → va_S (m_A h0 ad) s.heap H locs → ∀ ls, lv_has ls 2 [(0, .ref h0), (1, .int v)] → u_G p l e ({ frames := 2, cells := 0, slots := 0, locals := 43 } : Room) s m ([.ref h0, .int v] : List Value).toArray below meth c H locs (some (.int 0)) (m_P D tI tZ h0 ad (s_set (s_set σ 0 0) 0 1)) (m_A h0 ad) (F0 m 0 ls []) := by
    intro H locs hP hS ls hl
    refine lv_aload_n hx hb dX1_below_0 rfl (lv_at hl 0 rfl) ?_
    refine lv_iconst (v := 0) hx hb dX1_below_1 (by decide) ?_
    refine mp_thrown hx hb hts hin hown hK hP (hD _) hS hl_thrown dX1_below_2 (fun H locs hP hS => ?_)
    refine lv_aload_n hx hb dX1_below_5 rfl (lv_at hl 0 rfl) ?_
    refine lv_iload_n hx hb dX1_below_6 rfl (lv_at hl 1 rfl) ?_
    refine k_X1_isRecord D tI tZ tL h0 ad (s_set σ 0 0) v ⟨hx, hb, hml, hown, hts⟩ gX1_below_X1_isRecord ⟨Nat.le_of_ble_eq_true rfl, Nat.le_of_ble_eq_true rfl⟩ hl.1 ⟨Nat.zero_le _, Nat.zero_le _⟩ (Nat.le_of_ble_eq_true rfl) hK hP dX1_below_7 ?_
    refine lv_ifeq_b (tgt := 21) hx hb dX1_below_10 (by decide) (fun c10 => ?_) (fun c10 => absurd c10 (by first | exact ne_t hbad | exact ne_f hbad))
    refine lv_aload_n hx hb dX1_below_21 rfl (lv_at hl 0 rfl) ?_
    refine lv_iconst (v := 1) hx hb dX1_below_22 (by decide) ?_
    refine k_X1_fails D tI tZ tL h0 ad (s_set σ 0 0) 1 ⟨hx, hb, hml, hown, hts⟩ gX1_below_X1_fails ⟨Nat.le_of_ble_eq_true rfl, Nat.le_of_ble_eq_true rfl⟩ hl.1 ⟨Nat.zero_le _, Nat.zero_le _⟩ (Nat.le_of_ble_eq_true rfl) hn hK hP hS (fun q h => h) dX1_below_23 (fun H locs hP _ _ hS => ?_)
    exact u_iret hx hb hr hlocks hS (hP) (rfl) dX1_below_26
  exact key _ _ hP hS ls hl
theorem k_X1_below_f {p : Program} {l : Launch} {e : Env} {R : Room} {s : State} {m : MethodId} {args : Array Value} {below : List Frame} {meth : Method} {c : Code} {H : Heap} {locs : List Loc} {cells slots : Nat} {Q : State → Prop} {cc : ByteArray} {pc : Nat} {ls : Array Slot} {rest : List Value} {Ts : List Cond} (D : va_G) (tI tZ tL : ClassId) (h0 : Nat) (ad : Nat → Nat) (σ : ST) (v : Int32) (hbad : m_in v 0 (σ.1 7 - 1) = false) {A0 : Nat → Prop} {H0 : Heap} {own : String} {idx nL : Nat} (S : CallFix p m c cc nL s args Ts own) (hG : GoodIn Ts (wsV own idx RX1 yX1_below wsX1_below)) (hR : ({ frames := 2, cells := 0, slots := 0, locals := 43 } : Room).frames + 1 ≤ R.frames ∧ 8 + (2 + 11) + ({ frames := 2, cells := 0, slots := 0, locals := 43 } : Room).locals ≤ R.locals) (hsz : ls.size = nL) (hcap : cells ≤ R.cells ∧ slots ≤ R.slots) (hrm : (rest.map fun v => v.category).sum ≤ 8) (hn : (m_L h0 ad).Nodup) (hK : va_K D vwCl (kTY tI tZ tL) s) (hP : va_P D vwCl (m_W tI tZ h0 ad σ) H) (hS : va_S A0 H0 H locs) (hA : ∀ q, m_A h0 ad q → A0 q) (hdg : decode cc pc = .ok (.invokevirtual idx, 3)) (kk : ∀ (H1 : Heap) (locs1 : List Loc), va_P D vwCl (m_W tI tZ h0 ad (s_set (s_set σ 0 0) 0 1)) H1 → H.size ≤ H1.size → (∀ q : Nat, q < H.size → ¬ m_A h0 ad q → H1[q]? = H[q]?) → va_S A0 H0 H1 locs1 → W p l e R s m args below meth c H1 locs1 cells slots Q (F0 m (pc + 3) ls (.int 0 :: rest))) : W p l e R s m args below meth c H locs cells slots Q (F0 m pc ls (.int v :: .ref h0 :: rest)) :=
  u_call (va_runV (As := [.int v]) (rest := rest) S (c_X1_below_f l D tI tZ tL h0 ad σ v hbad hn) (cwV 1 S.2.2.2.2 hG rfl rfl rfl (by decide +kernel) hR) (m_pre hK hP) rfl rfl hsz rfl (lv_room hrm) hdg hcap) hS hA hA kk

set_option maxHeartbeats 4000000 in
set_option maxRecDepth 100000 in
theorem c_X1_endOf_f (l : Launch) (D : va_G) (tI tZ tL : ClassId) (h0 : Nat) (ad : Nat → Nat) (σ : ST) (v : Int32) (hbad : m_in v 0 (σ.1 7 - 1) = false) (hn : (m_L h0 ad).Nodup) : Met l yX1_endOf wsX1_endOf ({ frames := 2, cells := 0, slots := 0, locals := 43 } : Room) (va_Pc ([.ref h0, .int v] : List Value) (m_B D tI tZ tL h0 ad σ)) (u_Q (some (.int 0)) (m_P D tI tZ h0 ad (s_set (s_set σ 0 0) 0 1)) (m_A h0 ad)) 0 0 (m_A h0 ad) := by
  refine u_met (cc := cX1_endOf) (maxL := 2) (ret := (some .int)) (by decide) rfl (Nat.le_of_ble_eq_true rfl) ?_
  intro p e s m below meth c hx hb hml hr hts hown hlocks hB hS ls hl
  have hD : ∀ σ : ST, va_D (m_A h0 ad) (m_W tI tZ h0 ad σ) := fun σ => m_D σ hn (fun _ h => h)
  have hown : s.vm.findClass RX1 = some m.cls := hown
  obtain ⟨hP, hK⟩ := hB
  have hl : lv_has ls 2 [(0, .ref h0), (1, .int v)] := hl
  have hin : ∀ w ∈ wsX10, w ∈ wsX1_endOf := in_X1_endOf
  have hl_thrown : ml_thrown ∈ wsX1_endOf := by decide +kernel
  have key : ∀ (H : Heap) (locs : List Loc), va_P D vwCl (m_W tI tZ h0 ad σ) H → va_S (m_A h0 ad) s.heap H locs → ∀ ls, lv_has ls 2 [(0, .ref h0), (1, .int v)] → u_G p l e ({ frames := 2, cells := 0, slots := 0, locals := 43 } : Room) s m ([.ref h0, .int v] : List Value).toArray below meth c H locs (some (.int 0)) (m_P D tI tZ h0 ad (s_set (s_set σ 0 0) 0 1)) (m_A h0 ad) (F0 m 0 ls []) := by
    intro H locs hP hS ls hl
    refine lv_aload_n hx hb dX1_endOf_0 rfl (lv_at hl 0 rfl) ?_
    refine lv_iconst (v := 0) hx hb dX1_endOf_1 (by decide) ?_
    refine mp_thrown hx hb hts hin hown hK hP (hD _) hS hl_thrown dX1_endOf_2 (fun H locs hP hS => ?_)
    refine lv_aload_n hx hb dX1_endOf_5 rfl (lv_at hl 0 rfl) ?_
    refine lv_iload_n hx hb dX1_endOf_6 rfl (lv_at hl 1 rfl) ?_
    refine k_X1_isRecord D tI tZ tL h0 ad (s_set σ 0 0) v ⟨hx, hb, hml, hown, hts⟩ gX1_endOf_X1_isRecord ⟨Nat.le_of_ble_eq_true rfl, Nat.le_of_ble_eq_true rfl⟩ hl.1 ⟨Nat.zero_le _, Nat.zero_le _⟩ (Nat.le_of_ble_eq_true rfl) hK hP dX1_endOf_7 ?_
    refine lv_ifeq_b (tgt := 21) hx hb dX1_endOf_10 (by decide) (fun c10 => ?_) (fun c10 => absurd c10 (by first | exact ne_t hbad | exact ne_f hbad))
    refine lv_aload_n hx hb dX1_endOf_21 rfl (lv_at hl 0 rfl) ?_
    refine lv_iconst (v := 1) hx hb dX1_endOf_22 (by decide) ?_
    refine k_X1_fails D tI tZ tL h0 ad (s_set σ 0 0) 1 ⟨hx, hb, hml, hown, hts⟩ gX1_endOf_X1_fails ⟨Nat.le_of_ble_eq_true rfl, Nat.le_of_ble_eq_true rfl⟩ hl.1 ⟨Nat.zero_le _, Nat.zero_le _⟩ (Nat.le_of_ble_eq_true rfl) hn hK hP hS (fun q h => h) dX1_endOf_23 (fun H locs hP _ _ hS => ?_)
    exact u_iret hx hb hr hlocks hS (hP) (rfl) dX1_endOf_26
  exact key _ _ hP hS ls hl
theorem k_X1_endOf_f {p : Program} {l : Launch} {e : Env} {R : Room} {s : State} {m : MethodId} {args : Array Value} {below : List Frame} {meth : Method} {c : Code} {H : Heap} {locs : List Loc} {cells slots : Nat} {Q : State → Prop} {cc : ByteArray} {pc : Nat} {ls : Array Slot} {rest : List Value} {Ts : List Cond} (D : va_G) (tI tZ tL : ClassId) (h0 : Nat) (ad : Nat → Nat) (σ : ST) (v : Int32) (hbad : m_in v 0 (σ.1 7 - 1) = false) {A0 : Nat → Prop} {H0 : Heap} {own : String} {idx nL : Nat} (S : CallFix p m c cc nL s args Ts own) (hG : GoodIn Ts (wsV own idx RX1 yX1_endOf wsX1_endOf)) (hR : ({ frames := 2, cells := 0, slots := 0, locals := 43 } : Room).frames + 1 ≤ R.frames ∧ 8 + (2 + 11) + ({ frames := 2, cells := 0, slots := 0, locals := 43 } : Room).locals ≤ R.locals) (hsz : ls.size = nL) (hcap : cells ≤ R.cells ∧ slots ≤ R.slots) (hrm : (rest.map fun v => v.category).sum ≤ 8) (hn : (m_L h0 ad).Nodup) (hK : va_K D vwCl (kTY tI tZ tL) s) (hP : va_P D vwCl (m_W tI tZ h0 ad σ) H) (hS : va_S A0 H0 H locs) (hA : ∀ q, m_A h0 ad q → A0 q) (hdg : decode cc pc = .ok (.invokevirtual idx, 3)) (kk : ∀ (H1 : Heap) (locs1 : List Loc), va_P D vwCl (m_W tI tZ h0 ad (s_set (s_set σ 0 0) 0 1)) H1 → H.size ≤ H1.size → (∀ q : Nat, q < H.size → ¬ m_A h0 ad q → H1[q]? = H[q]?) → va_S A0 H0 H1 locs1 → W p l e R s m args below meth c H1 locs1 cells slots Q (F0 m (pc + 3) ls (.int 0 :: rest))) : W p l e R s m args below meth c H locs cells slots Q (F0 m pc ls (.int v :: .ref h0 :: rest)) :=
  u_call (va_runV (As := [.int v]) (rest := rest) S (c_X1_endOf_f l D tI tZ tL h0 ad σ v hbad hn) (cwV 1 S.2.2.2.2 hG rfl rfl rfl (by decide +kernel) hR) (m_pre hK hP) rfl rfl hsz rfl (lv_room hrm) hdg hcap) hS hA hA kk

set_option maxHeartbeats 4000000 in
set_option maxRecDepth 100000 in
theorem c_X1_whyKept_f (l : Launch) (D : va_G) (tI tZ tL : ClassId) (h0 : Nat) (ad : Nat → Nat) (σ : ST) (v : Int32) (hbad : m_in v 0 (σ.1 7 - 1) = false) (hn : (m_L h0 ad).Nodup) : Met l yX1_whyKept wsX1_whyKept ({ frames := 2, cells := 0, slots := 0, locals := 43 } : Room) (va_Pc ([.ref h0, .int v] : List Value) (m_B D tI tZ tL h0 ad σ)) (u_Q (some (.int 0)) (m_P D tI tZ h0 ad (s_set (s_set σ 0 0) 0 1)) (m_A h0 ad)) 0 0 (m_A h0 ad) := by
  refine u_met (cc := cX1_whyKept) (maxL := 2) (ret := (some .int)) (by decide) rfl (Nat.le_of_ble_eq_true rfl) ?_
  intro p e s m below meth c hx hb hml hr hts hown hlocks hB hS ls hl
  have hD : ∀ σ : ST, va_D (m_A h0 ad) (m_W tI tZ h0 ad σ) := fun σ => m_D σ hn (fun _ h => h)
  have hown : s.vm.findClass RX1 = some m.cls := hown
  obtain ⟨hP, hK⟩ := hB
  have hl : lv_has ls 2 [(0, .ref h0), (1, .int v)] := hl
  have hin : ∀ w ∈ wsX10, w ∈ wsX1_whyKept := in_X1_whyKept
  have hl_thrown : ml_thrown ∈ wsX1_whyKept := by decide +kernel
  have key : ∀ (H : Heap) (locs : List Loc), va_P D vwCl (m_W tI tZ h0 ad σ) H → va_S (m_A h0 ad) s.heap H locs → ∀ ls, lv_has ls 2 [(0, .ref h0), (1, .int v)] → u_G p l e ({ frames := 2, cells := 0, slots := 0, locals := 43 } : Room) s m ([.ref h0, .int v] : List Value).toArray below meth c H locs (some (.int 0)) (m_P D tI tZ h0 ad (s_set (s_set σ 0 0) 0 1)) (m_A h0 ad) (F0 m 0 ls []) := by
    intro H locs hP hS ls hl
    refine lv_aload_n hx hb dX1_whyKept_0 rfl (lv_at hl 0 rfl) ?_
    refine lv_iconst (v := 0) hx hb dX1_whyKept_1 (by decide) ?_
    refine mp_thrown hx hb hts hin hown hK hP (hD _) hS hl_thrown dX1_whyKept_2 (fun H locs hP hS => ?_)
    refine lv_aload_n hx hb dX1_whyKept_5 rfl (lv_at hl 0 rfl) ?_
    refine lv_iload_n hx hb dX1_whyKept_6 rfl (lv_at hl 1 rfl) ?_
    refine k_X1_isRecord D tI tZ tL h0 ad (s_set σ 0 0) v ⟨hx, hb, hml, hown, hts⟩ gX1_whyKept_X1_isRecord ⟨Nat.le_of_ble_eq_true rfl, Nat.le_of_ble_eq_true rfl⟩ hl.1 ⟨Nat.zero_le _, Nat.zero_le _⟩ (Nat.le_of_ble_eq_true rfl) hK hP dX1_whyKept_7 ?_
    refine lv_ifeq_b (tgt := 21) hx hb dX1_whyKept_10 (by decide) (fun c10 => ?_) (fun c10 => absurd c10 (by first | exact ne_t hbad | exact ne_f hbad))
    refine lv_aload_n hx hb dX1_whyKept_21 rfl (lv_at hl 0 rfl) ?_
    refine lv_iconst (v := 1) hx hb dX1_whyKept_22 (by decide) ?_
    refine k_X1_fails D tI tZ tL h0 ad (s_set σ 0 0) 1 ⟨hx, hb, hml, hown, hts⟩ gX1_whyKept_X1_fails ⟨Nat.le_of_ble_eq_true rfl, Nat.le_of_ble_eq_true rfl⟩ hl.1 ⟨Nat.zero_le _, Nat.zero_le _⟩ (Nat.le_of_ble_eq_true rfl) hn hK hP hS (fun q h => h) dX1_whyKept_23 (fun H locs hP _ _ hS => ?_)
    exact u_iret hx hb hr hlocks hS (hP) (rfl) dX1_whyKept_26
  exact key _ _ hP hS ls hl
theorem k_X1_whyKept_f {p : Program} {l : Launch} {e : Env} {R : Room} {s : State} {m : MethodId} {args : Array Value} {below : List Frame} {meth : Method} {c : Code} {H : Heap} {locs : List Loc} {cells slots : Nat} {Q : State → Prop} {cc : ByteArray} {pc : Nat} {ls : Array Slot} {rest : List Value} {Ts : List Cond} (D : va_G) (tI tZ tL : ClassId) (h0 : Nat) (ad : Nat → Nat) (σ : ST) (v : Int32) (hbad : m_in v 0 (σ.1 7 - 1) = false) {A0 : Nat → Prop} {H0 : Heap} {own : String} {idx nL : Nat} (S : CallFix p m c cc nL s args Ts own) (hG : GoodIn Ts (wsV own idx RX1 yX1_whyKept wsX1_whyKept)) (hR : ({ frames := 2, cells := 0, slots := 0, locals := 43 } : Room).frames + 1 ≤ R.frames ∧ 8 + (2 + 11) + ({ frames := 2, cells := 0, slots := 0, locals := 43 } : Room).locals ≤ R.locals) (hsz : ls.size = nL) (hcap : cells ≤ R.cells ∧ slots ≤ R.slots) (hrm : (rest.map fun v => v.category).sum ≤ 8) (hn : (m_L h0 ad).Nodup) (hK : va_K D vwCl (kTY tI tZ tL) s) (hP : va_P D vwCl (m_W tI tZ h0 ad σ) H) (hS : va_S A0 H0 H locs) (hA : ∀ q, m_A h0 ad q → A0 q) (hdg : decode cc pc = .ok (.invokevirtual idx, 3)) (kk : ∀ (H1 : Heap) (locs1 : List Loc), va_P D vwCl (m_W tI tZ h0 ad (s_set (s_set σ 0 0) 0 1)) H1 → H.size ≤ H1.size → (∀ q : Nat, q < H.size → ¬ m_A h0 ad q → H1[q]? = H[q]?) → va_S A0 H0 H1 locs1 → W p l e R s m args below meth c H1 locs1 cells slots Q (F0 m (pc + 3) ls (.int 0 :: rest))) : W p l e R s m args below meth c H locs cells slots Q (F0 m pc ls (.int v :: .ref h0 :: rest)) :=
  u_call (va_runV (As := [.int v]) (rest := rest) S (c_X1_whyKept_f l D tI tZ tL h0 ad σ v hbad hn) (cwV 1 S.2.2.2.2 hG rfl rfl rfl (by decide +kernel) hR) (m_pre hK hP) rfl rfl hsz rfl (lv_room hrm) hdg hcap) hS hA hA kk

set_option maxHeartbeats 4000000 in
set_option maxRecDepth 100000 in
theorem c_X1_stateOf (l : Launch) (D : va_G) (tI tZ tL : ClassId) (h0 : Nat) (ad : Nat → Nat) (σ : ST) (r : Nat) (nr : Nat) (hnr : σ.1 7 = nI nr) (hn30 : nr ≤ 30) (hrn : r < nr)  (hn : (m_L h0 ad).Nodup) : Met l yX1_stateOf wsX1_stateOf ({ frames := 2, cells := 0, slots := 0, locals := 43 } : Room) (va_Pc ([.ref h0, .int (nI r)] : List Value) (m_B D tI tZ tL h0 ad σ)) (u_Q (some (.int (σ.2 12 r))) (m_P D tI tZ h0 ad (s_set σ 0 0)) (m_A h0 ad)) 0 0 (m_A h0 ad) := by
  refine u_met (cc := cX1_stateOf) (maxL := 2) (ret := (some .int)) (by decide) rfl (Nat.le_of_ble_eq_true rfl) ?_
  intro p e s m below meth c hx hb hml hr hts hown hlocks hB hS ls hl
  have hD : ∀ σ : ST, va_D (m_A h0 ad) (m_W tI tZ h0 ad σ) := fun σ => m_D σ hn (fun _ h => h)
  have hown : s.vm.findClass RX1 = some m.cls := hown
  obtain ⟨hP, hK⟩ := hB
  have hl : lv_has ls 2 [(0, .ref h0), (1, .int (nI r))] := hl
  have hin : ∀ w ∈ wsX10, w ∈ wsX1_stateOf := in_X1_stateOf
  have hl_state : ml_state ∈ wsX1_stateOf := by decide +kernel
  have hl_thrown : ml_thrown ∈ wsX1_stateOf := by decide +kernel
  have key : ∀ (H : Heap) (locs : List Loc), va_P D vwCl (m_W tI tZ h0 ad σ) H → va_S (m_A h0 ad) s.heap H locs → ∀ ls, lv_has ls 2 [(0, .ref h0), (1, .int (nI r))] → u_G p l e ({ frames := 2, cells := 0, slots := 0, locals := 43 } : Room) s m ([.ref h0, .int (nI r)] : List Value).toArray below meth c H locs (some (.int (σ.2 12 r))) (m_P D tI tZ h0 ad (s_set σ 0 0)) (m_A h0 ad) (F0 m 0 ls []) := by
    intro H locs hP hS ls hl
    refine lv_aload_n hx hb dX1_stateOf_0 rfl (lv_at hl 0 rfl) ?_
    refine lv_iconst (v := 0) hx hb dX1_stateOf_1 (by decide) ?_
    refine mp_thrown hx hb hts hin hown hK hP (hD _) hS hl_thrown dX1_stateOf_2 (fun H locs hP hS => ?_)
    refine lv_aload_n hx hb dX1_stateOf_5 rfl (lv_at hl 0 rfl) ?_
    refine lv_iload_n hx hb dX1_stateOf_6 rfl (lv_at hl 1 rfl) ?_
    refine k_X1_isRecord D tI tZ tL h0 ad (s_set σ 0 0) (nI r) ⟨hx, hb, hml, hown, hts⟩ gX1_stateOf_X1_isRecord ⟨Nat.le_of_ble_eq_true rfl, Nat.le_of_ble_eq_true rfl⟩ hl.1 ⟨Nat.zero_le _, Nat.zero_le _⟩ (Nat.le_of_ble_eq_true rfl) hK hP dX1_stateOf_7 ?_
    refine lv_ifeq_b (tgt := 22) hx hb dX1_stateOf_10 (by decide) (fun c10 => absurd c10 (ne_f (m_in_t (n := nr) (by show σ.1 7 - 1 = _; rw [hnr]) hrn (by omega)))) (fun c10 => ?_)
    refine lv_aload_n hx hb dX1_stateOf_13 rfl (lv_at hl 0 rfl) ?_
    refine mg_state hx hb hts hin hown hK hP hl_state dX1_stateOf_14 ?_
    refine lv_iload_n hx hb dX1_stateOf_17 rfl (lv_at hl 1 rfl) ?_
    refine mr_state (j := r) hx hb hK hP (by omega) dX1_stateOf_18 ?_
    refine lv_goto (tgt := 27) hx hb dX1_stateOf_19 (by decide) ?_
    exact u_iret hx hb hr hlocks hS (hP) (rfl) dX1_stateOf_27
  exact key _ _ hP hS ls hl
theorem k_X1_stateOf {p : Program} {l : Launch} {e : Env} {R : Room} {s : State} {m : MethodId} {args : Array Value} {below : List Frame} {meth : Method} {c : Code} {H : Heap} {locs : List Loc} {cells slots : Nat} {Q : State → Prop} {cc : ByteArray} {pc : Nat} {ls : Array Slot} {rest : List Value} {Ts : List Cond} (D : va_G) (tI tZ tL : ClassId) (h0 : Nat) (ad : Nat → Nat) (σ : ST) (r : Nat) (nr : Nat) (hnr : σ.1 7 = nI nr) (hn30 : nr ≤ 30) (hrn : r < nr)  {A0 : Nat → Prop} {H0 : Heap} {own : String} {idx nL : Nat} (S : CallFix p m c cc nL s args Ts own) (hG : GoodIn Ts (wsV own idx RX1 yX1_stateOf wsX1_stateOf)) (hR : ({ frames := 2, cells := 0, slots := 0, locals := 43 } : Room).frames + 1 ≤ R.frames ∧ 8 + (2 + 11) + ({ frames := 2, cells := 0, slots := 0, locals := 43 } : Room).locals ≤ R.locals) (hsz : ls.size = nL) (hcap : cells ≤ R.cells ∧ slots ≤ R.slots) (hrm : (rest.map fun v => v.category).sum ≤ 8) (hn : (m_L h0 ad).Nodup) (hK : va_K D vwCl (kTY tI tZ tL) s) (hP : va_P D vwCl (m_W tI tZ h0 ad σ) H) (hS : va_S A0 H0 H locs) (hA : ∀ q, m_A h0 ad q → A0 q) (hdg : decode cc pc = .ok (.invokevirtual idx, 3)) (kk : ∀ (H1 : Heap) (locs1 : List Loc), va_P D vwCl (m_W tI tZ h0 ad (s_set σ 0 0)) H1 → H.size ≤ H1.size → (∀ q : Nat, q < H.size → ¬ m_A h0 ad q → H1[q]? = H[q]?) → va_S A0 H0 H1 locs1 → W p l e R s m args below meth c H1 locs1 cells slots Q (F0 m (pc + 3) ls (.int (σ.2 12 r) :: rest))) : W p l e R s m args below meth c H locs cells slots Q (F0 m pc ls (.int (nI r) :: .ref h0 :: rest)) :=
  u_call (va_runV (As := [.int (nI r)]) (rest := rest) S (c_X1_stateOf l D tI tZ tL h0 ad σ r nr hnr hn30 hrn hn) (cwV 1 S.2.2.2.2 hG rfl rfl rfl (by decide +kernel) hR) (m_pre hK hP) rfl rfl hsz rfl (lv_room hrm) hdg hcap) hS hA hA kk

set_option maxHeartbeats 4000000 in
set_option maxRecDepth 100000 in
theorem c_X1_subjectsOf (l : Launch) (D : va_G) (tI tZ tL : ClassId) (h0 : Nat) (ad : Nat → Nat) (σ : ST) (r : Nat) (nr : Nat) (hnr : σ.1 7 = nI nr) (hn30 : nr ≤ 30) (hrn : r < nr)  (hn : (m_L h0 ad).Nodup) : Met l yX1_subjectsOf wsX1_subjectsOf ({ frames := 3, cells := 0, slots := 0, locals := 68 } : Room) (va_Pc ([.ref h0, .int (nI r)] : List Value) (m_B D tI tZ tL h0 ad σ)) (u_Q (some (.int (m_subj σ.2 r))) (m_P D tI tZ h0 ad (s_set σ 0 0)) (m_A h0 ad)) 0 0 (m_A h0 ad) := by
  refine u_met (cc := cX1_subjectsOf) (maxL := 2) (ret := (some .int)) (by decide) rfl (Nat.le_of_ble_eq_true rfl) ?_
  intro p e s m below meth c hx hb hml hr hts hown hlocks hB hS ls hl
  have hD : ∀ σ : ST, va_D (m_A h0 ad) (m_W tI tZ h0 ad σ) := fun σ => m_D σ hn (fun _ h => h)
  have hown : s.vm.findClass RX1 = some m.cls := hown
  obtain ⟨hP, hK⟩ := hB
  have hl : lv_has ls 2 [(0, .ref h0), (1, .int (nI r))] := hl
  have hin : ∀ w ∈ wsX10, w ∈ wsX1_subjectsOf := in_X1_subjectsOf
  have hl_thrown : ml_thrown ∈ wsX1_subjectsOf := by decide +kernel
  have key : ∀ (H : Heap) (locs : List Loc), va_P D vwCl (m_W tI tZ h0 ad σ) H → va_S (m_A h0 ad) s.heap H locs → ∀ ls, lv_has ls 2 [(0, .ref h0), (1, .int (nI r))] → u_G p l e ({ frames := 3, cells := 0, slots := 0, locals := 68 } : Room) s m ([.ref h0, .int (nI r)] : List Value).toArray below meth c H locs (some (.int (m_subj σ.2 r))) (m_P D tI tZ h0 ad (s_set σ 0 0)) (m_A h0 ad) (F0 m 0 ls []) := by
    intro H locs hP hS ls hl
    refine lv_aload_n hx hb dX1_subjectsOf_0 rfl (lv_at hl 0 rfl) ?_
    refine lv_iconst (v := 0) hx hb dX1_subjectsOf_1 (by decide) ?_
    refine mp_thrown hx hb hts hin hown hK hP (hD _) hS hl_thrown dX1_subjectsOf_2 (fun H locs hP hS => ?_)
    refine lv_aload_n hx hb dX1_subjectsOf_5 rfl (lv_at hl 0 rfl) ?_
    refine lv_iload_n hx hb dX1_subjectsOf_6 rfl (lv_at hl 1 rfl) ?_
    refine k_X1_isRecord D tI tZ tL h0 ad (s_set σ 0 0) (nI r) ⟨hx, hb, hml, hown, hts⟩ gX1_subjectsOf_X1_isRecord ⟨Nat.le_of_ble_eq_true rfl, Nat.le_of_ble_eq_true rfl⟩ hl.1 ⟨Nat.zero_le _, Nat.zero_le _⟩ (Nat.le_of_ble_eq_true rfl) hK hP dX1_subjectsOf_7 ?_
    refine lv_ifeq_b (tgt := 21) hx hb dX1_subjectsOf_10 (by decide) (fun c10 => absurd c10 (ne_f (m_in_t (n := nr) (by show σ.1 7 - 1 = _; rw [hnr]) hrn (by omega)))) (fun c10 => ?_)
    refine lv_aload_n hx hb dX1_subjectsOf_13 rfl (lv_at hl 0 rfl) ?_
    refine lv_iload_n hx hb dX1_subjectsOf_14 rfl (lv_at hl 1 rfl) ?_
    refine k_X1_subjects D tI tZ tL h0 ad (s_set σ 0 0) r (by omega) ⟨hx, hb, hml, hown, hts⟩ gX1_subjectsOf_X1_subjects ⟨Nat.le_of_ble_eq_true rfl, Nat.le_of_ble_eq_true rfl⟩ hl.1 ⟨Nat.zero_le _, Nat.zero_le _⟩ (Nat.le_of_ble_eq_true rfl) hK hP dX1_subjectsOf_15 ?_
    refine lv_goto (tgt := 26) hx hb dX1_subjectsOf_18 (by decide) ?_
    exact u_iret hx hb hr hlocks hS (hP) (rfl) dX1_subjectsOf_26
  exact key _ _ hP hS ls hl
theorem k_X1_subjectsOf {p : Program} {l : Launch} {e : Env} {R : Room} {s : State} {m : MethodId} {args : Array Value} {below : List Frame} {meth : Method} {c : Code} {H : Heap} {locs : List Loc} {cells slots : Nat} {Q : State → Prop} {cc : ByteArray} {pc : Nat} {ls : Array Slot} {rest : List Value} {Ts : List Cond} (D : va_G) (tI tZ tL : ClassId) (h0 : Nat) (ad : Nat → Nat) (σ : ST) (r : Nat) (nr : Nat) (hnr : σ.1 7 = nI nr) (hn30 : nr ≤ 30) (hrn : r < nr)  {A0 : Nat → Prop} {H0 : Heap} {own : String} {idx nL : Nat} (S : CallFix p m c cc nL s args Ts own) (hG : GoodIn Ts (wsV own idx RX1 yX1_subjectsOf wsX1_subjectsOf)) (hR : ({ frames := 3, cells := 0, slots := 0, locals := 68 } : Room).frames + 1 ≤ R.frames ∧ 8 + (2 + 11) + ({ frames := 3, cells := 0, slots := 0, locals := 68 } : Room).locals ≤ R.locals) (hsz : ls.size = nL) (hcap : cells ≤ R.cells ∧ slots ≤ R.slots) (hrm : (rest.map fun v => v.category).sum ≤ 8) (hn : (m_L h0 ad).Nodup) (hK : va_K D vwCl (kTY tI tZ tL) s) (hP : va_P D vwCl (m_W tI tZ h0 ad σ) H) (hS : va_S A0 H0 H locs) (hA : ∀ q, m_A h0 ad q → A0 q) (hdg : decode cc pc = .ok (.invokevirtual idx, 3)) (kk : ∀ (H1 : Heap) (locs1 : List Loc), va_P D vwCl (m_W tI tZ h0 ad (s_set σ 0 0)) H1 → H.size ≤ H1.size → (∀ q : Nat, q < H.size → ¬ m_A h0 ad q → H1[q]? = H[q]?) → va_S A0 H0 H1 locs1 → W p l e R s m args below meth c H1 locs1 cells slots Q (F0 m (pc + 3) ls (.int (m_subj σ.2 r) :: rest))) : W p l e R s m args below meth c H locs cells slots Q (F0 m pc ls (.int (nI r) :: .ref h0 :: rest)) :=
  u_call (va_runV (As := [.int (nI r)]) (rest := rest) S (c_X1_subjectsOf l D tI tZ tL h0 ad σ r nr hnr hn30 hrn hn) (cwV 1 S.2.2.2.2 hG rfl rfl rfl (by decide +kernel) hR) (m_pre hK hP) rfl rfl hsz rfl (lv_room hrm) hdg hcap) hS hA hA kk

set_option maxHeartbeats 4000000 in
set_option maxRecDepth 100000 in
theorem c_X1_below (l : Launch) (D : va_G) (tI tZ tL : ClassId) (h0 : Nat) (ad : Nat → Nat) (σ : ST) (r : Nat) (nr : Nat) (hnr : σ.1 7 = nI nr) (hn30 : nr ≤ 30) (hrn : r < nr)  (hn : (m_L h0 ad).Nodup) : Met l yX1_below wsX1_below ({ frames := 2, cells := 0, slots := 0, locals := 44 } : Room) (va_Pc ([.ref h0, .int (nI r)] : List Value) (m_B D tI tZ tL h0 ad σ)) (u_Q (some (.int (m_belk (σ.2 9) r nr))) (m_P D tI tZ h0 ad (s_set σ 0 0)) (m_A h0 ad)) 0 0 (m_A h0 ad) := by
  refine u_met (cc := cX1_below) (maxL := 2) (ret := (some .int)) (by decide) rfl (Nat.le_of_ble_eq_true rfl) ?_
  intro p e s m below meth c hx hb hml hr hts hown hlocks hB hS ls hl
  have hD : ∀ σ : ST, va_D (m_A h0 ad) (m_W tI tZ h0 ad σ) := fun σ => m_D σ hn (fun _ h => h)
  have hown : s.vm.findClass RX1 = some m.cls := hown
  obtain ⟨hP, hK⟩ := hB
  have hl : lv_has ls 2 [(0, .ref h0), (1, .int (nI r))] := hl
  have hin : ∀ w ∈ wsX10, w ∈ wsX1_below := in_X1_below
  have hl_thrown : ml_thrown ∈ wsX1_below := by decide +kernel
  have key : ∀ (H : Heap) (locs : List Loc), va_P D vwCl (m_W tI tZ h0 ad σ) H → va_S (m_A h0 ad) s.heap H locs → ∀ ls, lv_has ls 2 [(0, .ref h0), (1, .int (nI r))] → u_G p l e ({ frames := 2, cells := 0, slots := 0, locals := 44 } : Room) s m ([.ref h0, .int (nI r)] : List Value).toArray below meth c H locs (some (.int (m_belk (σ.2 9) r nr))) (m_P D tI tZ h0 ad (s_set σ 0 0)) (m_A h0 ad) (F0 m 0 ls []) := by
    intro H locs hP hS ls hl
    refine lv_aload_n hx hb dX1_below_0 rfl (lv_at hl 0 rfl) ?_
    refine lv_iconst (v := 0) hx hb dX1_below_1 (by decide) ?_
    refine mp_thrown hx hb hts hin hown hK hP (hD _) hS hl_thrown dX1_below_2 (fun H locs hP hS => ?_)
    refine lv_aload_n hx hb dX1_below_5 rfl (lv_at hl 0 rfl) ?_
    refine lv_iload_n hx hb dX1_below_6 rfl (lv_at hl 1 rfl) ?_
    refine k_X1_isRecord D tI tZ tL h0 ad (s_set σ 0 0) (nI r) ⟨hx, hb, hml, hown, hts⟩ gX1_below_X1_isRecord ⟨Nat.le_of_ble_eq_true rfl, Nat.le_of_ble_eq_true rfl⟩ hl.1 ⟨Nat.zero_le _, Nat.zero_le _⟩ (Nat.le_of_ble_eq_true rfl) hK hP dX1_below_7 ?_
    refine lv_ifeq_b (tgt := 21) hx hb dX1_below_10 (by decide) (fun c10 => absurd c10 (ne_f (m_in_t (n := nr) (by show σ.1 7 - 1 = _; rw [hnr]) hrn (by omega)))) (fun c10 => ?_)
    refine lv_aload_n hx hb dX1_below_13 rfl (lv_at hl 0 rfl) ?_
    refine lv_iload_n hx hb dX1_below_14 rfl (lv_at hl 1 rfl) ?_
    refine k_X1_belowOf D tI tZ tL h0 ad (s_set σ 0 0) r nr hnr hn30 hrn ⟨hx, hb, hml, hown, hts⟩ gX1_below_X1_belowOf ⟨Nat.le_of_ble_eq_true rfl, Nat.le_of_ble_eq_true rfl⟩ hl.1 ⟨Nat.zero_le _, Nat.zero_le _⟩ (Nat.le_of_ble_eq_true rfl) hK hP dX1_below_15 ?_
    refine lv_goto (tgt := 26) hx hb dX1_below_18 (by decide) ?_
    exact u_iret hx hb hr hlocks hS (hP) (rfl) dX1_below_26
  exact key _ _ hP hS ls hl
theorem k_X1_below {p : Program} {l : Launch} {e : Env} {R : Room} {s : State} {m : MethodId} {args : Array Value} {below : List Frame} {meth : Method} {c : Code} {H : Heap} {locs : List Loc} {cells slots : Nat} {Q : State → Prop} {cc : ByteArray} {pc : Nat} {ls : Array Slot} {rest : List Value} {Ts : List Cond} (D : va_G) (tI tZ tL : ClassId) (h0 : Nat) (ad : Nat → Nat) (σ : ST) (r : Nat) (nr : Nat) (hnr : σ.1 7 = nI nr) (hn30 : nr ≤ 30) (hrn : r < nr)  {A0 : Nat → Prop} {H0 : Heap} {own : String} {idx nL : Nat} (S : CallFix p m c cc nL s args Ts own) (hG : GoodIn Ts (wsV own idx RX1 yX1_below wsX1_below)) (hR : ({ frames := 2, cells := 0, slots := 0, locals := 44 } : Room).frames + 1 ≤ R.frames ∧ 8 + (2 + 11) + ({ frames := 2, cells := 0, slots := 0, locals := 44 } : Room).locals ≤ R.locals) (hsz : ls.size = nL) (hcap : cells ≤ R.cells ∧ slots ≤ R.slots) (hrm : (rest.map fun v => v.category).sum ≤ 8) (hn : (m_L h0 ad).Nodup) (hK : va_K D vwCl (kTY tI tZ tL) s) (hP : va_P D vwCl (m_W tI tZ h0 ad σ) H) (hS : va_S A0 H0 H locs) (hA : ∀ q, m_A h0 ad q → A0 q) (hdg : decode cc pc = .ok (.invokevirtual idx, 3)) (kk : ∀ (H1 : Heap) (locs1 : List Loc), va_P D vwCl (m_W tI tZ h0 ad (s_set σ 0 0)) H1 → H.size ≤ H1.size → (∀ q : Nat, q < H.size → ¬ m_A h0 ad q → H1[q]? = H[q]?) → va_S A0 H0 H1 locs1 → W p l e R s m args below meth c H1 locs1 cells slots Q (F0 m (pc + 3) ls (.int (m_belk (σ.2 9) r nr) :: rest))) : W p l e R s m args below meth c H locs cells slots Q (F0 m pc ls (.int (nI r) :: .ref h0 :: rest)) :=
  u_call (va_runV (As := [.int (nI r)]) (rest := rest) S (c_X1_below l D tI tZ tL h0 ad σ r nr hnr hn30 hrn hn) (cwV 1 S.2.2.2.2 hG rfl rfl rfl (by decide +kernel) hR) (m_pre hK hP) rfl rfl hsz rfl (lv_room hrm) hdg hcap) hS hA hA kk

set_option maxHeartbeats 4000000 in
set_option maxRecDepth 100000 in
theorem c_X1_endOf (l : Launch) (D : va_G) (tI tZ tL : ClassId) (h0 : Nat) (ad : Nat → Nat) (σ : ST) (r : Nat) (nr : Nat) (hnr : σ.1 7 = nI nr) (hn30 : nr ≤ 30) (hrn : r < nr) (np : Nat) (hnp : σ.1 2 = nI np) (hn8 : np ≤ 8)  (hn : (m_L h0 ad).Nodup) : Met l yX1_endOf wsX1_endOf ({ frames := 4, cells := 0, slots := 0, locals := 91 } : Room) (va_Pc ([.ref h0, .int (nI r)] : List Value) (m_B D tI tZ tL h0 ad σ)) (u_Q (some (.int (m_end σ.2 np r))) (m_P D tI tZ h0 ad (s_set σ 0 0)) (m_A h0 ad)) 0 0 (m_A h0 ad) := by
  refine u_met (cc := cX1_endOf) (maxL := 2) (ret := (some .int)) (by decide) rfl (Nat.le_of_ble_eq_true rfl) ?_
  intro p e s m below meth c hx hb hml hr hts hown hlocks hB hS ls hl
  have hD : ∀ σ : ST, va_D (m_A h0 ad) (m_W tI tZ h0 ad σ) := fun σ => m_D σ hn (fun _ h => h)
  have hown : s.vm.findClass RX1 = some m.cls := hown
  obtain ⟨hP, hK⟩ := hB
  have hl : lv_has ls 2 [(0, .ref h0), (1, .int (nI r))] := hl
  have hin : ∀ w ∈ wsX10, w ∈ wsX1_endOf := in_X1_endOf
  have hl_thrown : ml_thrown ∈ wsX1_endOf := by decide +kernel
  have key : ∀ (H : Heap) (locs : List Loc), va_P D vwCl (m_W tI tZ h0 ad σ) H → va_S (m_A h0 ad) s.heap H locs → ∀ ls, lv_has ls 2 [(0, .ref h0), (1, .int (nI r))] → u_G p l e ({ frames := 4, cells := 0, slots := 0, locals := 91 } : Room) s m ([.ref h0, .int (nI r)] : List Value).toArray below meth c H locs (some (.int (m_end σ.2 np r))) (m_P D tI tZ h0 ad (s_set σ 0 0)) (m_A h0 ad) (F0 m 0 ls []) := by
    intro H locs hP hS ls hl
    refine lv_aload_n hx hb dX1_endOf_0 rfl (lv_at hl 0 rfl) ?_
    refine lv_iconst (v := 0) hx hb dX1_endOf_1 (by decide) ?_
    refine mp_thrown hx hb hts hin hown hK hP (hD _) hS hl_thrown dX1_endOf_2 (fun H locs hP hS => ?_)
    refine lv_aload_n hx hb dX1_endOf_5 rfl (lv_at hl 0 rfl) ?_
    refine lv_iload_n hx hb dX1_endOf_6 rfl (lv_at hl 1 rfl) ?_
    refine k_X1_isRecord D tI tZ tL h0 ad (s_set σ 0 0) (nI r) ⟨hx, hb, hml, hown, hts⟩ gX1_endOf_X1_isRecord ⟨Nat.le_of_ble_eq_true rfl, Nat.le_of_ble_eq_true rfl⟩ hl.1 ⟨Nat.zero_le _, Nat.zero_le _⟩ (Nat.le_of_ble_eq_true rfl) hK hP dX1_endOf_7 ?_
    refine lv_ifeq_b (tgt := 21) hx hb dX1_endOf_10 (by decide) (fun c10 => absurd c10 (ne_f (m_in_t (n := nr) (by show σ.1 7 - 1 = _; rw [hnr]) hrn (by omega)))) (fun c10 => ?_)
    refine lv_aload_n hx hb dX1_endOf_13 rfl (lv_at hl 0 rfl) ?_
    refine lv_iload_n hx hb dX1_endOf_14 rfl (lv_at hl 1 rfl) ?_
    refine k_X1_end D tI tZ tL h0 ad (s_set σ 0 0) r (by omega) np hnp hn8 ⟨hx, hb, hml, hown, hts⟩ gX1_endOf_X1_end ⟨Nat.le_of_ble_eq_true rfl, Nat.le_of_ble_eq_true rfl⟩ hl.1 ⟨Nat.zero_le _, Nat.zero_le _⟩ (Nat.le_of_ble_eq_true rfl) hK hP dX1_endOf_15 ?_
    refine lv_goto (tgt := 26) hx hb dX1_endOf_18 (by decide) ?_
    exact u_iret hx hb hr hlocks hS (hP) (rfl) dX1_endOf_26
  exact key _ _ hP hS ls hl
theorem k_X1_endOf {p : Program} {l : Launch} {e : Env} {R : Room} {s : State} {m : MethodId} {args : Array Value} {below : List Frame} {meth : Method} {c : Code} {H : Heap} {locs : List Loc} {cells slots : Nat} {Q : State → Prop} {cc : ByteArray} {pc : Nat} {ls : Array Slot} {rest : List Value} {Ts : List Cond} (D : va_G) (tI tZ tL : ClassId) (h0 : Nat) (ad : Nat → Nat) (σ : ST) (r : Nat) (nr : Nat) (hnr : σ.1 7 = nI nr) (hn30 : nr ≤ 30) (hrn : r < nr) (np : Nat) (hnp : σ.1 2 = nI np) (hn8 : np ≤ 8)  {A0 : Nat → Prop} {H0 : Heap} {own : String} {idx nL : Nat} (S : CallFix p m c cc nL s args Ts own) (hG : GoodIn Ts (wsV own idx RX1 yX1_endOf wsX1_endOf)) (hR : ({ frames := 4, cells := 0, slots := 0, locals := 91 } : Room).frames + 1 ≤ R.frames ∧ 8 + (2 + 11) + ({ frames := 4, cells := 0, slots := 0, locals := 91 } : Room).locals ≤ R.locals) (hsz : ls.size = nL) (hcap : cells ≤ R.cells ∧ slots ≤ R.slots) (hrm : (rest.map fun v => v.category).sum ≤ 8) (hn : (m_L h0 ad).Nodup) (hK : va_K D vwCl (kTY tI tZ tL) s) (hP : va_P D vwCl (m_W tI tZ h0 ad σ) H) (hS : va_S A0 H0 H locs) (hA : ∀ q, m_A h0 ad q → A0 q) (hdg : decode cc pc = .ok (.invokevirtual idx, 3)) (kk : ∀ (H1 : Heap) (locs1 : List Loc), va_P D vwCl (m_W tI tZ h0 ad (s_set σ 0 0)) H1 → H.size ≤ H1.size → (∀ q : Nat, q < H.size → ¬ m_A h0 ad q → H1[q]? = H[q]?) → va_S A0 H0 H1 locs1 → W p l e R s m args below meth c H1 locs1 cells slots Q (F0 m (pc + 3) ls (.int (m_end σ.2 np r) :: rest))) : W p l e R s m args below meth c H locs cells slots Q (F0 m pc ls (.int (nI r) :: .ref h0 :: rest)) :=
  u_call (va_runV (As := [.int (nI r)]) (rest := rest) S (c_X1_endOf l D tI tZ tL h0 ad σ r nr hnr hn30 hrn np hnp hn8 hn) (cwV 1 S.2.2.2.2 hG rfl rfl rfl (by decide +kernel) hR) (m_pre hK hP) rfl rfl hsz rfl (lv_room hrm) hdg hcap) hS hA hA kk

set_option maxHeartbeats 4000000 in
set_option maxRecDepth 100000 in
theorem c_X1_whyKept (l : Launch) (D : va_G) (tI tZ tL : ClassId) (h0 : Nat) (ad : Nat → Nat) (σ : ST) (r : Nat) (nr : Nat) (hnr : σ.1 7 = nI nr) (hn30 : nr ≤ 30) (hrn : r < nr)  (hn : (m_L h0 ad).Nodup) : Met l yX1_whyKept wsX1_whyKept ({ frames := 3, cells := 0, slots := 0, locals := 68 } : Room) (va_Pc ([.ref h0, .int (nI r)] : List Value) (m_B D tI tZ tL h0 ad σ)) (u_Q (some (.int (m_kept σ.2 nr r))) (m_P D tI tZ h0 ad (s_set σ 0 0)) (m_A h0 ad)) 0 0 (m_A h0 ad) := by
  refine u_met (cc := cX1_whyKept) (maxL := 2) (ret := (some .int)) (by decide) rfl (Nat.le_of_ble_eq_true rfl) ?_
  intro p e s m below meth c hx hb hml hr hts hown hlocks hB hS ls hl
  have hD : ∀ σ : ST, va_D (m_A h0 ad) (m_W tI tZ h0 ad σ) := fun σ => m_D σ hn (fun _ h => h)
  have hown : s.vm.findClass RX1 = some m.cls := hown
  obtain ⟨hP, hK⟩ := hB
  have hl : lv_has ls 2 [(0, .ref h0), (1, .int (nI r))] := hl
  have hin : ∀ w ∈ wsX10, w ∈ wsX1_whyKept := in_X1_whyKept
  have hl_thrown : ml_thrown ∈ wsX1_whyKept := by decide +kernel
  have key : ∀ (H : Heap) (locs : List Loc), va_P D vwCl (m_W tI tZ h0 ad σ) H → va_S (m_A h0 ad) s.heap H locs → ∀ ls, lv_has ls 2 [(0, .ref h0), (1, .int (nI r))] → u_G p l e ({ frames := 3, cells := 0, slots := 0, locals := 68 } : Room) s m ([.ref h0, .int (nI r)] : List Value).toArray below meth c H locs (some (.int (m_kept σ.2 nr r))) (m_P D tI tZ h0 ad (s_set σ 0 0)) (m_A h0 ad) (F0 m 0 ls []) := by
    intro H locs hP hS ls hl
    refine lv_aload_n hx hb dX1_whyKept_0 rfl (lv_at hl 0 rfl) ?_
    refine lv_iconst (v := 0) hx hb dX1_whyKept_1 (by decide) ?_
    refine mp_thrown hx hb hts hin hown hK hP (hD _) hS hl_thrown dX1_whyKept_2 (fun H locs hP hS => ?_)
    refine lv_aload_n hx hb dX1_whyKept_5 rfl (lv_at hl 0 rfl) ?_
    refine lv_iload_n hx hb dX1_whyKept_6 rfl (lv_at hl 1 rfl) ?_
    refine k_X1_isRecord D tI tZ tL h0 ad (s_set σ 0 0) (nI r) ⟨hx, hb, hml, hown, hts⟩ gX1_whyKept_X1_isRecord ⟨Nat.le_of_ble_eq_true rfl, Nat.le_of_ble_eq_true rfl⟩ hl.1 ⟨Nat.zero_le _, Nat.zero_le _⟩ (Nat.le_of_ble_eq_true rfl) hK hP dX1_whyKept_7 ?_
    refine lv_ifeq_b (tgt := 21) hx hb dX1_whyKept_10 (by decide) (fun c10 => absurd c10 (ne_f (m_in_t (n := nr) (by show σ.1 7 - 1 = _; rw [hnr]) hrn (by omega)))) (fun c10 => ?_)
    refine lv_aload_n hx hb dX1_whyKept_13 rfl (lv_at hl 0 rfl) ?_
    refine lv_iload_n hx hb dX1_whyKept_14 rfl (lv_at hl 1 rfl) ?_
    refine k_X1_kept D tI tZ tL h0 ad (s_set σ 0 0) r nr hnr hn30 hrn ⟨hx, hb, hml, hown, hts⟩ gX1_whyKept_X1_kept ⟨Nat.le_of_ble_eq_true rfl, Nat.le_of_ble_eq_true rfl⟩ hl.1 ⟨Nat.zero_le _, Nat.zero_le _⟩ (Nat.le_of_ble_eq_true rfl) hK hP dX1_whyKept_15 ?_
    refine lv_goto (tgt := 26) hx hb dX1_whyKept_18 (by decide) ?_
    exact u_iret hx hb hr hlocks hS (hP) (rfl) dX1_whyKept_26
  exact key _ _ hP hS ls hl
theorem k_X1_whyKept {p : Program} {l : Launch} {e : Env} {R : Room} {s : State} {m : MethodId} {args : Array Value} {below : List Frame} {meth : Method} {c : Code} {H : Heap} {locs : List Loc} {cells slots : Nat} {Q : State → Prop} {cc : ByteArray} {pc : Nat} {ls : Array Slot} {rest : List Value} {Ts : List Cond} (D : va_G) (tI tZ tL : ClassId) (h0 : Nat) (ad : Nat → Nat) (σ : ST) (r : Nat) (nr : Nat) (hnr : σ.1 7 = nI nr) (hn30 : nr ≤ 30) (hrn : r < nr)  {A0 : Nat → Prop} {H0 : Heap} {own : String} {idx nL : Nat} (S : CallFix p m c cc nL s args Ts own) (hG : GoodIn Ts (wsV own idx RX1 yX1_whyKept wsX1_whyKept)) (hR : ({ frames := 3, cells := 0, slots := 0, locals := 68 } : Room).frames + 1 ≤ R.frames ∧ 8 + (2 + 11) + ({ frames := 3, cells := 0, slots := 0, locals := 68 } : Room).locals ≤ R.locals) (hsz : ls.size = nL) (hcap : cells ≤ R.cells ∧ slots ≤ R.slots) (hrm : (rest.map fun v => v.category).sum ≤ 8) (hn : (m_L h0 ad).Nodup) (hK : va_K D vwCl (kTY tI tZ tL) s) (hP : va_P D vwCl (m_W tI tZ h0 ad σ) H) (hS : va_S A0 H0 H locs) (hA : ∀ q, m_A h0 ad q → A0 q) (hdg : decode cc pc = .ok (.invokevirtual idx, 3)) (kk : ∀ (H1 : Heap) (locs1 : List Loc), va_P D vwCl (m_W tI tZ h0 ad (s_set σ 0 0)) H1 → H.size ≤ H1.size → (∀ q : Nat, q < H.size → ¬ m_A h0 ad q → H1[q]? = H[q]?) → va_S A0 H0 H1 locs1 → W p l e R s m args below meth c H1 locs1 cells slots Q (F0 m (pc + 3) ls (.int (m_kept σ.2 nr r) :: rest))) : W p l e R s m args below meth c H locs cells slots Q (F0 m pc ls (.int (nI r) :: .ref h0 :: rest)) :=
  u_call (va_runV (As := [.int (nI r)]) (rest := rest) S (c_X1_whyKept l D tI tZ tL h0 ad σ r nr hnr hn30 hrn hn) (cwV 1 S.2.2.2.2 hG rfl rfl rfl (by decide +kernel) hR) (m_pre hK hP) rfl rfl hsz rfl (lv_room hrm) hdg hcap) hS hA hA kk

set_option maxHeartbeats 4000000 in
set_option maxRecDepth 100000 in
theorem c_X1_daysWithConsent_f (l : Launch) (D : va_G) (tI tZ tL : ClassId) (h0 : Nat) (ad : Nat → Nat) (σ : ST) (v w : Int32) (hbad : m_in v 0 11 = false ∨ m_in w 0 (σ.1 2 - 1) = false) (hn : (m_L h0 ad).Nodup) : Met l yX1_daysWithConsent wsX1_daysWithConsent ({ frames := 2, cells := 0, slots := 0, locals := 43 } : Room) (va_Pc ([.ref h0, .int v, .int w] : List Value) (m_B D tI tZ tL h0 ad σ)) (u_Q (some (.int 0)) (m_P D tI tZ h0 ad (s_set (s_set σ 0 0) 0 1)) (m_A h0 ad)) 0 0 (m_A h0 ad) := by
  refine u_met (cc := cX1_daysWithConsent) (maxL := 3) (ret := (some .int)) (by decide) rfl (Nat.le_of_ble_eq_true rfl) ?_
  intro p e s m below meth c hx hb hml hr hts hown hlocks hB hS ls hl
  have hD : ∀ σ : ST, va_D (m_A h0 ad) (m_W tI tZ h0 ad σ) := fun σ => m_D σ hn (fun _ h => h)
  have hown : s.vm.findClass RX1 = some m.cls := hown
  obtain ⟨hP, hK⟩ := hB
  have hl : lv_has ls 3 [(0, .ref h0), (1, .int v), (2, .int w)] := hl
  have hin : ∀ w ∈ wsX10, w ∈ wsX1_daysWithConsent := in_X1_daysWithConsent
  have hl_thrown : ml_thrown ∈ wsX1_daysWithConsent := by decide +kernel
  have key : ∀ (H : Heap) (locs : List Loc), va_P D vwCl (m_W tI tZ h0 ad σ) H → va_S (m_A h0 ad) s.heap H locs → ∀ ls, lv_has ls 3 [(0, .ref h0), (1, .int v), (2, .int w)] → u_G p l e ({ frames := 2, cells := 0, slots := 0, locals := 43 } : Room) s m ([.ref h0, .int v, .int w] : List Value).toArray below meth c H locs (some (.int 0)) (m_P D tI tZ h0 ad (s_set (s_set σ 0 0) 0 1)) (m_A h0 ad) (F0 m 0 ls []) := by
    intro H locs hP hS ls hl
    refine lv_aload_n hx hb dX1_daysWithConsent_0 rfl (lv_at hl 0 rfl) ?_
    refine lv_iconst (v := 0) hx hb dX1_daysWithConsent_1 (by decide) ?_
    refine mp_thrown hx hb hts hin hown hK hP (hD _) hS hl_thrown dX1_daysWithConsent_2 (fun H locs hP hS => ?_)
    refine lv_iload_n hx hb dX1_daysWithConsent_5 rfl (lv_at hl 1 rfl) ?_
    refine k_X1_isSubject v ⟨hx, hb, hml, hown, hts⟩ gX1_daysWithConsent_X1_isSubject ⟨Nat.le_of_ble_eq_true rfl, Nat.le_of_ble_eq_true rfl⟩ hl.1 ⟨Nat.zero_le _, Nat.zero_le _⟩ (Nat.le_of_ble_eq_true rfl) dX1_daysWithConsent_6 ?_
    refine lv_ifeq_b (tgt := 34) hx hb dX1_daysWithConsent_9 (by decide) (fun c9 => ?_) (fun c9 => ?_)
    · refine lv_aload_n hx hb dX1_daysWithConsent_34 rfl (lv_at hl 0 rfl) ?_
      refine lv_iconst (v := 1) hx hb dX1_daysWithConsent_35 (by decide) ?_
      refine k_X1_fails D tI tZ tL h0 ad (s_set σ 0 0) 1 ⟨hx, hb, hml, hown, hts⟩ gX1_daysWithConsent_X1_fails ⟨Nat.le_of_ble_eq_true rfl, Nat.le_of_ble_eq_true rfl⟩ hl.1 ⟨Nat.zero_le _, Nat.zero_le _⟩ (Nat.le_of_ble_eq_true rfl) hn hK hP hS (fun q h => h) dX1_daysWithConsent_36 (fun H locs hP _ _ hS => ?_)
      exact u_iret hx hb hr hlocks hS (hP) (rfl) dX1_daysWithConsent_39
    · refine lv_aload_n hx hb dX1_daysWithConsent_12 rfl (lv_at hl 0 rfl) ?_
      refine lv_iload_n hx hb dX1_daysWithConsent_13 rfl (lv_at hl 2 rfl) ?_
      refine k_X1_isPurpose D tI tZ tL h0 ad (s_set σ 0 0) w ⟨hx, hb, hml, hown, hts⟩ gX1_daysWithConsent_X1_isPurpose ⟨Nat.le_of_ble_eq_true rfl, Nat.le_of_ble_eq_true rfl⟩ hl.1 ⟨Nat.zero_le _, Nat.zero_le _⟩ (Nat.le_of_ble_eq_true rfl) hK hP dX1_daysWithConsent_14 ?_
      refine lv_ifeq_b (tgt := 34) hx hb dX1_daysWithConsent_17 (by decide) (fun c17 => ?_) (fun c17 => absurd c17 (hbad.elim (fun h => absurd c9 (ne_t h)) (fun h => by first | exact ne_t h | exact ne_f h)))
      refine lv_aload_n hx hb dX1_daysWithConsent_34 rfl (lv_at hl 0 rfl) ?_
      refine lv_iconst (v := 1) hx hb dX1_daysWithConsent_35 (by decide) ?_
      refine k_X1_fails D tI tZ tL h0 ad (s_set σ 0 0) 1 ⟨hx, hb, hml, hown, hts⟩ gX1_daysWithConsent_X1_fails ⟨Nat.le_of_ble_eq_true rfl, Nat.le_of_ble_eq_true rfl⟩ hl.1 ⟨Nat.zero_le _, Nat.zero_le _⟩ (Nat.le_of_ble_eq_true rfl) hn hK hP hS (fun q h => h) dX1_daysWithConsent_36 (fun H locs hP _ _ hS => ?_)
      exact u_iret hx hb hr hlocks hS (hP) (rfl) dX1_daysWithConsent_39
  exact key _ _ hP hS ls hl
theorem k_X1_daysWithConsent_f {p : Program} {l : Launch} {e : Env} {R : Room} {s : State} {m : MethodId} {args : Array Value} {below : List Frame} {meth : Method} {c : Code} {H : Heap} {locs : List Loc} {cells slots : Nat} {Q : State → Prop} {cc : ByteArray} {pc : Nat} {ls : Array Slot} {rest : List Value} {Ts : List Cond} (D : va_G) (tI tZ tL : ClassId) (h0 : Nat) (ad : Nat → Nat) (σ : ST) (v w : Int32) (hbad : m_in v 0 11 = false ∨ m_in w 0 (σ.1 2 - 1) = false) {A0 : Nat → Prop} {H0 : Heap} {own : String} {idx nL : Nat} (S : CallFix p m c cc nL s args Ts own) (hG : GoodIn Ts (wsV own idx RX1 yX1_daysWithConsent wsX1_daysWithConsent)) (hR : ({ frames := 2, cells := 0, slots := 0, locals := 43 } : Room).frames + 1 ≤ R.frames ∧ 8 + (3 + 11) + ({ frames := 2, cells := 0, slots := 0, locals := 43 } : Room).locals ≤ R.locals) (hsz : ls.size = nL) (hcap : cells ≤ R.cells ∧ slots ≤ R.slots) (hrm : (rest.map fun v => v.category).sum ≤ 8) (hn : (m_L h0 ad).Nodup) (hK : va_K D vwCl (kTY tI tZ tL) s) (hP : va_P D vwCl (m_W tI tZ h0 ad σ) H) (hS : va_S A0 H0 H locs) (hA : ∀ q, m_A h0 ad q → A0 q) (hdg : decode cc pc = .ok (.invokevirtual idx, 3)) (kk : ∀ (H1 : Heap) (locs1 : List Loc), va_P D vwCl (m_W tI tZ h0 ad (s_set (s_set σ 0 0) 0 1)) H1 → H.size ≤ H1.size → (∀ q : Nat, q < H.size → ¬ m_A h0 ad q → H1[q]? = H[q]?) → va_S A0 H0 H1 locs1 → W p l e R s m args below meth c H1 locs1 cells slots Q (F0 m (pc + 3) ls (.int 0 :: rest))) : W p l e R s m args below meth c H locs cells slots Q (F0 m pc ls (.int w :: .int v :: .ref h0 :: rest)) :=
  u_call (va_runV (As := [.int v, .int w]) (rest := rest) S (c_X1_daysWithConsent_f l D tI tZ tL h0 ad σ v w hbad hn) (cwV 2 S.2.2.2.2 hG rfl rfl rfl (by decide +kernel) hR) (m_pre hK hP) rfl rfl hsz rfl (lv_room hrm) hdg hcap) hS hA hA kk

set_option maxHeartbeats 4000000 in
set_option maxRecDepth 100000 in
theorem c_X1_daysWithConsent (l : Launch) (D : va_G) (tI tZ tL : ClassId) (h0 : Nat) (ad : Nat → Nat) (σ : ST) (j : Nat) (hj12 : j < 12) (q : Nat) (np : Nat) (hnp : σ.1 2 = nI np) (hn8 : np ≤ 8) (hq : q < np) (hn : (m_L h0 ad).Nodup) : Met l yX1_daysWithConsent wsX1_daysWithConsent ({ frames := 2, cells := 0, slots := 0, locals := 43 } : Room) (va_Pc ([.ref h0, .int (nI j), .int (nI q)] : List Value) (m_B D tI tZ tL h0 ad σ)) (u_Q (some (.int (σ.2 6 (8 * j + q)))) (m_P D tI tZ h0 ad (s_set σ 0 0)) (m_A h0 ad)) 0 0 (m_A h0 ad) := by
  refine u_met (cc := cX1_daysWithConsent) (maxL := 3) (ret := (some .int)) (by decide) rfl (Nat.le_of_ble_eq_true rfl) ?_
  intro p e s m below meth c hx hb hml hr hts hown hlocks hB hS ls hl
  have hD : ∀ σ : ST, va_D (m_A h0 ad) (m_W tI tZ h0 ad σ) := fun σ => m_D σ hn (fun _ h => h)
  have hown : s.vm.findClass RX1 = some m.cls := hown
  obtain ⟨hP, hK⟩ := hB
  have hl : lv_has ls 3 [(0, .ref h0), (1, .int (nI j)), (2, .int (nI q))] := hl
  have hin : ∀ w ∈ wsX10, w ∈ wsX1_daysWithConsent := in_X1_daysWithConsent
  have hl_days : ml_days ∈ wsX1_daysWithConsent := by decide +kernel
  have hl_thrown : ml_thrown ∈ wsX1_daysWithConsent := by decide +kernel
  have key : ∀ (H : Heap) (locs : List Loc), va_P D vwCl (m_W tI tZ h0 ad σ) H → va_S (m_A h0 ad) s.heap H locs → ∀ ls, lv_has ls 3 [(0, .ref h0), (1, .int (nI j)), (2, .int (nI q))] → u_G p l e ({ frames := 2, cells := 0, slots := 0, locals := 43 } : Room) s m ([.ref h0, .int (nI j), .int (nI q)] : List Value).toArray below meth c H locs (some (.int (σ.2 6 (8 * j + q)))) (m_P D tI tZ h0 ad (s_set σ 0 0)) (m_A h0 ad) (F0 m 0 ls []) := by
    intro H locs hP hS ls hl
    refine lv_aload_n hx hb dX1_daysWithConsent_0 rfl (lv_at hl 0 rfl) ?_
    refine lv_iconst (v := 0) hx hb dX1_daysWithConsent_1 (by decide) ?_
    refine mp_thrown hx hb hts hin hown hK hP (hD _) hS hl_thrown dX1_daysWithConsent_2 (fun H locs hP hS => ?_)
    refine lv_iload_n hx hb dX1_daysWithConsent_5 rfl (lv_at hl 1 rfl) ?_
    refine k_X1_isSubject (nI j) ⟨hx, hb, hml, hown, hts⟩ gX1_daysWithConsent_X1_isSubject ⟨Nat.le_of_ble_eq_true rfl, Nat.le_of_ble_eq_true rfl⟩ hl.1 ⟨Nat.zero_le _, Nat.zero_le _⟩ (Nat.le_of_ble_eq_true rfl) dX1_daysWithConsent_6 ?_
    refine lv_ifeq_b (tgt := 34) hx hb dX1_daysWithConsent_9 (by decide) (fun c9 => absurd c9 (ne_f (m_in_t (n := 12) (by decide) hj12 (by decide)))) (fun c9 => ?_)
    refine lv_aload_n hx hb dX1_daysWithConsent_12 rfl (lv_at hl 0 rfl) ?_
    refine lv_iload_n hx hb dX1_daysWithConsent_13 rfl (lv_at hl 2 rfl) ?_
    refine k_X1_isPurpose D tI tZ tL h0 ad (s_set σ 0 0) (nI q) ⟨hx, hb, hml, hown, hts⟩ gX1_daysWithConsent_X1_isPurpose ⟨Nat.le_of_ble_eq_true rfl, Nat.le_of_ble_eq_true rfl⟩ hl.1 ⟨Nat.zero_le _, Nat.zero_le _⟩ (Nat.le_of_ble_eq_true rfl) hK hP dX1_daysWithConsent_14 ?_
    refine lv_ifeq_b (tgt := 34) hx hb dX1_daysWithConsent_17 (by decide) (fun c17 => absurd c17 (ne_f (m_in_t (n := np) (by show σ.1 2 - 1 = _; rw [hnp]) hq (by omega)))) (fun c17 => ?_)
    refine lv_aload_n hx hb dX1_daysWithConsent_20 rfl (lv_at hl 0 rfl) ?_
    refine mg_days hx hb hts hin hown hK hP hl_days dX1_daysWithConsent_21 ?_
    refine lv_bipush (v := 8) hx hb dX1_daysWithConsent_24 (by decide) ?_
    refine lv_iload_n hx hb dX1_daysWithConsent_26 rfl (lv_at hl 1 rfl) ?_
    refine lv_imul hx hb dX1_daysWithConsent_27 ?_
    refine lv_iload_n hx hb dX1_daysWithConsent_28 rfl (lv_at hl 2 rfl) ?_
    refine lv_iadd hx hb dX1_daysWithConsent_29 ?_
    refine lv_topc (y := nI (8 * j + q)) (m_ix j q) ?_
    refine mr_days (j := 8 * j + q) hx hb hK hP (by omega) dX1_daysWithConsent_30 ?_
    refine lv_goto (tgt := 39) hx hb dX1_daysWithConsent_31 (by decide) ?_
    exact u_iret hx hb hr hlocks hS (hP) (rfl) dX1_daysWithConsent_39
  exact key _ _ hP hS ls hl
theorem k_X1_daysWithConsent {p : Program} {l : Launch} {e : Env} {R : Room} {s : State} {m : MethodId} {args : Array Value} {below : List Frame} {meth : Method} {c : Code} {H : Heap} {locs : List Loc} {cells slots : Nat} {Q : State → Prop} {cc : ByteArray} {pc : Nat} {ls : Array Slot} {rest : List Value} {Ts : List Cond} (D : va_G) (tI tZ tL : ClassId) (h0 : Nat) (ad : Nat → Nat) (σ : ST) (j : Nat) (hj12 : j < 12) (q : Nat) (np : Nat) (hnp : σ.1 2 = nI np) (hn8 : np ≤ 8) (hq : q < np) {A0 : Nat → Prop} {H0 : Heap} {own : String} {idx nL : Nat} (S : CallFix p m c cc nL s args Ts own) (hG : GoodIn Ts (wsV own idx RX1 yX1_daysWithConsent wsX1_daysWithConsent)) (hR : ({ frames := 2, cells := 0, slots := 0, locals := 43 } : Room).frames + 1 ≤ R.frames ∧ 8 + (3 + 11) + ({ frames := 2, cells := 0, slots := 0, locals := 43 } : Room).locals ≤ R.locals) (hsz : ls.size = nL) (hcap : cells ≤ R.cells ∧ slots ≤ R.slots) (hrm : (rest.map fun v => v.category).sum ≤ 8) (hn : (m_L h0 ad).Nodup) (hK : va_K D vwCl (kTY tI tZ tL) s) (hP : va_P D vwCl (m_W tI tZ h0 ad σ) H) (hS : va_S A0 H0 H locs) (hA : ∀ q, m_A h0 ad q → A0 q) (hdg : decode cc pc = .ok (.invokevirtual idx, 3)) (kk : ∀ (H1 : Heap) (locs1 : List Loc), va_P D vwCl (m_W tI tZ h0 ad (s_set σ 0 0)) H1 → H.size ≤ H1.size → (∀ q : Nat, q < H.size → ¬ m_A h0 ad q → H1[q]? = H[q]?) → va_S A0 H0 H1 locs1 → W p l e R s m args below meth c H1 locs1 cells slots Q (F0 m (pc + 3) ls (.int (σ.2 6 (8 * j + q)) :: rest))) : W p l e R s m args below meth c H locs cells slots Q (F0 m pc ls (.int (nI q) :: .int (nI j) :: .ref h0 :: rest)) :=
  u_call (va_runV (As := [.int (nI j), .int (nI q)]) (rest := rest) S (c_X1_daysWithConsent l D tI tZ tL h0 ad σ j hj12 q np hnp hn8 hq hn) (cwV 2 S.2.2.2.2 hG rfl rfl rfl (by decide +kernel) hR) (m_pre hK hP) rfl rfl hsz rfl (lv_room hrm) hdg hcap) hS hA hA kk

set_option maxHeartbeats 4000000 in
set_option maxRecDepth 100000 in
theorem c_X1_uses_f (l : Launch) (D : va_G) (tI tZ tL : ClassId) (h0 : Nat) (ad : Nat → Nat) (σ : ST) (v w : Int32) (hbad : m_in v 0 11 = false ∨ m_in w 0 (σ.1 2 - 1) = false) (hn : (m_L h0 ad).Nodup) : Met l yX1_uses wsX1_uses ({ frames := 2, cells := 0, slots := 0, locals := 43 } : Room) (va_Pc ([.ref h0, .int v, .int w] : List Value) (m_B D tI tZ tL h0 ad σ)) (u_Q (some (.int 0)) (m_P D tI tZ h0 ad (s_set (s_set σ 0 0) 0 1)) (m_A h0 ad)) 0 0 (m_A h0 ad) := by
  refine u_met (cc := cX1_uses) (maxL := 5) (ret := (some .int)) (by decide) rfl (Nat.le_of_ble_eq_true rfl) ?_
  intro p e s m below meth c hx hb hml hr hts hown hlocks hB hS ls hl
  have hD : ∀ σ : ST, va_D (m_A h0 ad) (m_W tI tZ h0 ad σ) := fun σ => m_D σ hn (fun _ h => h)
  have hown : s.vm.findClass RX1 = some m.cls := hown
  obtain ⟨hP, hK⟩ := hB
  have hl : lv_has ls 5 [(0, .ref h0), (1, .int v), (2, .int w)] := hl
  have hin : ∀ w ∈ wsX10, w ∈ wsX1_uses := in_X1_uses
  have hl_thrown : ml_thrown ∈ wsX1_uses := by decide +kernel
  have key : ∀ (H : Heap) (locs : List Loc), va_P D vwCl (m_W tI tZ h0 ad σ) H → va_S (m_A h0 ad) s.heap H locs → ∀ ls, lv_has ls 5 [(0, .ref h0), (1, .int v), (2, .int w)] → u_G p l e ({ frames := 2, cells := 0, slots := 0, locals := 43 } : Room) s m ([.ref h0, .int v, .int w] : List Value).toArray below meth c H locs (some (.int 0)) (m_P D tI tZ h0 ad (s_set (s_set σ 0 0) 0 1)) (m_A h0 ad) (F0 m 0 ls []) := by
    intro H locs hP hS ls hl
    refine lv_aload_n hx hb dX1_uses_0 rfl (lv_at hl 0 rfl) ?_
    refine lv_iconst (v := 0) hx hb dX1_uses_1 (by decide) ?_
    refine mp_thrown hx hb hts hin hown hK hP (hD _) hS hl_thrown dX1_uses_2 (fun H locs hP hS => ?_)
    refine lv_iload_n hx hb dX1_uses_5 rfl (lv_at hl 1 rfl) ?_
    refine k_X1_isSubject v ⟨hx, hb, hml, hown, hts⟩ gX1_uses_X1_isSubject ⟨Nat.le_of_ble_eq_true rfl, Nat.le_of_ble_eq_true rfl⟩ hl.1 ⟨Nat.zero_le _, Nat.zero_le _⟩ (Nat.le_of_ble_eq_true rfl) dX1_uses_6 ?_
    refine lv_ifeq_b (tgt := 20) hx hb dX1_uses_9 (by decide) (fun c9 => ?_) (fun c9 => ?_)
    · refine lv_aload_n hx hb dX1_uses_20 rfl (lv_at hl 0 rfl) ?_
      refine lv_iconst (v := 1) hx hb dX1_uses_21 (by decide) ?_
      refine k_X1_fails D tI tZ tL h0 ad (s_set σ 0 0) 1 ⟨hx, hb, hml, hown, hts⟩ gX1_uses_X1_fails ⟨Nat.le_of_ble_eq_true rfl, Nat.le_of_ble_eq_true rfl⟩ hl.1 ⟨Nat.zero_le _, Nat.zero_le _⟩ (Nat.le_of_ble_eq_true rfl) hn hK hP hS (fun q h => h) dX1_uses_22 (fun H locs hP _ _ hS => ?_)
      exact u_iret hx hb hr hlocks hS (hP) (rfl) dX1_uses_25
    · refine lv_aload_n hx hb dX1_uses_12 rfl (lv_at hl 0 rfl) ?_
      refine lv_iload_n hx hb dX1_uses_13 rfl (lv_at hl 2 rfl) ?_
      refine k_X1_isPurpose D tI tZ tL h0 ad (s_set σ 0 0) w ⟨hx, hb, hml, hown, hts⟩ gX1_uses_X1_isPurpose ⟨Nat.le_of_ble_eq_true rfl, Nat.le_of_ble_eq_true rfl⟩ hl.1 ⟨Nat.zero_le _, Nat.zero_le _⟩ (Nat.le_of_ble_eq_true rfl) hK hP dX1_uses_14 ?_
      refine lv_ifne_b (tgt := 26) hx hb dX1_uses_17 (by decide) (fun c17 => absurd c17 (hbad.elim (fun h => absurd c9 (ne_t h)) (fun h => by first | exact ne_t h | exact ne_f h))) (fun c17 => ?_)
      refine lv_aload_n hx hb dX1_uses_20 rfl (lv_at hl 0 rfl) ?_
      refine lv_iconst (v := 1) hx hb dX1_uses_21 (by decide) ?_
      refine k_X1_fails D tI tZ tL h0 ad (s_set σ 0 0) 1 ⟨hx, hb, hml, hown, hts⟩ gX1_uses_X1_fails ⟨Nat.le_of_ble_eq_true rfl, Nat.le_of_ble_eq_true rfl⟩ hl.1 ⟨Nat.zero_le _, Nat.zero_le _⟩ (Nat.le_of_ble_eq_true rfl) hn hK hP hS (fun q h => h) dX1_uses_22 (fun H locs hP _ _ hS => ?_)
      exact u_iret hx hb hr hlocks hS (hP) (rfl) dX1_uses_25
  exact key _ _ hP hS ls hl
theorem k_X1_uses_f {p : Program} {l : Launch} {e : Env} {R : Room} {s : State} {m : MethodId} {args : Array Value} {below : List Frame} {meth : Method} {c : Code} {H : Heap} {locs : List Loc} {cells slots : Nat} {Q : State → Prop} {cc : ByteArray} {pc : Nat} {ls : Array Slot} {rest : List Value} {Ts : List Cond} (D : va_G) (tI tZ tL : ClassId) (h0 : Nat) (ad : Nat → Nat) (σ : ST) (v w : Int32) (hbad : m_in v 0 11 = false ∨ m_in w 0 (σ.1 2 - 1) = false) {A0 : Nat → Prop} {H0 : Heap} {own : String} {idx nL : Nat} (S : CallFix p m c cc nL s args Ts own) (hG : GoodIn Ts (wsV own idx RX1 yX1_uses wsX1_uses)) (hR : ({ frames := 2, cells := 0, slots := 0, locals := 43 } : Room).frames + 1 ≤ R.frames ∧ 8 + (5 + 11) + ({ frames := 2, cells := 0, slots := 0, locals := 43 } : Room).locals ≤ R.locals) (hsz : ls.size = nL) (hcap : cells ≤ R.cells ∧ slots ≤ R.slots) (hrm : (rest.map fun v => v.category).sum ≤ 8) (hn : (m_L h0 ad).Nodup) (hK : va_K D vwCl (kTY tI tZ tL) s) (hP : va_P D vwCl (m_W tI tZ h0 ad σ) H) (hS : va_S A0 H0 H locs) (hA : ∀ q, m_A h0 ad q → A0 q) (hdg : decode cc pc = .ok (.invokevirtual idx, 3)) (kk : ∀ (H1 : Heap) (locs1 : List Loc), va_P D vwCl (m_W tI tZ h0 ad (s_set (s_set σ 0 0) 0 1)) H1 → H.size ≤ H1.size → (∀ q : Nat, q < H.size → ¬ m_A h0 ad q → H1[q]? = H[q]?) → va_S A0 H0 H1 locs1 → W p l e R s m args below meth c H1 locs1 cells slots Q (F0 m (pc + 3) ls (.int 0 :: rest))) : W p l e R s m args below meth c H locs cells slots Q (F0 m pc ls (.int w :: .int v :: .ref h0 :: rest)) :=
  u_call (va_runV (As := [.int v, .int w]) (rest := rest) S (c_X1_uses_f l D tI tZ tL h0 ad σ v w hbad hn) (cwV 2 S.2.2.2.2 hG rfl rfl rfl (by decide +kernel) hR) (m_pre hK hP) rfl rfl hsz rfl (lv_room hrm) hdg hcap) hS hA hA kk

set_option maxHeartbeats 4000000 in
set_option maxRecDepth 100000 in
theorem c_X1_uses (l : Launch) (D : va_G) (tI tZ tL : ClassId) (h0 : Nat) (ad : Nat → Nat) (σ : ST) (j : Nat) (hj12 : j < 12) (q : Nat) (np : Nat) (hnp : σ.1 2 = nI np) (hn8 : np ≤ 8) (hq : q < np) (nr : Nat) (hnr : σ.1 7 = nI nr) (hn30 : nr ≤ 30)  (hn : (m_L h0 ad).Nodup) : Met l yX1_uses wsX1_uses ({ frames := 3, cells := 0, slots := 0, locals := 68 } : Room) (va_Pc ([.ref h0, .int (nI j), .int (nI q)] : List Value) (m_B D tI tZ tL h0 ad σ)) (u_Q (some (.int (m_uses σ.2 j q nr))) (m_P D tI tZ h0 ad (s_set σ 0 0)) (m_A h0 ad)) 0 0 (m_A h0 ad) := by
  refine u_met (cc := cX1_uses) (maxL := 5) (ret := (some .int)) (by decide) rfl (Nat.le_of_ble_eq_true rfl) ?_
  intro p e s m below meth c hx hb hml hr hts hown hlocks hB hS ls hl
  have hD : ∀ σ : ST, va_D (m_A h0 ad) (m_W tI tZ h0 ad σ) := fun σ => m_D σ hn (fun _ h => h)
  have hown : s.vm.findClass RX1 = some m.cls := hown
  obtain ⟨hP, hK⟩ := hB
  have hl : lv_has ls 5 [(0, .ref h0), (1, .int (nI j)), (2, .int (nI q))] := hl
  have hin : ∀ w ∈ wsX10, w ∈ wsX1_uses := in_X1_uses
  have hl_many : ml_many ∈ wsX1_uses := by decide +kernel
  have hl_thrown : ml_thrown ∈ wsX1_uses := by decide +kernel
  have hl_used : ml_used ∈ wsX1_uses := by decide +kernel
  have key : ∀ (H : Heap) (locs : List Loc), va_P D vwCl (m_W tI tZ h0 ad σ) H → va_S (m_A h0 ad) s.heap H locs → ∀ ls, lv_has ls 5 [(0, .ref h0), (1, .int (nI j)), (2, .int (nI q))] → u_G p l e ({ frames := 3, cells := 0, slots := 0, locals := 68 } : Room) s m ([.ref h0, .int (nI j), .int (nI q)] : List Value).toArray below meth c H locs (some (.int (m_uses σ.2 j q nr))) (m_P D tI tZ h0 ad (s_set σ 0 0)) (m_A h0 ad) (F0 m 0 ls []) := by
    intro H locs hP hS ls hl
    refine lv_aload_n hx hb dX1_uses_0 rfl (lv_at hl 0 rfl) ?_
    refine lv_iconst (v := 0) hx hb dX1_uses_1 (by decide) ?_
    refine mp_thrown hx hb hts hin hown hK hP (hD _) hS hl_thrown dX1_uses_2 (fun H locs hP hS => ?_)
    refine lv_iload_n hx hb dX1_uses_5 rfl (lv_at hl 1 rfl) ?_
    refine k_X1_isSubject (nI j) ⟨hx, hb, hml, hown, hts⟩ gX1_uses_X1_isSubject ⟨Nat.le_of_ble_eq_true rfl, Nat.le_of_ble_eq_true rfl⟩ hl.1 ⟨Nat.zero_le _, Nat.zero_le _⟩ (Nat.le_of_ble_eq_true rfl) dX1_uses_6 ?_
    refine lv_ifeq_b (tgt := 20) hx hb dX1_uses_9 (by decide) (fun c9 => absurd c9 (ne_f (m_in_t (n := 12) (by decide) hj12 (by decide)))) (fun c9 => ?_)
    refine lv_aload_n hx hb dX1_uses_12 rfl (lv_at hl 0 rfl) ?_
    refine lv_iload_n hx hb dX1_uses_13 rfl (lv_at hl 2 rfl) ?_
    refine k_X1_isPurpose D tI tZ tL h0 ad (s_set σ 0 0) (nI q) ⟨hx, hb, hml, hown, hts⟩ gX1_uses_X1_isPurpose ⟨Nat.le_of_ble_eq_true rfl, Nat.le_of_ble_eq_true rfl⟩ hl.1 ⟨Nat.zero_le _, Nat.zero_le _⟩ (Nat.le_of_ble_eq_true rfl) hK hP dX1_uses_14 ?_
    refine lv_ifne_b (tgt := 26) hx hb dX1_uses_17 (by decide) (fun c17 => ?_) (fun c17 => absurd c17 (ne_f (m_in_t (n := np) (by show σ.1 2 - 1 = _; rw [hnp]) hq (by omega))))
    refine lv_iconst (v := 0) hx hb dX1_uses_26 (by decide) ?_
    refine lv_istore_n (lv' := [(3, .int 0), (0, .ref h0), (1, .int (nI j)), (2, .int (nI q))]) hx hb dX1_uses_27 rfl hl (by decide) rfl (fun ls hl => ?_)
    refine lv_iconst (v := 0) hx hb dX1_uses_28 (by decide) ?_
    refine lv_istore (lv' := [(4, .int 0), (3, .int 0), (0, .ref h0), (1, .int (nI j)), (2, .int (nI q))]) hx hb dX1_uses_29 hl (by decide) rfl (fun ls hl => ?_)
    have loop31 : ∀ (n k : Nat), k ≤ nr → nr + 1 ≤ k + n → ∀ (H : Heap) (locs : List Loc), va_P D vwCl (m_W tI tZ h0 ad (s_set σ 0 0)) H → va_S (m_A h0 ad) s.heap H locs → ∀ ls, lv_has ls 5 [(0, .ref h0), (1, .int (nI j)), (2, .int (nI q)), (3, .int (m_uses σ.2 j q k)), (4, .int (nI k))] → u_G p l e ({ frames := 3, cells := 0, slots := 0, locals := 68 } : Room) s m ([.ref h0, .int (nI j), .int (nI q)] : List Value).toArray below meth c H locs (some (.int (m_uses σ.2 j q nr))) (m_P D tI tZ h0 ad (s_set σ 0 0)) (m_A h0 ad) (F0 m 31 ls []) := by
      intro n
      induction n with
      | zero => intro k h1 h2; omega
      | succ n ihk =>
        intro k hk_k hn_k   H locs hP hS ls hl
        refine lv_iload hx hb dX1_uses_31 (lv_at hl 4 rfl) ?_
        refine lv_aload_n hx hb dX1_uses_33 rfl (lv_at hl 0 rfl) ?_
        refine mg_many hx hb hts hin hown hK hP hl_many dX1_uses_34 ?_
        refine lv_icmp_ge (tgt := 78) hx hb dX1_uses_37 (by decide) (fun c37 => ?_) (fun c37 => ?_)
        · have hkn : k = nr := Nat.le_antisymm hk_k (ge_t hnr (by omega) (by omega) c37)
          refine lv_iload_n hx hb dX1_uses_78 rfl (lv_at hl 3 rfl) ?_
          exact u_iret hx hb hr hlocks hS (hP) (by rw [hkn]) dX1_uses_79
        · have hkn : k < nr := ge_f hnr (by omega) c37
          refine lv_iload_n hx hb dX1_uses_40 rfl (lv_at hl 3 rfl) ?_
          refine lv_aload_n hx hb dX1_uses_41 rfl (lv_at hl 0 rfl) ?_
          refine lv_iload hx hb dX1_uses_42 (lv_at hl 4 rfl) ?_
          refine k_X1_subjects D tI tZ tL h0 ad (s_set σ 0 0) k (by omega) ⟨hx, hb, hml, hown, hts⟩ gX1_uses_X1_subjects ⟨Nat.le_of_ble_eq_true rfl, Nat.le_of_ble_eq_true rfl⟩ hl.1 ⟨Nat.zero_le _, Nat.zero_le _⟩ (Nat.le_of_ble_eq_true rfl) hK hP dX1_uses_44 ?_
          refine lv_iload_n hx hb dX1_uses_47 rfl (lv_at hl 1 rfl) ?_
          refine k_X1_has (m_subj σ.2 k) j (by omega) ⟨hx, hb, hml, hown, hts⟩ gX1_uses_X1_has ⟨Nat.le_of_ble_eq_true rfl, Nat.le_of_ble_eq_true rfl⟩ hl.1 ⟨Nat.zero_le _, Nat.zero_le _⟩ (Nat.le_of_ble_eq_true rfl) dX1_uses_48 ?_
          refine lv_ifeq_b (tgt := 69) hx hb dX1_uses_51 (by decide) (fun c51 => ?_) (fun c51 => ?_)
          · have c51 : bt (m_subj σ.2 k) j = false := c51
            refine lv_iconst (v := 0) hx hb dX1_uses_69 (by decide) ?_
            refine lv_iadd hx hb dX1_uses_70 ?_
            refine lv_istore_n (lv' := [(3, .int ((m_uses σ.2 j q k) + 0)), (0, .ref h0), (1, .int (nI j)), (2, .int (nI q)), (4, .int (nI k))]) hx hb dX1_uses_71 rfl hl (by decide) rfl (fun ls hl => ?_)
            refine lv_iinc (v := (nI k) + 1) (lv' := [(4, .int ((nI k) + 1)), (3, .int ((m_uses σ.2 j q k) + 0)), (0, .ref h0), (1, .int (nI j)), (2, .int (nI q))]) hx hb dX1_uses_72 hl (k := 4) rfl rfl (by decide) rfl (fun ls hl => ?_)
            refine lv_goto (tgt := 31) hx hb dX1_uses_75 (by decide) ?_
            exact ihk (k + 1) (by omega) (by omega)   _ _ (hP) hS _ (lv_to (L := [(0, .ref h0), (1, .int (nI j)), (2, .int (nI q)), (3, .int ((m_uses σ.2 j q k) + 0)), (4, .int ((nI k) + 1))]) (lv_sub hl [2, 3, 4, 1, 0] rfl) (lv_cr (lv_cr (lv_cr (lv_ci (by rw [add0, m_uses, if_neg (ne_t c51)]) (lv_ci (nI_1 k) rfl))))))
          · have c51 : bt (m_subj σ.2 k) j = true := c51
            refine lv_aload_n hx hb dX1_uses_54 rfl (lv_at hl 0 rfl) ?_
            refine mg_used hx hb hts hin hown hK hP hl_used dX1_uses_55 ?_
            refine lv_bipush (v := 8) hx hb dX1_uses_58 (by decide) ?_
            refine lv_iload hx hb dX1_uses_60 (lv_at hl 4 rfl) ?_
            refine lv_imul hx hb dX1_uses_62 ?_
            refine lv_iload_n hx hb dX1_uses_63 rfl (lv_at hl 2 rfl) ?_
            refine lv_iadd hx hb dX1_uses_64 ?_
            refine lv_topc (y := nI (8 * k + q)) (m_ix k q) ?_
            refine mr_used (j := 8 * k + q) hx hb hK hP (by omega) dX1_uses_65 ?_
            refine lv_goto (tgt := 70) hx hb dX1_uses_66 (by decide) ?_
            refine lv_iadd hx hb dX1_uses_70 ?_
            refine lv_istore_n (lv' := [(3, .int ((m_uses σ.2 j q k) + (σ.2 13 (8 * k + q)))), (0, .ref h0), (1, .int (nI j)), (2, .int (nI q)), (4, .int (nI k))]) hx hb dX1_uses_71 rfl hl (by decide) rfl (fun ls hl => ?_)
            refine lv_iinc (v := (nI k) + 1) (lv' := [(4, .int ((nI k) + 1)), (3, .int ((m_uses σ.2 j q k) + (σ.2 13 (8 * k + q)))), (0, .ref h0), (1, .int (nI j)), (2, .int (nI q))]) hx hb dX1_uses_72 hl (k := 4) rfl rfl (by decide) rfl (fun ls hl => ?_)
            refine lv_goto (tgt := 31) hx hb dX1_uses_75 (by decide) ?_
            exact ihk (k + 1) (by omega) (by omega)   _ _ (hP) hS _ (lv_to (L := [(0, .ref h0), (1, .int (nI j)), (2, .int (nI q)), (3, .int ((m_uses σ.2 j q k) + (σ.2 13 (8 * k + q)))), (4, .int ((nI k) + 1))]) (lv_sub hl [2, 3, 4, 1, 0] rfl) (lv_cr (lv_cr (lv_cr (lv_ci (by rw [m_uses, if_pos c51]) (lv_ci (nI_1 k) rfl))))))
    exact loop31 (nr + 1) 0 (by omega) (by omega)   _ _ (hP) hS _ (lv_to (L := [(0, .ref h0), (1, .int (nI j)), (2, .int (nI q)), (3, .int 0), (4, .int 0)]) (lv_sub hl [2, 3, 4, 1, 0] rfl) (lv_cr (lv_cr (lv_cr (lv_ci (rfl) (lv_ci (rfl) rfl))))))
  exact key _ _ hP hS ls hl
theorem k_X1_uses {p : Program} {l : Launch} {e : Env} {R : Room} {s : State} {m : MethodId} {args : Array Value} {below : List Frame} {meth : Method} {c : Code} {H : Heap} {locs : List Loc} {cells slots : Nat} {Q : State → Prop} {cc : ByteArray} {pc : Nat} {ls : Array Slot} {rest : List Value} {Ts : List Cond} (D : va_G) (tI tZ tL : ClassId) (h0 : Nat) (ad : Nat → Nat) (σ : ST) (j : Nat) (hj12 : j < 12) (q : Nat) (np : Nat) (hnp : σ.1 2 = nI np) (hn8 : np ≤ 8) (hq : q < np) (nr : Nat) (hnr : σ.1 7 = nI nr) (hn30 : nr ≤ 30)  {A0 : Nat → Prop} {H0 : Heap} {own : String} {idx nL : Nat} (S : CallFix p m c cc nL s args Ts own) (hG : GoodIn Ts (wsV own idx RX1 yX1_uses wsX1_uses)) (hR : ({ frames := 3, cells := 0, slots := 0, locals := 68 } : Room).frames + 1 ≤ R.frames ∧ 8 + (5 + 11) + ({ frames := 3, cells := 0, slots := 0, locals := 68 } : Room).locals ≤ R.locals) (hsz : ls.size = nL) (hcap : cells ≤ R.cells ∧ slots ≤ R.slots) (hrm : (rest.map fun v => v.category).sum ≤ 8) (hn : (m_L h0 ad).Nodup) (hK : va_K D vwCl (kTY tI tZ tL) s) (hP : va_P D vwCl (m_W tI tZ h0 ad σ) H) (hS : va_S A0 H0 H locs) (hA : ∀ q, m_A h0 ad q → A0 q) (hdg : decode cc pc = .ok (.invokevirtual idx, 3)) (kk : ∀ (H1 : Heap) (locs1 : List Loc), va_P D vwCl (m_W tI tZ h0 ad (s_set σ 0 0)) H1 → H.size ≤ H1.size → (∀ q : Nat, q < H.size → ¬ m_A h0 ad q → H1[q]? = H[q]?) → va_S A0 H0 H1 locs1 → W p l e R s m args below meth c H1 locs1 cells slots Q (F0 m (pc + 3) ls (.int (m_uses σ.2 j q nr) :: rest))) : W p l e R s m args below meth c H locs cells slots Q (F0 m pc ls (.int (nI q) :: .int (nI j) :: .ref h0 :: rest)) :=
  u_call (va_runV (As := [.int (nI j), .int (nI q)]) (rest := rest) S (c_X1_uses l D tI tZ tL h0 ad σ j hj12 q np hnp hn8 hq nr hnr hn30 hn) (cwV 2 S.2.2.2.2 hG rfl rfl rfl (by decide +kernel) hR) (m_pre hK hP) rfl rfl hsz rfl (lv_room hrm) hdg hcap) hS hA hA kk

set_option maxHeartbeats 4000000 in
set_option maxRecDepth 100000 in
theorem c_X1_consent_f (l : Launch) (D : va_G) (tI tZ tL : ClassId) (h0 : Nat) (ad : Nat → Nat) (σ : ST) (v w : Int32) (g : Bool) (hbad : m_in v 0 11 = false ∨ m_in w 0 (σ.1 2 - 1) = false) (hn : (m_L h0 ad).Nodup) : Met l yX1_consent wsX1_consent ({ frames := 2, cells := 0, slots := 0, locals := 43 } : Room) (va_Pc ([.ref h0, .int v, .int w, .int (b01 g)] : List Value) (m_B D tI tZ tL h0 ad σ)) (u_Q (some (.int (b01 false))) (m_P D tI tZ h0 ad (s_set σ 0 1)) (m_A h0 ad)) 0 0 (m_A h0 ad) := by
  refine u_met (cc := cX1_consent) (maxL := 4) (ret := (some .boolean)) (by decide) rfl (Nat.le_of_ble_eq_true rfl) ?_
  intro p e s m below meth c hx hb hml hr hts hown hlocks hB hS ls hl
  have hD : ∀ σ : ST, va_D (m_A h0 ad) (m_W tI tZ h0 ad σ) := fun σ => m_D σ hn (fun _ h => h)
  have hown : s.vm.findClass RX1 = some m.cls := hown
  obtain ⟨hP, hK⟩ := hB
  have hl : lv_has ls 4 [(0, .ref h0), (1, .int v), (2, .int w), (3, .int (b01 g))] := hl
  have hin : ∀ w ∈ wsX10, w ∈ wsX1_consent := in_X1_consent
  have hl_thrown : ml_thrown ∈ wsX1_consent := by decide +kernel
  have key : ∀ (H : Heap) (locs : List Loc), va_P D vwCl (m_W tI tZ h0 ad σ) H → va_S (m_A h0 ad) s.heap H locs → ∀ ls, lv_has ls 4 [(0, .ref h0), (1, .int v), (2, .int w), (3, .int (b01 g))] → u_G p l e ({ frames := 2, cells := 0, slots := 0, locals := 43 } : Room) s m ([.ref h0, .int v, .int w, .int (b01 g)] : List Value).toArray below meth c H locs (some (.int (b01 false))) (m_P D tI tZ h0 ad (s_set σ 0 1)) (m_A h0 ad) (F0 m 0 ls []) := by
    intro H locs hP hS ls hl
    refine lv_aload_n hx hb dX1_consent_0 rfl (lv_at hl 0 rfl) ?_
    refine lv_iload_n hx hb dX1_consent_1 rfl (lv_at hl 1 rfl) ?_
    refine k_X1_isSubject v ⟨hx, hb, hml, hown, hts⟩ gX1_consent_X1_isSubject ⟨Nat.le_of_ble_eq_true rfl, Nat.le_of_ble_eq_true rfl⟩ hl.1 ⟨Nat.zero_le _, Nat.zero_le _⟩ (Nat.le_of_ble_eq_true rfl) dX1_consent_2 ?_
    refine lv_ifeq_b (tgt := 20) hx hb dX1_consent_5 (by decide) (fun c5 => ?_) (fun c5 => ?_)
    · refine lv_iconst (v := 1) hx hb dX1_consent_20 (by decide) ?_
      refine mp_thrown hx hb hts hin hown hK hP (hD _) hS hl_thrown dX1_consent_21 (fun H locs hP hS => ?_)
      refine lv_aload_n hx hb dX1_consent_24 rfl (lv_at hl 0 rfl) ?_
      refine mg_thrown hx hb hts hin hown hK hP hl_thrown dX1_consent_25 ?_
      refine lv_if_gt (tgt := 45) hx hb dX1_consent_28 (by decide) (fun c28 => ?_) (fun c28 => absurd (show (0 : Int32) < 1 by decide) c28)
      refine lv_iconst (v := 0) hx hb dX1_consent_45 (by decide) ?_
      exact u_zret hx hb hr hlocks hS (hP) (rfl) dX1_consent_46
    · refine lv_aload_n hx hb dX1_consent_8 rfl (lv_at hl 0 rfl) ?_
      refine lv_iload_n hx hb dX1_consent_9 rfl (lv_at hl 2 rfl) ?_
      refine k_X1_isPurpose D tI tZ tL h0 ad σ w ⟨hx, hb, hml, hown, hts⟩ gX1_consent_X1_isPurpose ⟨Nat.le_of_ble_eq_true rfl, Nat.le_of_ble_eq_true rfl⟩ hl.1 ⟨Nat.zero_le _, Nat.zero_le _⟩ (Nat.le_of_ble_eq_true rfl) hK hP dX1_consent_10 ?_
      refine lv_ifeq_b (tgt := 20) hx hb dX1_consent_13 (by decide) (fun c13 => ?_) (fun c13 => absurd c13 (hbad.elim (fun h => absurd c5 (ne_t h)) (fun h => by first | exact ne_t h | exact ne_f h)))
      refine lv_iconst (v := 1) hx hb dX1_consent_20 (by decide) ?_
      refine mp_thrown hx hb hts hin hown hK hP (hD _) hS hl_thrown dX1_consent_21 (fun H locs hP hS => ?_)
      refine lv_aload_n hx hb dX1_consent_24 rfl (lv_at hl 0 rfl) ?_
      refine mg_thrown hx hb hts hin hown hK hP hl_thrown dX1_consent_25 ?_
      refine lv_if_gt (tgt := 45) hx hb dX1_consent_28 (by decide) (fun c28 => ?_) (fun c28 => absurd (show (0 : Int32) < 1 by decide) c28)
      refine lv_iconst (v := 0) hx hb dX1_consent_45 (by decide) ?_
      exact u_zret hx hb hr hlocks hS (hP) (rfl) dX1_consent_46
  exact key _ _ hP hS ls hl
theorem k_X1_consent_f {p : Program} {l : Launch} {e : Env} {R : Room} {s : State} {m : MethodId} {args : Array Value} {below : List Frame} {meth : Method} {c : Code} {H : Heap} {locs : List Loc} {cells slots : Nat} {Q : State → Prop} {cc : ByteArray} {pc : Nat} {ls : Array Slot} {rest : List Value} {Ts : List Cond} (D : va_G) (tI tZ tL : ClassId) (h0 : Nat) (ad : Nat → Nat) (σ : ST) (v w : Int32) (g : Bool) (hbad : m_in v 0 11 = false ∨ m_in w 0 (σ.1 2 - 1) = false) {A0 : Nat → Prop} {H0 : Heap} {own : String} {idx nL : Nat} (S : CallFix p m c cc nL s args Ts own) (hG : GoodIn Ts (wsV own idx RX1 yX1_consent wsX1_consent)) (hR : ({ frames := 2, cells := 0, slots := 0, locals := 43 } : Room).frames + 1 ≤ R.frames ∧ 8 + (4 + 11) + ({ frames := 2, cells := 0, slots := 0, locals := 43 } : Room).locals ≤ R.locals) (hsz : ls.size = nL) (hcap : cells ≤ R.cells ∧ slots ≤ R.slots) (hrm : (rest.map fun v => v.category).sum ≤ 8) (hn : (m_L h0 ad).Nodup) (hK : va_K D vwCl (kTY tI tZ tL) s) (hP : va_P D vwCl (m_W tI tZ h0 ad σ) H) (hS : va_S A0 H0 H locs) (hA : ∀ q, m_A h0 ad q → A0 q) (hdg : decode cc pc = .ok (.invokevirtual idx, 3)) (kk : ∀ (H1 : Heap) (locs1 : List Loc), va_P D vwCl (m_W tI tZ h0 ad (s_set σ 0 1)) H1 → H.size ≤ H1.size → (∀ q : Nat, q < H.size → ¬ m_A h0 ad q → H1[q]? = H[q]?) → va_S A0 H0 H1 locs1 → W p l e R s m args below meth c H1 locs1 cells slots Q (F0 m (pc + 3) ls (.int (b01 false) :: rest))) : W p l e R s m args below meth c H locs cells slots Q (F0 m pc ls (.int (b01 g) :: .int w :: .int v :: .ref h0 :: rest)) :=
  u_call (va_runV (As := [.int v, .int w, .int (b01 g)]) (rest := rest) S (c_X1_consent_f l D tI tZ tL h0 ad σ v w g hbad hn) (cwV 3 S.2.2.2.2 hG rfl rfl rfl (by decide +kernel) hR) (m_pre hK hP) rfl rfl hsz rfl (lv_room hrm) hdg hcap) hS hA hA kk

set_option maxHeartbeats 4000000 in
set_option maxRecDepth 100000 in
theorem c_X1_consent (l : Launch) (D : va_G) (tI tZ tL : ClassId) (h0 : Nat) (ad : Nat → Nat) (σ : ST) (j : Nat) (hj12 : j < 12) (q : Nat) (g : Bool) (np : Nat) (hnp : σ.1 2 = nI np) (hn8 : np ≤ 8) (hq : q < np) (hn : (m_L h0 ad).Nodup) : Met l yX1_consent wsX1_consent ({ frames := 2, cells := 0, slots := 0, locals := 43 } : Room) (va_Pc ([.ref h0, .int (nI j), .int (nI q), .int (b01 g)] : List Value) (m_B D tI tZ tL h0 ad σ)) (u_Q (some (.int (b01 (!(bt (σ.2 5 j) q == g))))) (m_P D tI tZ h0 ad (m_consS σ j q g)) (m_A h0 ad)) 0 0 (m_A h0 ad) := by
  refine u_met (cc := cX1_consent) (maxL := 4) (ret := (some .boolean)) (by decide) rfl (Nat.le_of_ble_eq_true rfl) ?_
  intro p e s m below meth c hx hb hml hr hts hown hlocks hB hS ls hl
  have hD : ∀ σ : ST, va_D (m_A h0 ad) (m_W tI tZ h0 ad σ) := fun σ => m_D σ hn (fun _ h => h)
  have hown : s.vm.findClass RX1 = some m.cls := hown
  obtain ⟨hP, hK⟩ := hB
  have hl : lv_has ls 4 [(0, .ref h0), (1, .int (nI j)), (2, .int (nI q)), (3, .int (b01 g))] := hl
  have hin : ∀ w ∈ wsX10, w ∈ wsX1_consent := in_X1_consent
  have hl_consented : ml_consented ∈ wsX1_consent := by decide +kernel
  have hl_thrown : ml_thrown ∈ wsX1_consent := by decide +kernel
  have key : ∀ (H : Heap) (locs : List Loc), va_P D vwCl (m_W tI tZ h0 ad σ) H → va_S (m_A h0 ad) s.heap H locs → ∀ ls, lv_has ls 4 [(0, .ref h0), (1, .int (nI j)), (2, .int (nI q)), (3, .int (b01 g))] → u_G p l e ({ frames := 2, cells := 0, slots := 0, locals := 43 } : Room) s m ([.ref h0, .int (nI j), .int (nI q), .int (b01 g)] : List Value).toArray below meth c H locs (some (.int (b01 (!(bt (σ.2 5 j) q == g))))) (m_P D tI tZ h0 ad (m_consS σ j q g)) (m_A h0 ad) (F0 m 0 ls []) := by
    intro H locs hP hS ls hl
    refine lv_aload_n hx hb dX1_consent_0 rfl (lv_at hl 0 rfl) ?_
    refine lv_iload_n hx hb dX1_consent_1 rfl (lv_at hl 1 rfl) ?_
    refine k_X1_isSubject (nI j) ⟨hx, hb, hml, hown, hts⟩ gX1_consent_X1_isSubject ⟨Nat.le_of_ble_eq_true rfl, Nat.le_of_ble_eq_true rfl⟩ hl.1 ⟨Nat.zero_le _, Nat.zero_le _⟩ (Nat.le_of_ble_eq_true rfl) dX1_consent_2 ?_
    refine lv_ifeq_b (tgt := 20) hx hb dX1_consent_5 (by decide) (fun c5 => absurd c5 (ne_f (m_in_t (n := 12) (by decide) hj12 (by decide)))) (fun c5 => ?_)
    refine lv_aload_n hx hb dX1_consent_8 rfl (lv_at hl 0 rfl) ?_
    refine lv_iload_n hx hb dX1_consent_9 rfl (lv_at hl 2 rfl) ?_
    refine k_X1_isPurpose D tI tZ tL h0 ad σ (nI q) ⟨hx, hb, hml, hown, hts⟩ gX1_consent_X1_isPurpose ⟨Nat.le_of_ble_eq_true rfl, Nat.le_of_ble_eq_true rfl⟩ hl.1 ⟨Nat.zero_le _, Nat.zero_le _⟩ (Nat.le_of_ble_eq_true rfl) hK hP dX1_consent_10 ?_
    refine lv_ifeq_b (tgt := 20) hx hb dX1_consent_13 (by decide) (fun c13 => absurd c13 (ne_f (m_in_t (n := np) (by show σ.1 2 - 1 = _; rw [hnp]) hq (by omega)))) (fun c13 => ?_)
    refine lv_iconst (v := 0) hx hb dX1_consent_16 (by decide) ?_
    refine lv_goto (tgt := 21) hx hb dX1_consent_17 (by decide) ?_
    refine mp_thrown hx hb hts hin hown hK hP (hD _) hS hl_thrown dX1_consent_21 (fun H locs hP hS => ?_)
    refine lv_aload_n hx hb dX1_consent_24 rfl (lv_at hl 0 rfl) ?_
    refine mg_thrown hx hb hts hin hown hK hP hl_thrown dX1_consent_25 ?_
    refine lv_if_gt (tgt := 45) hx hb dX1_consent_28 (by decide) (fun c28 => absurd c28 (show ¬ (0 : Int32) < 0 by decide)) (fun c28 => ?_)
    refine lv_aload_n hx hb dX1_consent_31 rfl (lv_at hl 0 rfl) ?_
    refine mg_consented hx hb hts hin hown hK hP hl_consented dX1_consent_32 ?_
    refine lv_iload_n hx hb dX1_consent_35 rfl (lv_at hl 1 rfl) ?_
    refine mr_consented (j := j) hx hb hK hP (by omega) dX1_consent_36 ?_
    refine lv_iload_n hx hb dX1_consent_37 rfl (lv_at hl 2 rfl) ?_
    refine k_X1_has (σ.2 5 j) q (by omega) ⟨hx, hb, hml, hown, hts⟩ gX1_consent_X1_has ⟨Nat.le_of_ble_eq_true rfl, Nat.le_of_ble_eq_true rfl⟩ hl.1 ⟨Nat.zero_le _, Nat.zero_le _⟩ (Nat.le_of_ble_eq_true rfl) dX1_consent_38 ?_
    refine lv_iload_n hx hb dX1_consent_41 rfl (lv_at hl 3 rfl) ?_
    refine lv_icmp_ne (tgt := 47) hx hb dX1_consent_42 (by decide) (fun c42 => ?_) (fun c42 => ?_)
    · refine lv_aload_n hx hb dX1_consent_47 rfl (lv_at hl 0 rfl) ?_
      refine mg_consented hx hb hts hin hown hK hP hl_consented dX1_consent_48 ?_
      refine lv_iload_n hx hb dX1_consent_51 rfl (lv_at hl 1 rfl) ?_
      refine lv_dup2_11 hx hb dX1_consent_52 rfl rfl ?_
      refine mr_consented (j := j) hx hb hK hP (by omega) dX1_consent_53 ?_
      refine lv_iconst (v := 1) hx hb dX1_consent_54 (by decide) ?_
      refine lv_iload_n hx hb dX1_consent_55 rfl (lv_at hl 2 rfl) ?_
      refine lv_ishl hx hb dX1_consent_56 ?_
      refine lv_ixor hx hb dX1_consent_57 ?_
      refine mw_consented (j := j) hx hb hK hP (hD _) hS (by omega) dX1_consent_58 (fun H locs hP hS => ?_)
      refine lv_iconst (v := 1) hx hb dX1_consent_59 (by decide) ?_
      exact u_zret hx hb hr hlocks hS (by unfold m_consS; rw [if_neg (fun h => c42 (b01_inj.mpr h))]; exact hP) (by rw [show (bt (σ.2 5 j) q == g) = false from beq_false_of_ne (fun h => c42 (b01_inj.mpr h))]; rfl) dX1_consent_60
    · refine lv_iconst (v := 0) hx hb dX1_consent_45 (by decide) ?_
      exact u_zret hx hb hr hlocks hS (by unfold m_consS; rw [if_pos (b01_inj.mp c42)]; exact hP) (by rw [b01_inj.mp c42, beq_self_eq_true]; rfl) dX1_consent_46
  exact key _ _ hP hS ls hl
theorem k_X1_consent {p : Program} {l : Launch} {e : Env} {R : Room} {s : State} {m : MethodId} {args : Array Value} {below : List Frame} {meth : Method} {c : Code} {H : Heap} {locs : List Loc} {cells slots : Nat} {Q : State → Prop} {cc : ByteArray} {pc : Nat} {ls : Array Slot} {rest : List Value} {Ts : List Cond} (D : va_G) (tI tZ tL : ClassId) (h0 : Nat) (ad : Nat → Nat) (σ : ST) (j : Nat) (hj12 : j < 12) (q : Nat) (g : Bool) (np : Nat) (hnp : σ.1 2 = nI np) (hn8 : np ≤ 8) (hq : q < np) {A0 : Nat → Prop} {H0 : Heap} {own : String} {idx nL : Nat} (S : CallFix p m c cc nL s args Ts own) (hG : GoodIn Ts (wsV own idx RX1 yX1_consent wsX1_consent)) (hR : ({ frames := 2, cells := 0, slots := 0, locals := 43 } : Room).frames + 1 ≤ R.frames ∧ 8 + (4 + 11) + ({ frames := 2, cells := 0, slots := 0, locals := 43 } : Room).locals ≤ R.locals) (hsz : ls.size = nL) (hcap : cells ≤ R.cells ∧ slots ≤ R.slots) (hrm : (rest.map fun v => v.category).sum ≤ 8) (hn : (m_L h0 ad).Nodup) (hK : va_K D vwCl (kTY tI tZ tL) s) (hP : va_P D vwCl (m_W tI tZ h0 ad σ) H) (hS : va_S A0 H0 H locs) (hA : ∀ q, m_A h0 ad q → A0 q) (hdg : decode cc pc = .ok (.invokevirtual idx, 3)) (kk : ∀ (H1 : Heap) (locs1 : List Loc), va_P D vwCl (m_W tI tZ h0 ad (m_consS σ j q g)) H1 → H.size ≤ H1.size → (∀ q : Nat, q < H.size → ¬ m_A h0 ad q → H1[q]? = H[q]?) → va_S A0 H0 H1 locs1 → W p l e R s m args below meth c H1 locs1 cells slots Q (F0 m (pc + 3) ls (.int (b01 (!(bt (σ.2 5 j) q == g))) :: rest))) : W p l e R s m args below meth c H locs cells slots Q (F0 m pc ls (.int (b01 g) :: .int (nI q) :: .int (nI j) :: .ref h0 :: rest)) :=
  u_call (va_runV (As := [.int (nI j), .int (nI q), .int (b01 g)]) (rest := rest) S (c_X1_consent l D tI tZ tL h0 ad σ j hj12 q g np hnp hn8 hq hn) (cwV 3 S.2.2.2.2 hG rfl rfl rfl (by decide +kernel) hR) (m_pre hK hP) rfl rfl hsz rfl (lv_room hrm) hdg hcap) hS hA hA kk

set_option maxHeartbeats 4000000 in
set_option maxRecDepth 100000 in
theorem c_X1_whyNoUse_f (l : Launch) (D : va_G) (tI tZ tL : ClassId) (h0 : Nat) (ad : Nat → Nat) (σ : ST) (v w : Int32) (hbad : m_in v 0 (σ.1 7 - 1) = false ∨ m_in w 0 (σ.1 2 - 1) = false) (hn : (m_L h0 ad).Nodup) : Met l yX1_whyNoUse wsX1_whyNoUse ({ frames := 2, cells := 0, slots := 0, locals := 43 } : Room) (va_Pc ([.ref h0, .int v, .int w] : List Value) (m_B D tI tZ tL h0 ad σ)) (u_Q (some (.int 0)) (m_P D tI tZ h0 ad (s_set (s_set σ 0 0) 0 1)) (m_A h0 ad)) 0 0 (m_A h0 ad) := by
  refine u_met (cc := cX1_whyNoUse) (maxL := 3) (ret := (some .int)) (by decide) rfl (Nat.le_of_ble_eq_true rfl) ?_
  intro p e s m below meth c hx hb hml hr hts hown hlocks hB hS ls hl
  have hD : ∀ σ : ST, va_D (m_A h0 ad) (m_W tI tZ h0 ad σ) := fun σ => m_D σ hn (fun _ h => h)
  have hown : s.vm.findClass RX1 = some m.cls := hown
  obtain ⟨hP, hK⟩ := hB
  have hl : lv_has ls 3 [(0, .ref h0), (1, .int v), (2, .int w)] := hl
  have hin : ∀ w ∈ wsX10, w ∈ wsX1_whyNoUse := in_X1_whyNoUse
  have hl_thrown : ml_thrown ∈ wsX1_whyNoUse := by decide +kernel
  have key : ∀ (H : Heap) (locs : List Loc), va_P D vwCl (m_W tI tZ h0 ad σ) H → va_S (m_A h0 ad) s.heap H locs → ∀ ls, lv_has ls 3 [(0, .ref h0), (1, .int v), (2, .int w)] → u_G p l e ({ frames := 2, cells := 0, slots := 0, locals := 43 } : Room) s m ([.ref h0, .int v, .int w] : List Value).toArray below meth c H locs (some (.int 0)) (m_P D tI tZ h0 ad (s_set (s_set σ 0 0) 0 1)) (m_A h0 ad) (F0 m 0 ls []) := by
    intro H locs hP hS ls hl
    refine lv_aload_n hx hb dX1_whyNoUse_0 rfl (lv_at hl 0 rfl) ?_
    refine lv_iconst (v := 0) hx hb dX1_whyNoUse_1 (by decide) ?_
    refine mp_thrown hx hb hts hin hown hK hP (hD _) hS hl_thrown dX1_whyNoUse_2 (fun H locs hP hS => ?_)
    refine lv_aload_n hx hb dX1_whyNoUse_5 rfl (lv_at hl 0 rfl) ?_
    refine lv_iload_n hx hb dX1_whyNoUse_6 rfl (lv_at hl 1 rfl) ?_
    refine k_X1_isRecord D tI tZ tL h0 ad (s_set σ 0 0) v ⟨hx, hb, hml, hown, hts⟩ gX1_whyNoUse_X1_isRecord ⟨Nat.le_of_ble_eq_true rfl, Nat.le_of_ble_eq_true rfl⟩ hl.1 ⟨Nat.zero_le _, Nat.zero_le _⟩ (Nat.le_of_ble_eq_true rfl) hK hP dX1_whyNoUse_7 ?_
    refine lv_ifeq_b (tgt := 30) hx hb dX1_whyNoUse_10 (by decide) (fun c10 => ?_) (fun c10 => ?_)
    · refine lv_aload_n hx hb dX1_whyNoUse_30 rfl (lv_at hl 0 rfl) ?_
      refine lv_iconst (v := 1) hx hb dX1_whyNoUse_31 (by decide) ?_
      refine k_X1_fails D tI tZ tL h0 ad (s_set σ 0 0) 1 ⟨hx, hb, hml, hown, hts⟩ gX1_whyNoUse_X1_fails ⟨Nat.le_of_ble_eq_true rfl, Nat.le_of_ble_eq_true rfl⟩ hl.1 ⟨Nat.zero_le _, Nat.zero_le _⟩ (Nat.le_of_ble_eq_true rfl) hn hK hP hS (fun q h => h) dX1_whyNoUse_32 (fun H locs hP _ _ hS => ?_)
      exact u_iret hx hb hr hlocks hS (hP) (rfl) dX1_whyNoUse_35
    · refine lv_aload_n hx hb dX1_whyNoUse_13 rfl (lv_at hl 0 rfl) ?_
      refine lv_iload_n hx hb dX1_whyNoUse_14 rfl (lv_at hl 2 rfl) ?_
      refine k_X1_isPurpose D tI tZ tL h0 ad (s_set σ 0 0) w ⟨hx, hb, hml, hown, hts⟩ gX1_whyNoUse_X1_isPurpose ⟨Nat.le_of_ble_eq_true rfl, Nat.le_of_ble_eq_true rfl⟩ hl.1 ⟨Nat.zero_le _, Nat.zero_le _⟩ (Nat.le_of_ble_eq_true rfl) hK hP dX1_whyNoUse_15 ?_
      refine lv_ifeq_b (tgt := 30) hx hb dX1_whyNoUse_18 (by decide) (fun c18 => ?_) (fun c18 => absurd c18 (hbad.elim (fun h => absurd c10 (ne_t h)) (fun h => by first | exact ne_t h | exact ne_f h)))
      refine lv_aload_n hx hb dX1_whyNoUse_30 rfl (lv_at hl 0 rfl) ?_
      refine lv_iconst (v := 1) hx hb dX1_whyNoUse_31 (by decide) ?_
      refine k_X1_fails D tI tZ tL h0 ad (s_set σ 0 0) 1 ⟨hx, hb, hml, hown, hts⟩ gX1_whyNoUse_X1_fails ⟨Nat.le_of_ble_eq_true rfl, Nat.le_of_ble_eq_true rfl⟩ hl.1 ⟨Nat.zero_le _, Nat.zero_le _⟩ (Nat.le_of_ble_eq_true rfl) hn hK hP hS (fun q h => h) dX1_whyNoUse_32 (fun H locs hP _ _ hS => ?_)
      exact u_iret hx hb hr hlocks hS (hP) (rfl) dX1_whyNoUse_35
  exact key _ _ hP hS ls hl
theorem k_X1_whyNoUse_f {p : Program} {l : Launch} {e : Env} {R : Room} {s : State} {m : MethodId} {args : Array Value} {below : List Frame} {meth : Method} {c : Code} {H : Heap} {locs : List Loc} {cells slots : Nat} {Q : State → Prop} {cc : ByteArray} {pc : Nat} {ls : Array Slot} {rest : List Value} {Ts : List Cond} (D : va_G) (tI tZ tL : ClassId) (h0 : Nat) (ad : Nat → Nat) (σ : ST) (v w : Int32) (hbad : m_in v 0 (σ.1 7 - 1) = false ∨ m_in w 0 (σ.1 2 - 1) = false) {A0 : Nat → Prop} {H0 : Heap} {own : String} {idx nL : Nat} (S : CallFix p m c cc nL s args Ts own) (hG : GoodIn Ts (wsV own idx RX1 yX1_whyNoUse wsX1_whyNoUse)) (hR : ({ frames := 2, cells := 0, slots := 0, locals := 43 } : Room).frames + 1 ≤ R.frames ∧ 8 + (3 + 11) + ({ frames := 2, cells := 0, slots := 0, locals := 43 } : Room).locals ≤ R.locals) (hsz : ls.size = nL) (hcap : cells ≤ R.cells ∧ slots ≤ R.slots) (hrm : (rest.map fun v => v.category).sum ≤ 8) (hn : (m_L h0 ad).Nodup) (hK : va_K D vwCl (kTY tI tZ tL) s) (hP : va_P D vwCl (m_W tI tZ h0 ad σ) H) (hS : va_S A0 H0 H locs) (hA : ∀ q, m_A h0 ad q → A0 q) (hdg : decode cc pc = .ok (.invokevirtual idx, 3)) (kk : ∀ (H1 : Heap) (locs1 : List Loc), va_P D vwCl (m_W tI tZ h0 ad (s_set (s_set σ 0 0) 0 1)) H1 → H.size ≤ H1.size → (∀ q : Nat, q < H.size → ¬ m_A h0 ad q → H1[q]? = H[q]?) → va_S A0 H0 H1 locs1 → W p l e R s m args below meth c H1 locs1 cells slots Q (F0 m (pc + 3) ls (.int 0 :: rest))) : W p l e R s m args below meth c H locs cells slots Q (F0 m pc ls (.int w :: .int v :: .ref h0 :: rest)) :=
  u_call (va_runV (As := [.int v, .int w]) (rest := rest) S (c_X1_whyNoUse_f l D tI tZ tL h0 ad σ v w hbad hn) (cwV 2 S.2.2.2.2 hG rfl rfl rfl (by decide +kernel) hR) (m_pre hK hP) rfl rfl hsz rfl (lv_room hrm) hdg hcap) hS hA hA kk

set_option maxHeartbeats 4000000 in
set_option maxRecDepth 100000 in
theorem c_X1_whyNoUse (l : Launch) (D : va_G) (tI tZ tL : ClassId) (h0 : Nat) (ad : Nat → Nat) (σ : ST) (r q : Nat) (nr : Nat) (hnr : σ.1 7 = nI nr) (hn30 : nr ≤ 30) (hrn : r < nr) (np : Nat) (hnp : σ.1 2 = nI np) (hn8 : np ≤ 8) (hq : q < np)  (hn : (m_L h0 ad).Nodup) : Met l yX1_whyNoUse wsX1_whyNoUse ({ frames := 4, cells := 0, slots := 0, locals := 90 } : Room) (va_Pc ([.ref h0, .int (nI r), .int (nI q)] : List Value) (m_B D tI tZ tL h0 ad σ)) (u_Q (some (.int (m_rsn σ.2 (σ.1 1) r q))) (m_P D tI tZ h0 ad (s_set σ 0 0)) (m_A h0 ad)) 0 0 (m_A h0 ad) := by
  refine u_met (cc := cX1_whyNoUse) (maxL := 3) (ret := (some .int)) (by decide) rfl (Nat.le_of_ble_eq_true rfl) ?_
  intro p e s m below meth c hx hb hml hr hts hown hlocks hB hS ls hl
  have hD : ∀ σ : ST, va_D (m_A h0 ad) (m_W tI tZ h0 ad σ) := fun σ => m_D σ hn (fun _ h => h)
  have hown : s.vm.findClass RX1 = some m.cls := hown
  obtain ⟨hP, hK⟩ := hB
  have hl : lv_has ls 3 [(0, .ref h0), (1, .int (nI r)), (2, .int (nI q))] := hl
  have hin : ∀ w ∈ wsX10, w ∈ wsX1_whyNoUse := in_X1_whyNoUse
  have hl_thrown : ml_thrown ∈ wsX1_whyNoUse := by decide +kernel
  have key : ∀ (H : Heap) (locs : List Loc), va_P D vwCl (m_W tI tZ h0 ad σ) H → va_S (m_A h0 ad) s.heap H locs → ∀ ls, lv_has ls 3 [(0, .ref h0), (1, .int (nI r)), (2, .int (nI q))] → u_G p l e ({ frames := 4, cells := 0, slots := 0, locals := 90 } : Room) s m ([.ref h0, .int (nI r), .int (nI q)] : List Value).toArray below meth c H locs (some (.int (m_rsn σ.2 (σ.1 1) r q))) (m_P D tI tZ h0 ad (s_set σ 0 0)) (m_A h0 ad) (F0 m 0 ls []) := by
    intro H locs hP hS ls hl
    refine lv_aload_n hx hb dX1_whyNoUse_0 rfl (lv_at hl 0 rfl) ?_
    refine lv_iconst (v := 0) hx hb dX1_whyNoUse_1 (by decide) ?_
    refine mp_thrown hx hb hts hin hown hK hP (hD _) hS hl_thrown dX1_whyNoUse_2 (fun H locs hP hS => ?_)
    refine lv_aload_n hx hb dX1_whyNoUse_5 rfl (lv_at hl 0 rfl) ?_
    refine lv_iload_n hx hb dX1_whyNoUse_6 rfl (lv_at hl 1 rfl) ?_
    refine k_X1_isRecord D tI tZ tL h0 ad (s_set σ 0 0) (nI r) ⟨hx, hb, hml, hown, hts⟩ gX1_whyNoUse_X1_isRecord ⟨Nat.le_of_ble_eq_true rfl, Nat.le_of_ble_eq_true rfl⟩ hl.1 ⟨Nat.zero_le _, Nat.zero_le _⟩ (Nat.le_of_ble_eq_true rfl) hK hP dX1_whyNoUse_7 ?_
    refine lv_ifeq_b (tgt := 30) hx hb dX1_whyNoUse_10 (by decide) (fun c10 => absurd c10 (ne_f (m_in_t (n := nr) (by show σ.1 7 - 1 = _; rw [hnr]) hrn (by omega)))) (fun c10 => ?_)
    refine lv_aload_n hx hb dX1_whyNoUse_13 rfl (lv_at hl 0 rfl) ?_
    refine lv_iload_n hx hb dX1_whyNoUse_14 rfl (lv_at hl 2 rfl) ?_
    refine k_X1_isPurpose D tI tZ tL h0 ad (s_set σ 0 0) (nI q) ⟨hx, hb, hml, hown, hts⟩ gX1_whyNoUse_X1_isPurpose ⟨Nat.le_of_ble_eq_true rfl, Nat.le_of_ble_eq_true rfl⟩ hl.1 ⟨Nat.zero_le _, Nat.zero_le _⟩ (Nat.le_of_ble_eq_true rfl) hK hP dX1_whyNoUse_15 ?_
    refine lv_ifeq_b (tgt := 30) hx hb dX1_whyNoUse_18 (by decide) (fun c18 => absurd c18 (ne_f (m_in_t (n := np) (by show σ.1 2 - 1 = _; rw [hnp]) hq (by omega)))) (fun c18 => ?_)
    refine lv_aload_n hx hb dX1_whyNoUse_21 rfl (lv_at hl 0 rfl) ?_
    refine lv_iload_n hx hb dX1_whyNoUse_22 rfl (lv_at hl 1 rfl) ?_
    refine lv_iload_n hx hb dX1_whyNoUse_23 rfl (lv_at hl 2 rfl) ?_
    refine k_X1_reason D tI tZ tL h0 ad (s_set σ 0 0) r q (by omega) (by omega) ⟨hx, hb, hml, hown, hts⟩ gX1_whyNoUse_X1_reason ⟨Nat.le_of_ble_eq_true rfl, Nat.le_of_ble_eq_true rfl⟩ hl.1 ⟨Nat.zero_le _, Nat.zero_le _⟩ (Nat.le_of_ble_eq_true rfl) hK hP dX1_whyNoUse_24 ?_
    refine lv_goto (tgt := 35) hx hb dX1_whyNoUse_27 (by decide) ?_
    exact u_iret hx hb hr hlocks hS (hP) (rfl) dX1_whyNoUse_35
  exact key _ _ hP hS ls hl
theorem k_X1_whyNoUse {p : Program} {l : Launch} {e : Env} {R : Room} {s : State} {m : MethodId} {args : Array Value} {below : List Frame} {meth : Method} {c : Code} {H : Heap} {locs : List Loc} {cells slots : Nat} {Q : State → Prop} {cc : ByteArray} {pc : Nat} {ls : Array Slot} {rest : List Value} {Ts : List Cond} (D : va_G) (tI tZ tL : ClassId) (h0 : Nat) (ad : Nat → Nat) (σ : ST) (r q : Nat) (nr : Nat) (hnr : σ.1 7 = nI nr) (hn30 : nr ≤ 30) (hrn : r < nr) (np : Nat) (hnp : σ.1 2 = nI np) (hn8 : np ≤ 8) (hq : q < np)  {A0 : Nat → Prop} {H0 : Heap} {own : String} {idx nL : Nat} (S : CallFix p m c cc nL s args Ts own) (hG : GoodIn Ts (wsV own idx RX1 yX1_whyNoUse wsX1_whyNoUse)) (hR : ({ frames := 4, cells := 0, slots := 0, locals := 90 } : Room).frames + 1 ≤ R.frames ∧ 8 + (3 + 11) + ({ frames := 4, cells := 0, slots := 0, locals := 90 } : Room).locals ≤ R.locals) (hsz : ls.size = nL) (hcap : cells ≤ R.cells ∧ slots ≤ R.slots) (hrm : (rest.map fun v => v.category).sum ≤ 8) (hn : (m_L h0 ad).Nodup) (hK : va_K D vwCl (kTY tI tZ tL) s) (hP : va_P D vwCl (m_W tI tZ h0 ad σ) H) (hS : va_S A0 H0 H locs) (hA : ∀ q, m_A h0 ad q → A0 q) (hdg : decode cc pc = .ok (.invokevirtual idx, 3)) (kk : ∀ (H1 : Heap) (locs1 : List Loc), va_P D vwCl (m_W tI tZ h0 ad (s_set σ 0 0)) H1 → H.size ≤ H1.size → (∀ q : Nat, q < H.size → ¬ m_A h0 ad q → H1[q]? = H[q]?) → va_S A0 H0 H1 locs1 → W p l e R s m args below meth c H1 locs1 cells slots Q (F0 m (pc + 3) ls (.int (m_rsn σ.2 (σ.1 1) r q) :: rest))) : W p l e R s m args below meth c H locs cells slots Q (F0 m pc ls (.int (nI q) :: .int (nI r) :: .ref h0 :: rest)) :=
  u_call (va_runV (As := [.int (nI r), .int (nI q)]) (rest := rest) S (c_X1_whyNoUse l D tI tZ tL h0 ad σ r q nr hnr hn30 hrn np hnp hn8 hq hn) (cwV 2 S.2.2.2.2 hG rfl rfl rfl (by decide +kernel) hR) (m_pre hK hP) rfl rfl hsz rfl (lv_room hrm) hdg hcap) hS hA hA kk

set_option maxHeartbeats 4000000 in
set_option maxRecDepth 100000 in
theorem c_X1_use_f (l : Launch) (D : va_G) (tI tZ tL : ClassId) (h0 : Nat) (ad : Nat → Nat) (σ : ST) (v w : Int32) (hbad : m_in v 0 (σ.1 7 - 1) = false ∨ m_in w 0 (σ.1 2 - 1) = false) (hn : (m_L h0 ad).Nodup) : Met l yX1_use wsX1_use ({ frames := 2, cells := 0, slots := 0, locals := 43 } : Room) (va_Pc ([.ref h0, .int v, .int w] : List Value) (m_B D tI tZ tL h0 ad σ)) (u_Q (some (.int 0)) (m_P D tI tZ h0 ad (s_set (s_set σ 0 0) 0 1)) (m_A h0 ad)) 0 0 (m_A h0 ad) := by
  refine u_met (cc := cX1_use) (maxL := 3) (ret := (some .int)) (by decide) rfl (Nat.le_of_ble_eq_true rfl) ?_
  intro p e s m below meth c hx hb hml hr hts hown hlocks hB hS ls hl
  have hD : ∀ σ : ST, va_D (m_A h0 ad) (m_W tI tZ h0 ad σ) := fun σ => m_D σ hn (fun _ h => h)
  have hown : s.vm.findClass RX1 = some m.cls := hown
  obtain ⟨hP, hK⟩ := hB
  have hl : lv_has ls 3 [(0, .ref h0), (1, .int v), (2, .int w)] := hl
  have hin : ∀ w ∈ wsX10, w ∈ wsX1_use := in_X1_use
  have hl_thrown : ml_thrown ∈ wsX1_use := by decide +kernel
  have key : ∀ (H : Heap) (locs : List Loc), va_P D vwCl (m_W tI tZ h0 ad σ) H → va_S (m_A h0 ad) s.heap H locs → ∀ ls, lv_has ls 3 [(0, .ref h0), (1, .int v), (2, .int w)] → u_G p l e ({ frames := 2, cells := 0, slots := 0, locals := 43 } : Room) s m ([.ref h0, .int v, .int w] : List Value).toArray below meth c H locs (some (.int 0)) (m_P D tI tZ h0 ad (s_set (s_set σ 0 0) 0 1)) (m_A h0 ad) (F0 m 0 ls []) := by
    intro H locs hP hS ls hl
    refine lv_aload_n hx hb dX1_use_0 rfl (lv_at hl 0 rfl) ?_
    refine lv_iconst (v := 0) hx hb dX1_use_1 (by decide) ?_
    refine mp_thrown hx hb hts hin hown hK hP (hD _) hS hl_thrown dX1_use_2 (fun H locs hP hS => ?_)
    refine lv_aload_n hx hb dX1_use_5 rfl (lv_at hl 0 rfl) ?_
    refine lv_iload_n hx hb dX1_use_6 rfl (lv_at hl 1 rfl) ?_
    refine k_X1_isRecord D tI tZ tL h0 ad (s_set σ 0 0) v ⟨hx, hb, hml, hown, hts⟩ gX1_use_X1_isRecord ⟨Nat.le_of_ble_eq_true rfl, Nat.le_of_ble_eq_true rfl⟩ hl.1 ⟨Nat.zero_le _, Nat.zero_le _⟩ (Nat.le_of_ble_eq_true rfl) hK hP dX1_use_7 ?_
    refine lv_ifeq_b (tgt := 21) hx hb dX1_use_10 (by decide) (fun c10 => ?_) (fun c10 => ?_)
    · refine lv_aload_n hx hb dX1_use_21 rfl (lv_at hl 0 rfl) ?_
      refine lv_iconst (v := 1) hx hb dX1_use_22 (by decide) ?_
      refine k_X1_fails D tI tZ tL h0 ad (s_set σ 0 0) 1 ⟨hx, hb, hml, hown, hts⟩ gX1_use_X1_fails ⟨Nat.le_of_ble_eq_true rfl, Nat.le_of_ble_eq_true rfl⟩ hl.1 ⟨Nat.zero_le _, Nat.zero_le _⟩ (Nat.le_of_ble_eq_true rfl) hn hK hP hS (fun q h => h) dX1_use_23 (fun H locs hP _ _ hS => ?_)
      exact u_iret hx hb hr hlocks hS (hP) (rfl) dX1_use_26
    · refine lv_aload_n hx hb dX1_use_13 rfl (lv_at hl 0 rfl) ?_
      refine lv_iload_n hx hb dX1_use_14 rfl (lv_at hl 2 rfl) ?_
      refine k_X1_isPurpose D tI tZ tL h0 ad (s_set σ 0 0) w ⟨hx, hb, hml, hown, hts⟩ gX1_use_X1_isPurpose ⟨Nat.le_of_ble_eq_true rfl, Nat.le_of_ble_eq_true rfl⟩ hl.1 ⟨Nat.zero_le _, Nat.zero_le _⟩ (Nat.le_of_ble_eq_true rfl) hK hP dX1_use_15 ?_
      refine lv_ifne_b (tgt := 27) hx hb dX1_use_18 (by decide) (fun c18 => absurd c18 (hbad.elim (fun h => absurd c10 (ne_t h)) (fun h => by first | exact ne_t h | exact ne_f h))) (fun c18 => ?_)
      refine lv_aload_n hx hb dX1_use_21 rfl (lv_at hl 0 rfl) ?_
      refine lv_iconst (v := 1) hx hb dX1_use_22 (by decide) ?_
      refine k_X1_fails D tI tZ tL h0 ad (s_set σ 0 0) 1 ⟨hx, hb, hml, hown, hts⟩ gX1_use_X1_fails ⟨Nat.le_of_ble_eq_true rfl, Nat.le_of_ble_eq_true rfl⟩ hl.1 ⟨Nat.zero_le _, Nat.zero_le _⟩ (Nat.le_of_ble_eq_true rfl) hn hK hP hS (fun q h => h) dX1_use_23 (fun H locs hP _ _ hS => ?_)
      exact u_iret hx hb hr hlocks hS (hP) (rfl) dX1_use_26
  exact key _ _ hP hS ls hl
theorem k_X1_use_f {p : Program} {l : Launch} {e : Env} {R : Room} {s : State} {m : MethodId} {args : Array Value} {below : List Frame} {meth : Method} {c : Code} {H : Heap} {locs : List Loc} {cells slots : Nat} {Q : State → Prop} {cc : ByteArray} {pc : Nat} {ls : Array Slot} {rest : List Value} {Ts : List Cond} (D : va_G) (tI tZ tL : ClassId) (h0 : Nat) (ad : Nat → Nat) (σ : ST) (v w : Int32) (hbad : m_in v 0 (σ.1 7 - 1) = false ∨ m_in w 0 (σ.1 2 - 1) = false) {A0 : Nat → Prop} {H0 : Heap} {own : String} {idx nL : Nat} (S : CallFix p m c cc nL s args Ts own) (hG : GoodIn Ts (wsV own idx RX1 yX1_use wsX1_use)) (hR : ({ frames := 2, cells := 0, slots := 0, locals := 43 } : Room).frames + 1 ≤ R.frames ∧ 8 + (3 + 11) + ({ frames := 2, cells := 0, slots := 0, locals := 43 } : Room).locals ≤ R.locals) (hsz : ls.size = nL) (hcap : cells ≤ R.cells ∧ slots ≤ R.slots) (hrm : (rest.map fun v => v.category).sum ≤ 8) (hn : (m_L h0 ad).Nodup) (hK : va_K D vwCl (kTY tI tZ tL) s) (hP : va_P D vwCl (m_W tI tZ h0 ad σ) H) (hS : va_S A0 H0 H locs) (hA : ∀ q, m_A h0 ad q → A0 q) (hdg : decode cc pc = .ok (.invokevirtual idx, 3)) (kk : ∀ (H1 : Heap) (locs1 : List Loc), va_P D vwCl (m_W tI tZ h0 ad (s_set (s_set σ 0 0) 0 1)) H1 → H.size ≤ H1.size → (∀ q : Nat, q < H.size → ¬ m_A h0 ad q → H1[q]? = H[q]?) → va_S A0 H0 H1 locs1 → W p l e R s m args below meth c H1 locs1 cells slots Q (F0 m (pc + 3) ls (.int 0 :: rest))) : W p l e R s m args below meth c H locs cells slots Q (F0 m pc ls (.int w :: .int v :: .ref h0 :: rest)) :=
  u_call (va_runV (As := [.int v, .int w]) (rest := rest) S (c_X1_use_f l D tI tZ tL h0 ad σ v w hbad hn) (cwV 2 S.2.2.2.2 hG rfl rfl rfl (by decide +kernel) hR) (m_pre hK hP) rfl rfl hsz rfl (lv_room hrm) hdg hcap) hS hA hA kk

set_option maxHeartbeats 4000000 in
set_option maxRecDepth 100000 in
theorem c_X1_use_g (l : Launch) (D : va_G) (tI tZ tL : ClassId) (h0 : Nat) (ad : Nat → Nat) (σ : ST) (r q : Nat) (nr : Nat) (hnr : σ.1 7 = nI nr) (hn30 : nr ≤ 30) (hrn : r < nr) (np : Nat) (hnp : σ.1 2 = nI np) (hn8 : np ≤ 8) (hq : q < np) (hw : 0 < m_rsn σ.2 (σ.1 1) r q) (hn : (m_L h0 ad).Nodup) : Met l yX1_use wsX1_use ({ frames := 4, cells := 0, slots := 0, locals := 90 } : Room) (va_Pc ([.ref h0, .int (nI r), .int (nI q)] : List Value) (m_B D tI tZ tL h0 ad σ)) (u_Q (some (.int 0)) (m_P D tI tZ h0 ad (s_set (s_set σ 0 0) 0 2)) (m_A h0 ad)) 0 0 (m_A h0 ad) := by
  refine u_met (cc := cX1_use) (maxL := 3) (ret := (some .int)) (by decide) rfl (Nat.le_of_ble_eq_true rfl) ?_
  intro p e s m below meth c hx hb hml hr hts hown hlocks hB hS ls hl
  have hD : ∀ σ : ST, va_D (m_A h0 ad) (m_W tI tZ h0 ad σ) := fun σ => m_D σ hn (fun _ h => h)
  have hown : s.vm.findClass RX1 = some m.cls := hown
  obtain ⟨hP, hK⟩ := hB
  have hl : lv_has ls 3 [(0, .ref h0), (1, .int (nI r)), (2, .int (nI q))] := hl
  have hin : ∀ w ∈ wsX10, w ∈ wsX1_use := in_X1_use
  have hl_thrown : ml_thrown ∈ wsX1_use := by decide +kernel
  have key : ∀ (H : Heap) (locs : List Loc), va_P D vwCl (m_W tI tZ h0 ad σ) H → va_S (m_A h0 ad) s.heap H locs → ∀ ls, lv_has ls 3 [(0, .ref h0), (1, .int (nI r)), (2, .int (nI q))] → u_G p l e ({ frames := 4, cells := 0, slots := 0, locals := 90 } : Room) s m ([.ref h0, .int (nI r), .int (nI q)] : List Value).toArray below meth c H locs (some (.int 0)) (m_P D tI tZ h0 ad (s_set (s_set σ 0 0) 0 2)) (m_A h0 ad) (F0 m 0 ls []) := by
    intro H locs hP hS ls hl
    refine lv_aload_n hx hb dX1_use_0 rfl (lv_at hl 0 rfl) ?_
    refine lv_iconst (v := 0) hx hb dX1_use_1 (by decide) ?_
    refine mp_thrown hx hb hts hin hown hK hP (hD _) hS hl_thrown dX1_use_2 (fun H locs hP hS => ?_)
    refine lv_aload_n hx hb dX1_use_5 rfl (lv_at hl 0 rfl) ?_
    refine lv_iload_n hx hb dX1_use_6 rfl (lv_at hl 1 rfl) ?_
    refine k_X1_isRecord D tI tZ tL h0 ad (s_set σ 0 0) (nI r) ⟨hx, hb, hml, hown, hts⟩ gX1_use_X1_isRecord ⟨Nat.le_of_ble_eq_true rfl, Nat.le_of_ble_eq_true rfl⟩ hl.1 ⟨Nat.zero_le _, Nat.zero_le _⟩ (Nat.le_of_ble_eq_true rfl) hK hP dX1_use_7 ?_
    refine lv_ifeq_b (tgt := 21) hx hb dX1_use_10 (by decide) (fun c10 => absurd c10 (ne_f (m_in_t (n := nr) (by show σ.1 7 - 1 = _; rw [hnr]) hrn (by omega)))) (fun c10 => ?_)
    refine lv_aload_n hx hb dX1_use_13 rfl (lv_at hl 0 rfl) ?_
    refine lv_iload_n hx hb dX1_use_14 rfl (lv_at hl 2 rfl) ?_
    refine k_X1_isPurpose D tI tZ tL h0 ad (s_set σ 0 0) (nI q) ⟨hx, hb, hml, hown, hts⟩ gX1_use_X1_isPurpose ⟨Nat.le_of_ble_eq_true rfl, Nat.le_of_ble_eq_true rfl⟩ hl.1 ⟨Nat.zero_le _, Nat.zero_le _⟩ (Nat.le_of_ble_eq_true rfl) hK hP dX1_use_15 ?_
    refine lv_ifne_b (tgt := 27) hx hb dX1_use_18 (by decide) (fun c18 => ?_) (fun c18 => absurd c18 (ne_f (m_in_t (n := np) (by show σ.1 2 - 1 = _; rw [hnp]) hq (by omega))))
    refine lv_aload_n hx hb dX1_use_27 rfl (lv_at hl 0 rfl) ?_
    refine lv_iload_n hx hb dX1_use_28 rfl (lv_at hl 1 rfl) ?_
    refine lv_iload_n hx hb dX1_use_29 rfl (lv_at hl 2 rfl) ?_
    refine k_X1_reason D tI tZ tL h0 ad (s_set σ 0 0) r q (by omega) (by omega) ⟨hx, hb, hml, hown, hts⟩ gX1_use_X1_reason ⟨Nat.le_of_ble_eq_true rfl, Nat.le_of_ble_eq_true rfl⟩ hl.1 ⟨Nat.zero_le _, Nat.zero_le _⟩ (Nat.le_of_ble_eq_true rfl) hK hP dX1_use_30 ?_
    refine lv_if_le (tgt := 42) hx hb dX1_use_33 (by decide) (fun c33 => absurd c33 (Int32.not_le.mpr hw)) (fun c33 => ?_)
    refine lv_aload_n hx hb dX1_use_36 rfl (lv_at hl 0 rfl) ?_
    refine lv_iconst (v := 2) hx hb dX1_use_37 (by decide) ?_
    refine k_X1_fails D tI tZ tL h0 ad (s_set σ 0 0) 2 ⟨hx, hb, hml, hown, hts⟩ gX1_use_X1_fails ⟨Nat.le_of_ble_eq_true rfl, Nat.le_of_ble_eq_true rfl⟩ hl.1 ⟨Nat.zero_le _, Nat.zero_le _⟩ (Nat.le_of_ble_eq_true rfl) hn hK hP hS (fun q h => h) dX1_use_38 (fun H locs hP _ _ hS => ?_)
    exact u_iret hx hb hr hlocks hS (hP) (rfl) dX1_use_41
  exact key _ _ hP hS ls hl
theorem k_X1_use_g {p : Program} {l : Launch} {e : Env} {R : Room} {s : State} {m : MethodId} {args : Array Value} {below : List Frame} {meth : Method} {c : Code} {H : Heap} {locs : List Loc} {cells slots : Nat} {Q : State → Prop} {cc : ByteArray} {pc : Nat} {ls : Array Slot} {rest : List Value} {Ts : List Cond} (D : va_G) (tI tZ tL : ClassId) (h0 : Nat) (ad : Nat → Nat) (σ : ST) (r q : Nat) (nr : Nat) (hnr : σ.1 7 = nI nr) (hn30 : nr ≤ 30) (hrn : r < nr) (np : Nat) (hnp : σ.1 2 = nI np) (hn8 : np ≤ 8) (hq : q < np) (hw : 0 < m_rsn σ.2 (σ.1 1) r q) {A0 : Nat → Prop} {H0 : Heap} {own : String} {idx nL : Nat} (S : CallFix p m c cc nL s args Ts own) (hG : GoodIn Ts (wsV own idx RX1 yX1_use wsX1_use)) (hR : ({ frames := 4, cells := 0, slots := 0, locals := 90 } : Room).frames + 1 ≤ R.frames ∧ 8 + (3 + 11) + ({ frames := 4, cells := 0, slots := 0, locals := 90 } : Room).locals ≤ R.locals) (hsz : ls.size = nL) (hcap : cells ≤ R.cells ∧ slots ≤ R.slots) (hrm : (rest.map fun v => v.category).sum ≤ 8) (hn : (m_L h0 ad).Nodup) (hK : va_K D vwCl (kTY tI tZ tL) s) (hP : va_P D vwCl (m_W tI tZ h0 ad σ) H) (hS : va_S A0 H0 H locs) (hA : ∀ q, m_A h0 ad q → A0 q) (hdg : decode cc pc = .ok (.invokevirtual idx, 3)) (kk : ∀ (H1 : Heap) (locs1 : List Loc), va_P D vwCl (m_W tI tZ h0 ad (s_set (s_set σ 0 0) 0 2)) H1 → H.size ≤ H1.size → (∀ q : Nat, q < H.size → ¬ m_A h0 ad q → H1[q]? = H[q]?) → va_S A0 H0 H1 locs1 → W p l e R s m args below meth c H1 locs1 cells slots Q (F0 m (pc + 3) ls (.int 0 :: rest))) : W p l e R s m args below meth c H locs cells slots Q (F0 m pc ls (.int (nI q) :: .int (nI r) :: .ref h0 :: rest)) :=
  u_call (va_runV (As := [.int (nI r), .int (nI q)]) (rest := rest) S (c_X1_use_g l D tI tZ tL h0 ad σ r q nr hnr hn30 hrn np hnp hn8 hq hw hn) (cwV 2 S.2.2.2.2 hG rfl rfl rfl (by decide +kernel) hR) (m_pre hK hP) rfl rfl hsz rfl (lv_room hrm) hdg hcap) hS hA hA kk

set_option maxHeartbeats 4000000 in
set_option maxRecDepth 100000 in
theorem c_X1_use (l : Launch) (D : va_G) (tI tZ tL : ClassId) (h0 : Nat) (ad : Nat → Nat) (σ : ST) (r q : Nat) (nr : Nat) (hnr : σ.1 7 = nI nr) (hn30 : nr ≤ 30) (hrn : r < nr) (np : Nat) (hnp : σ.1 2 = nI np) (hn8 : np ≤ 8) (hq : q < np) (hw : m_rsn σ.2 (σ.1 1) r q ≤ 0) (hn : (m_L h0 ad).Nodup) : Met l yX1_use wsX1_use ({ frames := 4, cells := 0, slots := 0, locals := 90 } : Room) (va_Pc ([.ref h0, .int (nI r), .int (nI q)] : List Value) (m_B D tI tZ tL h0 ad σ)) (u_Q (some (.int (σ.2 13 (8 * r + q) + 1))) (m_P D tI tZ h0 ad (s_put (s_set σ 0 0) 13 (8 * r + q) (σ.2 13 (8 * r + q) + 1))) (m_A h0 ad)) 0 0 (m_A h0 ad) := by
  refine u_met (cc := cX1_use) (maxL := 3) (ret := (some .int)) (by decide) rfl (Nat.le_of_ble_eq_true rfl) ?_
  intro p e s m below meth c hx hb hml hr hts hown hlocks hB hS ls hl
  have hD : ∀ σ : ST, va_D (m_A h0 ad) (m_W tI tZ h0 ad σ) := fun σ => m_D σ hn (fun _ h => h)
  have hown : s.vm.findClass RX1 = some m.cls := hown
  obtain ⟨hP, hK⟩ := hB
  have hl : lv_has ls 3 [(0, .ref h0), (1, .int (nI r)), (2, .int (nI q))] := hl
  have hin : ∀ w ∈ wsX10, w ∈ wsX1_use := in_X1_use
  have hl_thrown : ml_thrown ∈ wsX1_use := by decide +kernel
  have hl_used : ml_used ∈ wsX1_use := by decide +kernel
  have key : ∀ (H : Heap) (locs : List Loc), va_P D vwCl (m_W tI tZ h0 ad σ) H → va_S (m_A h0 ad) s.heap H locs → ∀ ls, lv_has ls 3 [(0, .ref h0), (1, .int (nI r)), (2, .int (nI q))] → u_G p l e ({ frames := 4, cells := 0, slots := 0, locals := 90 } : Room) s m ([.ref h0, .int (nI r), .int (nI q)] : List Value).toArray below meth c H locs (some (.int (σ.2 13 (8 * r + q) + 1))) (m_P D tI tZ h0 ad (s_put (s_set σ 0 0) 13 (8 * r + q) (σ.2 13 (8 * r + q) + 1))) (m_A h0 ad) (F0 m 0 ls []) := by
    intro H locs hP hS ls hl
    refine lv_aload_n hx hb dX1_use_0 rfl (lv_at hl 0 rfl) ?_
    refine lv_iconst (v := 0) hx hb dX1_use_1 (by decide) ?_
    refine mp_thrown hx hb hts hin hown hK hP (hD _) hS hl_thrown dX1_use_2 (fun H locs hP hS => ?_)
    refine lv_aload_n hx hb dX1_use_5 rfl (lv_at hl 0 rfl) ?_
    refine lv_iload_n hx hb dX1_use_6 rfl (lv_at hl 1 rfl) ?_
    refine k_X1_isRecord D tI tZ tL h0 ad (s_set σ 0 0) (nI r) ⟨hx, hb, hml, hown, hts⟩ gX1_use_X1_isRecord ⟨Nat.le_of_ble_eq_true rfl, Nat.le_of_ble_eq_true rfl⟩ hl.1 ⟨Nat.zero_le _, Nat.zero_le _⟩ (Nat.le_of_ble_eq_true rfl) hK hP dX1_use_7 ?_
    refine lv_ifeq_b (tgt := 21) hx hb dX1_use_10 (by decide) (fun c10 => absurd c10 (ne_f (m_in_t (n := nr) (by show σ.1 7 - 1 = _; rw [hnr]) hrn (by omega)))) (fun c10 => ?_)
    refine lv_aload_n hx hb dX1_use_13 rfl (lv_at hl 0 rfl) ?_
    refine lv_iload_n hx hb dX1_use_14 rfl (lv_at hl 2 rfl) ?_
    refine k_X1_isPurpose D tI tZ tL h0 ad (s_set σ 0 0) (nI q) ⟨hx, hb, hml, hown, hts⟩ gX1_use_X1_isPurpose ⟨Nat.le_of_ble_eq_true rfl, Nat.le_of_ble_eq_true rfl⟩ hl.1 ⟨Nat.zero_le _, Nat.zero_le _⟩ (Nat.le_of_ble_eq_true rfl) hK hP dX1_use_15 ?_
    refine lv_ifne_b (tgt := 27) hx hb dX1_use_18 (by decide) (fun c18 => ?_) (fun c18 => absurd c18 (ne_f (m_in_t (n := np) (by show σ.1 2 - 1 = _; rw [hnp]) hq (by omega))))
    refine lv_aload_n hx hb dX1_use_27 rfl (lv_at hl 0 rfl) ?_
    refine lv_iload_n hx hb dX1_use_28 rfl (lv_at hl 1 rfl) ?_
    refine lv_iload_n hx hb dX1_use_29 rfl (lv_at hl 2 rfl) ?_
    refine k_X1_reason D tI tZ tL h0 ad (s_set σ 0 0) r q (by omega) (by omega) ⟨hx, hb, hml, hown, hts⟩ gX1_use_X1_reason ⟨Nat.le_of_ble_eq_true rfl, Nat.le_of_ble_eq_true rfl⟩ hl.1 ⟨Nat.zero_le _, Nat.zero_le _⟩ (Nat.le_of_ble_eq_true rfl) hK hP dX1_use_30 ?_
    refine lv_if_le (tgt := 42) hx hb dX1_use_33 (by decide) (fun c33 => ?_) (fun c33 => absurd hw c33)
    refine lv_aload_n hx hb dX1_use_42 rfl (lv_at hl 0 rfl) ?_
    refine mg_used hx hb hts hin hown hK hP hl_used dX1_use_43 ?_
    refine lv_bipush (v := 8) hx hb dX1_use_46 (by decide) ?_
    refine lv_iload_n hx hb dX1_use_48 rfl (lv_at hl 1 rfl) ?_
    refine lv_imul hx hb dX1_use_49 ?_
    refine lv_iload_n hx hb dX1_use_50 rfl (lv_at hl 2 rfl) ?_
    refine lv_iadd hx hb dX1_use_51 ?_
    refine lv_topc (y := nI (8 * r + q)) (m_ix r q) ?_
    refine lv_dup2_11 hx hb dX1_use_52 rfl rfl ?_
    refine mr_used (j := 8 * r + q) hx hb hK hP (by omega) dX1_use_53 ?_
    refine lv_iconst (v := 1) hx hb dX1_use_54 (by decide) ?_
    refine lv_iadd hx hb dX1_use_55 ?_
    refine mw_used (j := 8 * r + q) hx hb hK hP (hD _) hS (by omega) dX1_use_56 (fun H locs hP hS => ?_)
    refine lv_aload_n hx hb dX1_use_57 rfl (lv_at hl 0 rfl) ?_
    refine mg_used hx hb hts hin hown hK hP hl_used dX1_use_58 ?_
    refine lv_bipush (v := 8) hx hb dX1_use_61 (by decide) ?_
    refine lv_iload_n hx hb dX1_use_63 rfl (lv_at hl 1 rfl) ?_
    refine lv_imul hx hb dX1_use_64 ?_
    refine lv_iload_n hx hb dX1_use_65 rfl (lv_at hl 2 rfl) ?_
    refine lv_iadd hx hb dX1_use_66 ?_
    refine lv_topc (y := nI (8 * r + q)) (m_ix r q) ?_
    refine mr_used (j := 8 * r + q) hx hb hK hP (by omega) dX1_use_67 ?_
    exact u_iret hx hb hr hlocks hS (hP) (s_put_self) dX1_use_68
  exact key _ _ hP hS ls hl
theorem k_X1_use {p : Program} {l : Launch} {e : Env} {R : Room} {s : State} {m : MethodId} {args : Array Value} {below : List Frame} {meth : Method} {c : Code} {H : Heap} {locs : List Loc} {cells slots : Nat} {Q : State → Prop} {cc : ByteArray} {pc : Nat} {ls : Array Slot} {rest : List Value} {Ts : List Cond} (D : va_G) (tI tZ tL : ClassId) (h0 : Nat) (ad : Nat → Nat) (σ : ST) (r q : Nat) (nr : Nat) (hnr : σ.1 7 = nI nr) (hn30 : nr ≤ 30) (hrn : r < nr) (np : Nat) (hnp : σ.1 2 = nI np) (hn8 : np ≤ 8) (hq : q < np) (hw : m_rsn σ.2 (σ.1 1) r q ≤ 0) {A0 : Nat → Prop} {H0 : Heap} {own : String} {idx nL : Nat} (S : CallFix p m c cc nL s args Ts own) (hG : GoodIn Ts (wsV own idx RX1 yX1_use wsX1_use)) (hR : ({ frames := 4, cells := 0, slots := 0, locals := 90 } : Room).frames + 1 ≤ R.frames ∧ 8 + (3 + 11) + ({ frames := 4, cells := 0, slots := 0, locals := 90 } : Room).locals ≤ R.locals) (hsz : ls.size = nL) (hcap : cells ≤ R.cells ∧ slots ≤ R.slots) (hrm : (rest.map fun v => v.category).sum ≤ 8) (hn : (m_L h0 ad).Nodup) (hK : va_K D vwCl (kTY tI tZ tL) s) (hP : va_P D vwCl (m_W tI tZ h0 ad σ) H) (hS : va_S A0 H0 H locs) (hA : ∀ q, m_A h0 ad q → A0 q) (hdg : decode cc pc = .ok (.invokevirtual idx, 3)) (kk : ∀ (H1 : Heap) (locs1 : List Loc), va_P D vwCl (m_W tI tZ h0 ad (s_put (s_set σ 0 0) 13 (8 * r + q) (σ.2 13 (8 * r + q) + 1))) H1 → H.size ≤ H1.size → (∀ q : Nat, q < H.size → ¬ m_A h0 ad q → H1[q]? = H[q]?) → va_S A0 H0 H1 locs1 → W p l e R s m args below meth c H1 locs1 cells slots Q (F0 m (pc + 3) ls (.int (σ.2 13 (8 * r + q) + 1) :: rest))) : W p l e R s m args below meth c H locs cells slots Q (F0 m pc ls (.int (nI q) :: .int (nI r) :: .ref h0 :: rest)) :=
  u_call (va_runV (As := [.int (nI r), .int (nI q)]) (rest := rest) S (c_X1_use l D tI tZ tL h0 ad σ r q nr hnr hn30 hrn np hnp hn8 hq hw hn) (cwV 2 S.2.2.2.2 hG rfl rfl rfl (by decide +kernel) hR) (m_pre hK hP) rfl rfl hsz rfl (lv_room hrm) hdg hcap) hS hA hA kk

set_option maxHeartbeats 4000000 in
set_option maxRecDepth 100000 in
theorem c_X1_addPurpose_f (l : Launch) (D : va_G) (tI tZ tL : ClassId) (h0 : Nat) (ad : Nat → Nat) (σ : ST) (v : Int32) (g : Bool) (hbad : m_in v 0 3650 = false) (hn : (m_L h0 ad).Nodup) : Met l yX1_addPurpose wsX1_addPurpose ({ frames := 1, cells := 0, slots := 0, locals := 22 } : Room) (va_Pc ([.ref h0, .int v, .int (b01 g)] : List Value) (m_B D tI tZ tL h0 ad σ)) (u_Q (some (.int 0)) (m_P D tI tZ h0 ad (s_set (s_set σ 0 0) 0 1)) (m_A h0 ad)) 0 0 (m_A h0 ad) := by
  refine u_met (cc := cX1_addPurpose) (maxL := 3) (ret := (some .int)) (by decide) rfl (Nat.le_of_ble_eq_true rfl) ?_
  intro p e s m below meth c hx hb hml hr hts hown hlocks hB hS ls hl
  have hD : ∀ σ : ST, va_D (m_A h0 ad) (m_W tI tZ h0 ad σ) := fun σ => m_D σ hn (fun _ h => h)
  have hown : s.vm.findClass RX1 = some m.cls := hown
  obtain ⟨hP, hK⟩ := hB
  have hl : lv_has ls 3 [(0, .ref h0), (1, .int v), (2, .int (b01 g))] := hl
  have hin : ∀ w ∈ wsX10, w ∈ wsX1_addPurpose := in_X1_addPurpose
  have hl_thrown : ml_thrown ∈ wsX1_addPurpose := by decide +kernel
  have key : ∀ (H : Heap) (locs : List Loc), va_P D vwCl (m_W tI tZ h0 ad σ) H → va_S (m_A h0 ad) s.heap H locs → ∀ ls, lv_has ls 3 [(0, .ref h0), (1, .int v), (2, .int (b01 g))] → u_G p l e ({ frames := 1, cells := 0, slots := 0, locals := 22 } : Room) s m ([.ref h0, .int v, .int (b01 g)] : List Value).toArray below meth c H locs (some (.int 0)) (m_P D tI tZ h0 ad (s_set (s_set σ 0 0) 0 1)) (m_A h0 ad) (F0 m 0 ls []) := by
    intro H locs hP hS ls hl
    refine lv_aload_n hx hb dX1_addPurpose_0 rfl (lv_at hl 0 rfl) ?_
    refine lv_iconst (v := 0) hx hb dX1_addPurpose_1 (by decide) ?_
    refine mp_thrown hx hb hts hin hown hK hP (hD _) hS hl_thrown dX1_addPurpose_2 (fun H locs hP hS => ?_)
    refine lv_iload_n hx hb dX1_addPurpose_5 rfl (lv_at hl 1 rfl) ?_
    refine lv_iconst (v := 0) hx hb dX1_addPurpose_6 (by decide) ?_
    refine lv_sipush (v := 3650) hx hb dX1_addPurpose_7 (by decide) ?_
    refine k_X1_in v 0 3650 ⟨hx, hb, hml, hown, hts⟩ gX1_addPurpose_X1_in ⟨Nat.le_of_ble_eq_true rfl, Nat.le_of_ble_eq_true rfl⟩ hl.1 ⟨Nat.zero_le _, Nat.zero_le _⟩ (Nat.le_of_ble_eq_true rfl) dX1_addPurpose_10 ?_
    refine lv_ifne_b (tgt := 22) hx hb dX1_addPurpose_13 (by decide) (fun c13 => absurd c13 (by first | exact ne_t hbad | exact ne_f hbad)) (fun c13 => ?_)
    refine lv_aload_n hx hb dX1_addPurpose_16 rfl (lv_at hl 0 rfl) ?_
    refine lv_iconst (v := 1) hx hb dX1_addPurpose_17 (by decide) ?_
    refine k_X1_fails D tI tZ tL h0 ad (s_set σ 0 0) 1 ⟨hx, hb, hml, hown, hts⟩ gX1_addPurpose_X1_fails ⟨Nat.le_of_ble_eq_true rfl, Nat.le_of_ble_eq_true rfl⟩ hl.1 ⟨Nat.zero_le _, Nat.zero_le _⟩ (Nat.le_of_ble_eq_true rfl) hn hK hP hS (fun q h => h) dX1_addPurpose_18 (fun H locs hP _ _ hS => ?_)
    exact u_iret hx hb hr hlocks hS (hP) (rfl) dX1_addPurpose_21
  exact key _ _ hP hS ls hl
theorem k_X1_addPurpose_f {p : Program} {l : Launch} {e : Env} {R : Room} {s : State} {m : MethodId} {args : Array Value} {below : List Frame} {meth : Method} {c : Code} {H : Heap} {locs : List Loc} {cells slots : Nat} {Q : State → Prop} {cc : ByteArray} {pc : Nat} {ls : Array Slot} {rest : List Value} {Ts : List Cond} (D : va_G) (tI tZ tL : ClassId) (h0 : Nat) (ad : Nat → Nat) (σ : ST) (v : Int32) (g : Bool) (hbad : m_in v 0 3650 = false) {A0 : Nat → Prop} {H0 : Heap} {own : String} {idx nL : Nat} (S : CallFix p m c cc nL s args Ts own) (hG : GoodIn Ts (wsV own idx RX1 yX1_addPurpose wsX1_addPurpose)) (hR : ({ frames := 1, cells := 0, slots := 0, locals := 22 } : Room).frames + 1 ≤ R.frames ∧ 8 + (3 + 11) + ({ frames := 1, cells := 0, slots := 0, locals := 22 } : Room).locals ≤ R.locals) (hsz : ls.size = nL) (hcap : cells ≤ R.cells ∧ slots ≤ R.slots) (hrm : (rest.map fun v => v.category).sum ≤ 8) (hn : (m_L h0 ad).Nodup) (hK : va_K D vwCl (kTY tI tZ tL) s) (hP : va_P D vwCl (m_W tI tZ h0 ad σ) H) (hS : va_S A0 H0 H locs) (hA : ∀ q, m_A h0 ad q → A0 q) (hdg : decode cc pc = .ok (.invokevirtual idx, 3)) (kk : ∀ (H1 : Heap) (locs1 : List Loc), va_P D vwCl (m_W tI tZ h0 ad (s_set (s_set σ 0 0) 0 1)) H1 → H.size ≤ H1.size → (∀ q : Nat, q < H.size → ¬ m_A h0 ad q → H1[q]? = H[q]?) → va_S A0 H0 H1 locs1 → W p l e R s m args below meth c H1 locs1 cells slots Q (F0 m (pc + 3) ls (.int 0 :: rest))) : W p l e R s m args below meth c H locs cells slots Q (F0 m pc ls (.int (b01 g) :: .int v :: .ref h0 :: rest)) :=
  u_call (va_runV (As := [.int v, .int (b01 g)]) (rest := rest) S (c_X1_addPurpose_f l D tI tZ tL h0 ad σ v g hbad hn) (cwV 2 S.2.2.2.2 hG rfl rfl rfl (by decide +kernel) hR) (m_pre hK hP) rfl rfl hsz rfl (lv_room hrm) hdg hcap) hS hA hA kk

set_option maxHeartbeats 4000000 in
set_option maxRecDepth 100000 in
theorem c_X1_addPurpose_g (l : Launch) (D : va_G) (tI tZ tL : ClassId) (h0 : Nat) (ad : Nat → Nat) (σ : ST) (v : Int32) (g : Bool) (hv : m_in v 0 3650 = true) (hfull : σ.1 2 = 8) (hn : (m_L h0 ad).Nodup) : Met l yX1_addPurpose wsX1_addPurpose ({ frames := 1, cells := 0, slots := 0, locals := 22 } : Room) (va_Pc ([.ref h0, .int v, .int (b01 g)] : List Value) (m_B D tI tZ tL h0 ad σ)) (u_Q (some (.int 0)) (m_P D tI tZ h0 ad (s_set (s_set σ 0 0) 0 2)) (m_A h0 ad)) 0 0 (m_A h0 ad) := by
  refine u_met (cc := cX1_addPurpose) (maxL := 3) (ret := (some .int)) (by decide) rfl (Nat.le_of_ble_eq_true rfl) ?_
  intro p e s m below meth c hx hb hml hr hts hown hlocks hB hS ls hl
  have hD : ∀ σ : ST, va_D (m_A h0 ad) (m_W tI tZ h0 ad σ) := fun σ => m_D σ hn (fun _ h => h)
  have hown : s.vm.findClass RX1 = some m.cls := hown
  obtain ⟨hP, hK⟩ := hB
  have hl : lv_has ls 3 [(0, .ref h0), (1, .int v), (2, .int (b01 g))] := hl
  have hin : ∀ w ∈ wsX10, w ∈ wsX1_addPurpose := in_X1_addPurpose
  have hl_purposes : ml_purposes ∈ wsX1_addPurpose := by decide +kernel
  have hl_thrown : ml_thrown ∈ wsX1_addPurpose := by decide +kernel
  have key : ∀ (H : Heap) (locs : List Loc), va_P D vwCl (m_W tI tZ h0 ad σ) H → va_S (m_A h0 ad) s.heap H locs → ∀ ls, lv_has ls 3 [(0, .ref h0), (1, .int v), (2, .int (b01 g))] → u_G p l e ({ frames := 1, cells := 0, slots := 0, locals := 22 } : Room) s m ([.ref h0, .int v, .int (b01 g)] : List Value).toArray below meth c H locs (some (.int 0)) (m_P D tI tZ h0 ad (s_set (s_set σ 0 0) 0 2)) (m_A h0 ad) (F0 m 0 ls []) := by
    intro H locs hP hS ls hl
    refine lv_aload_n hx hb dX1_addPurpose_0 rfl (lv_at hl 0 rfl) ?_
    refine lv_iconst (v := 0) hx hb dX1_addPurpose_1 (by decide) ?_
    refine mp_thrown hx hb hts hin hown hK hP (hD _) hS hl_thrown dX1_addPurpose_2 (fun H locs hP hS => ?_)
    refine lv_iload_n hx hb dX1_addPurpose_5 rfl (lv_at hl 1 rfl) ?_
    refine lv_iconst (v := 0) hx hb dX1_addPurpose_6 (by decide) ?_
    refine lv_sipush (v := 3650) hx hb dX1_addPurpose_7 (by decide) ?_
    refine k_X1_in v 0 3650 ⟨hx, hb, hml, hown, hts⟩ gX1_addPurpose_X1_in ⟨Nat.le_of_ble_eq_true rfl, Nat.le_of_ble_eq_true rfl⟩ hl.1 ⟨Nat.zero_le _, Nat.zero_le _⟩ (Nat.le_of_ble_eq_true rfl) dX1_addPurpose_10 ?_
    refine lv_ifne_b (tgt := 22) hx hb dX1_addPurpose_13 (by decide) (fun c13 => ?_) (fun c13 => absurd c13 (by first | exact ne_t hv | exact ne_f hv))
    refine lv_aload_n hx hb dX1_addPurpose_22 rfl (lv_at hl 0 rfl) ?_
    refine mg_purposes hx hb hts hin hown hK hP hl_purposes dX1_addPurpose_23 ?_
    refine lv_bipush (v := 8) hx hb dX1_addPurpose_26 (by decide) ?_
    refine lv_icmp_ne (tgt := 37) hx hb dX1_addPurpose_28 (by decide) (fun c28 => absurd hfull c28) (fun c28 => ?_)
    refine lv_aload_n hx hb dX1_addPurpose_31 rfl (lv_at hl 0 rfl) ?_
    refine lv_iconst (v := 2) hx hb dX1_addPurpose_32 (by decide) ?_
    refine k_X1_fails D tI tZ tL h0 ad (s_set σ 0 0) 2 ⟨hx, hb, hml, hown, hts⟩ gX1_addPurpose_X1_fails ⟨Nat.le_of_ble_eq_true rfl, Nat.le_of_ble_eq_true rfl⟩ hl.1 ⟨Nat.zero_le _, Nat.zero_le _⟩ (Nat.le_of_ble_eq_true rfl) hn hK hP hS (fun q h => h) dX1_addPurpose_33 (fun H locs hP _ _ hS => ?_)
    exact u_iret hx hb hr hlocks hS (hP) (rfl) dX1_addPurpose_36
  exact key _ _ hP hS ls hl
theorem k_X1_addPurpose_g {p : Program} {l : Launch} {e : Env} {R : Room} {s : State} {m : MethodId} {args : Array Value} {below : List Frame} {meth : Method} {c : Code} {H : Heap} {locs : List Loc} {cells slots : Nat} {Q : State → Prop} {cc : ByteArray} {pc : Nat} {ls : Array Slot} {rest : List Value} {Ts : List Cond} (D : va_G) (tI tZ tL : ClassId) (h0 : Nat) (ad : Nat → Nat) (σ : ST) (v : Int32) (g : Bool) (hv : m_in v 0 3650 = true) (hfull : σ.1 2 = 8) {A0 : Nat → Prop} {H0 : Heap} {own : String} {idx nL : Nat} (S : CallFix p m c cc nL s args Ts own) (hG : GoodIn Ts (wsV own idx RX1 yX1_addPurpose wsX1_addPurpose)) (hR : ({ frames := 1, cells := 0, slots := 0, locals := 22 } : Room).frames + 1 ≤ R.frames ∧ 8 + (3 + 11) + ({ frames := 1, cells := 0, slots := 0, locals := 22 } : Room).locals ≤ R.locals) (hsz : ls.size = nL) (hcap : cells ≤ R.cells ∧ slots ≤ R.slots) (hrm : (rest.map fun v => v.category).sum ≤ 8) (hn : (m_L h0 ad).Nodup) (hK : va_K D vwCl (kTY tI tZ tL) s) (hP : va_P D vwCl (m_W tI tZ h0 ad σ) H) (hS : va_S A0 H0 H locs) (hA : ∀ q, m_A h0 ad q → A0 q) (hdg : decode cc pc = .ok (.invokevirtual idx, 3)) (kk : ∀ (H1 : Heap) (locs1 : List Loc), va_P D vwCl (m_W tI tZ h0 ad (s_set (s_set σ 0 0) 0 2)) H1 → H.size ≤ H1.size → (∀ q : Nat, q < H.size → ¬ m_A h0 ad q → H1[q]? = H[q]?) → va_S A0 H0 H1 locs1 → W p l e R s m args below meth c H1 locs1 cells slots Q (F0 m (pc + 3) ls (.int 0 :: rest))) : W p l e R s m args below meth c H locs cells slots Q (F0 m pc ls (.int (b01 g) :: .int v :: .ref h0 :: rest)) :=
  u_call (va_runV (As := [.int v, .int (b01 g)]) (rest := rest) S (c_X1_addPurpose_g l D tI tZ tL h0 ad σ v g hv hfull hn) (cwV 2 S.2.2.2.2 hG rfl rfl rfl (by decide +kernel) hR) (m_pre hK hP) rfl rfl hsz rfl (lv_room hrm) hdg hcap) hS hA hA kk

set_option maxHeartbeats 4000000 in
set_option maxRecDepth 100000 in
theorem c_X1_addPurpose (l : Launch) (D : va_G) (tI tZ tL : ClassId) (h0 : Nat) (ad : Nat → Nat) (σ : ST) (v : Int32) (g : Bool) (hv : m_in v 0 3650 = true) (np : Nat) (hnp : σ.1 2 = nI np) (hlt8 : np < 8) (hn : (m_L h0 ad).Nodup) : Met l yX1_addPurpose wsX1_addPurpose ({ frames := 1, cells := 0, slots := 0, locals := 22 } : Room) (va_Pc ([.ref h0, .int v, .int (b01 g)] : List Value) (m_B D tI tZ tL h0 ad σ)) (u_Q (some (.int (nI np))) (m_P D tI tZ h0 ad (m_addP σ np v g)) (m_A h0 ad)) 0 0 (m_A h0 ad) := by
  refine u_met (cc := cX1_addPurpose) (maxL := 3) (ret := (some .int)) (by decide) rfl (Nat.le_of_ble_eq_true rfl) ?_
  intro p e s m below meth c hx hb hml hr hts hown hlocks hB hS ls hl
  have hD : ∀ σ : ST, va_D (m_A h0 ad) (m_W tI tZ h0 ad σ) := fun σ => m_D σ hn (fun _ h => h)
  have hown : s.vm.findClass RX1 = some m.cls := hown
  obtain ⟨hP, hK⟩ := hB
  have hl : lv_has ls 3 [(0, .ref h0), (1, .int v), (2, .int (b01 g))] := hl
  have hin : ∀ w ∈ wsX10, w ∈ wsX1_addPurpose := in_X1_addPurpose
  have hl_needs : ml_needs ∈ wsX1_addPurpose := by decide +kernel
  have hl_purposes : ml_purposes ∈ wsX1_addPurpose := by decide +kernel
  have hl_retention : ml_retention ∈ wsX1_addPurpose := by decide +kernel
  have hl_thrown : ml_thrown ∈ wsX1_addPurpose := by decide +kernel
  have key : ∀ (H : Heap) (locs : List Loc), va_P D vwCl (m_W tI tZ h0 ad σ) H → va_S (m_A h0 ad) s.heap H locs → ∀ ls, lv_has ls 3 [(0, .ref h0), (1, .int v), (2, .int (b01 g))] → u_G p l e ({ frames := 1, cells := 0, slots := 0, locals := 22 } : Room) s m ([.ref h0, .int v, .int (b01 g)] : List Value).toArray below meth c H locs (some (.int (nI np))) (m_P D tI tZ h0 ad (m_addP σ np v g)) (m_A h0 ad) (F0 m 0 ls []) := by
    intro H locs hP hS ls hl
    refine lv_aload_n hx hb dX1_addPurpose_0 rfl (lv_at hl 0 rfl) ?_
    refine lv_iconst (v := 0) hx hb dX1_addPurpose_1 (by decide) ?_
    refine mp_thrown hx hb hts hin hown hK hP (hD _) hS hl_thrown dX1_addPurpose_2 (fun H locs hP hS => ?_)
    refine lv_iload_n hx hb dX1_addPurpose_5 rfl (lv_at hl 1 rfl) ?_
    refine lv_iconst (v := 0) hx hb dX1_addPurpose_6 (by decide) ?_
    refine lv_sipush (v := 3650) hx hb dX1_addPurpose_7 (by decide) ?_
    refine k_X1_in v 0 3650 ⟨hx, hb, hml, hown, hts⟩ gX1_addPurpose_X1_in ⟨Nat.le_of_ble_eq_true rfl, Nat.le_of_ble_eq_true rfl⟩ hl.1 ⟨Nat.zero_le _, Nat.zero_le _⟩ (Nat.le_of_ble_eq_true rfl) dX1_addPurpose_10 ?_
    refine lv_ifne_b (tgt := 22) hx hb dX1_addPurpose_13 (by decide) (fun c13 => ?_) (fun c13 => absurd c13 (by first | exact ne_t hv | exact ne_f hv))
    refine lv_aload_n hx hb dX1_addPurpose_22 rfl (lv_at hl 0 rfl) ?_
    refine mg_purposes hx hb hts hin hown hK hP hl_purposes dX1_addPurpose_23 ?_
    refine lv_bipush (v := 8) hx hb dX1_addPurpose_26 (by decide) ?_
    refine lv_icmp_ne (tgt := 37) hx hb dX1_addPurpose_28 (by decide) (fun c28 => ?_) (fun c28 => absurd c28 (show ¬ σ.1 2 = 8 by rw [hnp]; exact fun h => absurd ((nI_eq (b := 8) (by omega) (by decide)).mp h) (by omega)))
    refine lv_aload_n hx hb dX1_addPurpose_37 rfl (lv_at hl 0 rfl) ?_
    refine mg_retention hx hb hts hin hown hK hP hl_retention dX1_addPurpose_38 ?_
    refine lv_aload_n hx hb dX1_addPurpose_41 rfl (lv_at hl 0 rfl) ?_
    refine mg_purposes hx hb hts hin hown hK hP hl_purposes dX1_addPurpose_42 ?_
    refine lv_topc (y := nI np) (hnp) ?_
    refine lv_iload_n hx hb dX1_addPurpose_45 rfl (lv_at hl 1 rfl) ?_
    refine mw_retention (j := np) hx hb hK hP (hD _) hS (by omega) dX1_addPurpose_46 (fun H locs hP hS => ?_)
    refine lv_aload_n hx hb dX1_addPurpose_47 rfl (lv_at hl 0 rfl) ?_
    refine mg_needs hx hb hts hin hown hK hP hl_needs dX1_addPurpose_48 ?_
    refine lv_aload_n hx hb dX1_addPurpose_51 rfl (lv_at hl 0 rfl) ?_
    refine mg_purposes hx hb hts hin hown hK hP hl_purposes dX1_addPurpose_52 ?_
    refine lv_topc (y := nI np) (hnp) ?_
    refine lv_iload_n hx hb dX1_addPurpose_55 rfl (lv_at hl 2 rfl) ?_
    refine mw_needs (j := np) hx hb hK hP (hD _) hS (by omega) dX1_addPurpose_56 (fun H locs hP hS => ?_)
    refine lv_aload_n hx hb dX1_addPurpose_57 rfl (lv_at hl 0 rfl) ?_
    refine lv_dup hx hb dX1_addPurpose_58 rfl ?_
    refine mg_purposes hx hb hts hin hown hK hP hl_purposes dX1_addPurpose_59 ?_
    refine lv_iconst (v := 1) hx hb dX1_addPurpose_62 (by decide) ?_
    refine lv_iadd hx hb dX1_addPurpose_63 ?_
    refine mp_purposes hx hb hts hin hown hK hP (hD _) hS hl_purposes dX1_addPurpose_64 (fun H locs hP hS => ?_)
    refine lv_aload_n hx hb dX1_addPurpose_67 rfl (lv_at hl 0 rfl) ?_
    refine mg_purposes hx hb hts hin hown hK hP hl_purposes dX1_addPurpose_68 ?_
    refine lv_iconst (v := 1) hx hb dX1_addPurpose_71 (by decide) ?_
    refine lv_isub hx hb dX1_addPurpose_72 ?_
    exact u_iret hx hb hr hlocks hS (by unfold m_addP; rw [← nI_1, ← hnp]; exact hP) (by show σ.1 2 + 1 - 1 = nI np; rw [hnp, nI_1, nI_pred]) dX1_addPurpose_73
  exact key _ _ hP hS ls hl
theorem k_X1_addPurpose {p : Program} {l : Launch} {e : Env} {R : Room} {s : State} {m : MethodId} {args : Array Value} {below : List Frame} {meth : Method} {c : Code} {H : Heap} {locs : List Loc} {cells slots : Nat} {Q : State → Prop} {cc : ByteArray} {pc : Nat} {ls : Array Slot} {rest : List Value} {Ts : List Cond} (D : va_G) (tI tZ tL : ClassId) (h0 : Nat) (ad : Nat → Nat) (σ : ST) (v : Int32) (g : Bool) (hv : m_in v 0 3650 = true) (np : Nat) (hnp : σ.1 2 = nI np) (hlt8 : np < 8) {A0 : Nat → Prop} {H0 : Heap} {own : String} {idx nL : Nat} (S : CallFix p m c cc nL s args Ts own) (hG : GoodIn Ts (wsV own idx RX1 yX1_addPurpose wsX1_addPurpose)) (hR : ({ frames := 1, cells := 0, slots := 0, locals := 22 } : Room).frames + 1 ≤ R.frames ∧ 8 + (3 + 11) + ({ frames := 1, cells := 0, slots := 0, locals := 22 } : Room).locals ≤ R.locals) (hsz : ls.size = nL) (hcap : cells ≤ R.cells ∧ slots ≤ R.slots) (hrm : (rest.map fun v => v.category).sum ≤ 8) (hn : (m_L h0 ad).Nodup) (hK : va_K D vwCl (kTY tI tZ tL) s) (hP : va_P D vwCl (m_W tI tZ h0 ad σ) H) (hS : va_S A0 H0 H locs) (hA : ∀ q, m_A h0 ad q → A0 q) (hdg : decode cc pc = .ok (.invokevirtual idx, 3)) (kk : ∀ (H1 : Heap) (locs1 : List Loc), va_P D vwCl (m_W tI tZ h0 ad (m_addP σ np v g)) H1 → H.size ≤ H1.size → (∀ q : Nat, q < H.size → ¬ m_A h0 ad q → H1[q]? = H[q]?) → va_S A0 H0 H1 locs1 → W p l e R s m args below meth c H1 locs1 cells slots Q (F0 m (pc + 3) ls (.int (nI np) :: rest))) : W p l e R s m args below meth c H locs cells slots Q (F0 m pc ls (.int (b01 g) :: .int v :: .ref h0 :: rest)) :=
  u_call (va_runV (As := [.int v, .int (b01 g)]) (rest := rest) S (c_X1_addPurpose l D tI tZ tL h0 ad σ v g hv np hnp hlt8 hn) (cwV 2 S.2.2.2.2 hG rfl rfl rfl (by decide +kernel) hR) (m_pre hK hP) rfl rfl hsz rfl (lv_room hrm) hdg hcap) hS hA hA kk

set_option maxHeartbeats 4000000 in
set_option maxRecDepth 100000 in
theorem c_X1_setRetention_f (l : Launch) (D : va_G) (tI tZ tL : ClassId) (h0 : Nat) (ad : Nat → Nat) (σ : ST) (v w : Int32) (hbad : m_in v 0 (σ.1 2 - 1) = false) (hn : (m_L h0 ad).Nodup) : Met l yX1_setRetention wsX1_setRetention ({ frames := 2, cells := 0, slots := 0, locals := 43 } : Room) (va_Pc ([.ref h0, .int v, .int w] : List Value) (m_B D tI tZ tL h0 ad σ)) (u_Q (some (.int 0)) (m_P D tI tZ h0 ad (s_set (s_set σ 0 0) 0 1)) (m_A h0 ad)) 0 0 (m_A h0 ad) := by
  refine u_met (cc := cX1_setRetention) (maxL := 4) (ret := (some .int)) (by decide) rfl (Nat.le_of_ble_eq_true rfl) ?_
  intro p e s m below meth c hx hb hml hr hts hown hlocks hB hS ls hl
  have hD : ∀ σ : ST, va_D (m_A h0 ad) (m_W tI tZ h0 ad σ) := fun σ => m_D σ hn (fun _ h => h)
  have hown : s.vm.findClass RX1 = some m.cls := hown
  obtain ⟨hP, hK⟩ := hB
  have hl : lv_has ls 4 [(0, .ref h0), (1, .int v), (2, .int w)] := hl
  have hin : ∀ w ∈ wsX10, w ∈ wsX1_setRetention := in_X1_setRetention
  have hl_thrown : ml_thrown ∈ wsX1_setRetention := by decide +kernel
  have key : ∀ (H : Heap) (locs : List Loc), va_P D vwCl (m_W tI tZ h0 ad σ) H → va_S (m_A h0 ad) s.heap H locs → ∀ ls, lv_has ls 4 [(0, .ref h0), (1, .int v), (2, .int w)] → u_G p l e ({ frames := 2, cells := 0, slots := 0, locals := 43 } : Room) s m ([.ref h0, .int v, .int w] : List Value).toArray below meth c H locs (some (.int 0)) (m_P D tI tZ h0 ad (s_set (s_set σ 0 0) 0 1)) (m_A h0 ad) (F0 m 0 ls []) := by
    intro H locs hP hS ls hl
    refine lv_aload_n hx hb dX1_setRetention_0 rfl (lv_at hl 0 rfl) ?_
    refine lv_iconst (v := 0) hx hb dX1_setRetention_1 (by decide) ?_
    refine mp_thrown hx hb hts hin hown hK hP (hD _) hS hl_thrown dX1_setRetention_2 (fun H locs hP hS => ?_)
    refine lv_aload_n hx hb dX1_setRetention_5 rfl (lv_at hl 0 rfl) ?_
    refine lv_iload_n hx hb dX1_setRetention_6 rfl (lv_at hl 1 rfl) ?_
    refine k_X1_isPurpose D tI tZ tL h0 ad (s_set σ 0 0) v ⟨hx, hb, hml, hown, hts⟩ gX1_setRetention_X1_isPurpose ⟨Nat.le_of_ble_eq_true rfl, Nat.le_of_ble_eq_true rfl⟩ hl.1 ⟨Nat.zero_le _, Nat.zero_le _⟩ (Nat.le_of_ble_eq_true rfl) hK hP dX1_setRetention_7 ?_
    refine lv_ifne_b (tgt := 19) hx hb dX1_setRetention_10 (by decide) (fun c10 => absurd c10 (by first | exact ne_t hbad | exact ne_f hbad)) (fun c10 => ?_)
    refine lv_aload_n hx hb dX1_setRetention_13 rfl (lv_at hl 0 rfl) ?_
    refine lv_iconst (v := 1) hx hb dX1_setRetention_14 (by decide) ?_
    refine k_X1_fails D tI tZ tL h0 ad (s_set σ 0 0) 1 ⟨hx, hb, hml, hown, hts⟩ gX1_setRetention_X1_fails ⟨Nat.le_of_ble_eq_true rfl, Nat.le_of_ble_eq_true rfl⟩ hl.1 ⟨Nat.zero_le _, Nat.zero_le _⟩ (Nat.le_of_ble_eq_true rfl) hn hK hP hS (fun q h => h) dX1_setRetention_15 (fun H locs hP _ _ hS => ?_)
    exact u_iret hx hb hr hlocks hS (hP) (rfl) dX1_setRetention_18
  exact key _ _ hP hS ls hl
theorem k_X1_setRetention_f {p : Program} {l : Launch} {e : Env} {R : Room} {s : State} {m : MethodId} {args : Array Value} {below : List Frame} {meth : Method} {c : Code} {H : Heap} {locs : List Loc} {cells slots : Nat} {Q : State → Prop} {cc : ByteArray} {pc : Nat} {ls : Array Slot} {rest : List Value} {Ts : List Cond} (D : va_G) (tI tZ tL : ClassId) (h0 : Nat) (ad : Nat → Nat) (σ : ST) (v w : Int32) (hbad : m_in v 0 (σ.1 2 - 1) = false) {A0 : Nat → Prop} {H0 : Heap} {own : String} {idx nL : Nat} (S : CallFix p m c cc nL s args Ts own) (hG : GoodIn Ts (wsV own idx RX1 yX1_setRetention wsX1_setRetention)) (hR : ({ frames := 2, cells := 0, slots := 0, locals := 43 } : Room).frames + 1 ≤ R.frames ∧ 8 + (4 + 11) + ({ frames := 2, cells := 0, slots := 0, locals := 43 } : Room).locals ≤ R.locals) (hsz : ls.size = nL) (hcap : cells ≤ R.cells ∧ slots ≤ R.slots) (hrm : (rest.map fun v => v.category).sum ≤ 8) (hn : (m_L h0 ad).Nodup) (hK : va_K D vwCl (kTY tI tZ tL) s) (hP : va_P D vwCl (m_W tI tZ h0 ad σ) H) (hS : va_S A0 H0 H locs) (hA : ∀ q, m_A h0 ad q → A0 q) (hdg : decode cc pc = .ok (.invokevirtual idx, 3)) (kk : ∀ (H1 : Heap) (locs1 : List Loc), va_P D vwCl (m_W tI tZ h0 ad (s_set (s_set σ 0 0) 0 1)) H1 → H.size ≤ H1.size → (∀ q : Nat, q < H.size → ¬ m_A h0 ad q → H1[q]? = H[q]?) → va_S A0 H0 H1 locs1 → W p l e R s m args below meth c H1 locs1 cells slots Q (F0 m (pc + 3) ls (.int 0 :: rest))) : W p l e R s m args below meth c H locs cells slots Q (F0 m pc ls (.int w :: .int v :: .ref h0 :: rest)) :=
  u_call (va_runV (As := [.int v, .int w]) (rest := rest) S (c_X1_setRetention_f l D tI tZ tL h0 ad σ v w hbad hn) (cwV 2 S.2.2.2.2 hG rfl rfl rfl (by decide +kernel) hR) (m_pre hK hP) rfl rfl hsz rfl (lv_room hrm) hdg hcap) hS hA hA kk

set_option maxHeartbeats 4000000 in
set_option maxRecDepth 100000 in
theorem c_X1_setRetention_g (l : Launch) (D : va_G) (tI tZ tL : ClassId) (h0 : Nat) (ad : Nat → Nat) (σ : ST) (q : Nat) (v : Int32) (np : Nat) (hnp : σ.1 2 = nI np) (hn8 : np ≤ 8) (hq : q < np) (hbad : m_in v 0 3650 = false) (hn : (m_L h0 ad).Nodup) : Met l yX1_setRetention wsX1_setRetention ({ frames := 2, cells := 0, slots := 0, locals := 43 } : Room) (va_Pc ([.ref h0, .int (nI q), .int v] : List Value) (m_B D tI tZ tL h0 ad σ)) (u_Q (some (.int 0)) (m_P D tI tZ h0 ad (s_set (s_set σ 0 0) 0 2)) (m_A h0 ad)) 0 0 (m_A h0 ad) := by
  refine u_met (cc := cX1_setRetention) (maxL := 4) (ret := (some .int)) (by decide) rfl (Nat.le_of_ble_eq_true rfl) ?_
  intro p e s m below meth c hx hb hml hr hts hown hlocks hB hS ls hl
  have hD : ∀ σ : ST, va_D (m_A h0 ad) (m_W tI tZ h0 ad σ) := fun σ => m_D σ hn (fun _ h => h)
  have hown : s.vm.findClass RX1 = some m.cls := hown
  obtain ⟨hP, hK⟩ := hB
  have hl : lv_has ls 4 [(0, .ref h0), (1, .int (nI q)), (2, .int v)] := hl
  have hin : ∀ w ∈ wsX10, w ∈ wsX1_setRetention := in_X1_setRetention
  have hl_thrown : ml_thrown ∈ wsX1_setRetention := by decide +kernel
  have key : ∀ (H : Heap) (locs : List Loc), va_P D vwCl (m_W tI tZ h0 ad σ) H → va_S (m_A h0 ad) s.heap H locs → ∀ ls, lv_has ls 4 [(0, .ref h0), (1, .int (nI q)), (2, .int v)] → u_G p l e ({ frames := 2, cells := 0, slots := 0, locals := 43 } : Room) s m ([.ref h0, .int (nI q), .int v] : List Value).toArray below meth c H locs (some (.int 0)) (m_P D tI tZ h0 ad (s_set (s_set σ 0 0) 0 2)) (m_A h0 ad) (F0 m 0 ls []) := by
    intro H locs hP hS ls hl
    refine lv_aload_n hx hb dX1_setRetention_0 rfl (lv_at hl 0 rfl) ?_
    refine lv_iconst (v := 0) hx hb dX1_setRetention_1 (by decide) ?_
    refine mp_thrown hx hb hts hin hown hK hP (hD _) hS hl_thrown dX1_setRetention_2 (fun H locs hP hS => ?_)
    refine lv_aload_n hx hb dX1_setRetention_5 rfl (lv_at hl 0 rfl) ?_
    refine lv_iload_n hx hb dX1_setRetention_6 rfl (lv_at hl 1 rfl) ?_
    refine k_X1_isPurpose D tI tZ tL h0 ad (s_set σ 0 0) (nI q) ⟨hx, hb, hml, hown, hts⟩ gX1_setRetention_X1_isPurpose ⟨Nat.le_of_ble_eq_true rfl, Nat.le_of_ble_eq_true rfl⟩ hl.1 ⟨Nat.zero_le _, Nat.zero_le _⟩ (Nat.le_of_ble_eq_true rfl) hK hP dX1_setRetention_7 ?_
    refine lv_ifne_b (tgt := 19) hx hb dX1_setRetention_10 (by decide) (fun c10 => ?_) (fun c10 => absurd c10 (ne_f (m_in_t (n := np) (by show σ.1 2 - 1 = _; rw [hnp]) hq (by omega))))
    refine lv_iload_n hx hb dX1_setRetention_19 rfl (lv_at hl 2 rfl) ?_
    refine lv_iconst (v := 0) hx hb dX1_setRetention_20 (by decide) ?_
    refine lv_sipush (v := 3650) hx hb dX1_setRetention_21 (by decide) ?_
    refine k_X1_in v 0 3650 ⟨hx, hb, hml, hown, hts⟩ gX1_setRetention_X1_in ⟨Nat.le_of_ble_eq_true rfl, Nat.le_of_ble_eq_true rfl⟩ hl.1 ⟨Nat.zero_le _, Nat.zero_le _⟩ (Nat.le_of_ble_eq_true rfl) dX1_setRetention_24 ?_
    refine lv_ifne_b (tgt := 36) hx hb dX1_setRetention_27 (by decide) (fun c27 => absurd c27 (by first | exact ne_t hbad | exact ne_f hbad)) (fun c27 => ?_)
    refine lv_aload_n hx hb dX1_setRetention_30 rfl (lv_at hl 0 rfl) ?_
    refine lv_iconst (v := 2) hx hb dX1_setRetention_31 (by decide) ?_
    refine k_X1_fails D tI tZ tL h0 ad (s_set σ 0 0) 2 ⟨hx, hb, hml, hown, hts⟩ gX1_setRetention_X1_fails ⟨Nat.le_of_ble_eq_true rfl, Nat.le_of_ble_eq_true rfl⟩ hl.1 ⟨Nat.zero_le _, Nat.zero_le _⟩ (Nat.le_of_ble_eq_true rfl) hn hK hP hS (fun q h => h) dX1_setRetention_32 (fun H locs hP _ _ hS => ?_)
    exact u_iret hx hb hr hlocks hS (hP) (rfl) dX1_setRetention_35
  exact key _ _ hP hS ls hl
theorem k_X1_setRetention_g {p : Program} {l : Launch} {e : Env} {R : Room} {s : State} {m : MethodId} {args : Array Value} {below : List Frame} {meth : Method} {c : Code} {H : Heap} {locs : List Loc} {cells slots : Nat} {Q : State → Prop} {cc : ByteArray} {pc : Nat} {ls : Array Slot} {rest : List Value} {Ts : List Cond} (D : va_G) (tI tZ tL : ClassId) (h0 : Nat) (ad : Nat → Nat) (σ : ST) (q : Nat) (v : Int32) (np : Nat) (hnp : σ.1 2 = nI np) (hn8 : np ≤ 8) (hq : q < np) (hbad : m_in v 0 3650 = false) {A0 : Nat → Prop} {H0 : Heap} {own : String} {idx nL : Nat} (S : CallFix p m c cc nL s args Ts own) (hG : GoodIn Ts (wsV own idx RX1 yX1_setRetention wsX1_setRetention)) (hR : ({ frames := 2, cells := 0, slots := 0, locals := 43 } : Room).frames + 1 ≤ R.frames ∧ 8 + (4 + 11) + ({ frames := 2, cells := 0, slots := 0, locals := 43 } : Room).locals ≤ R.locals) (hsz : ls.size = nL) (hcap : cells ≤ R.cells ∧ slots ≤ R.slots) (hrm : (rest.map fun v => v.category).sum ≤ 8) (hn : (m_L h0 ad).Nodup) (hK : va_K D vwCl (kTY tI tZ tL) s) (hP : va_P D vwCl (m_W tI tZ h0 ad σ) H) (hS : va_S A0 H0 H locs) (hA : ∀ q, m_A h0 ad q → A0 q) (hdg : decode cc pc = .ok (.invokevirtual idx, 3)) (kk : ∀ (H1 : Heap) (locs1 : List Loc), va_P D vwCl (m_W tI tZ h0 ad (s_set (s_set σ 0 0) 0 2)) H1 → H.size ≤ H1.size → (∀ q : Nat, q < H.size → ¬ m_A h0 ad q → H1[q]? = H[q]?) → va_S A0 H0 H1 locs1 → W p l e R s m args below meth c H1 locs1 cells slots Q (F0 m (pc + 3) ls (.int 0 :: rest))) : W p l e R s m args below meth c H locs cells slots Q (F0 m pc ls (.int v :: .int (nI q) :: .ref h0 :: rest)) :=
  u_call (va_runV (As := [.int (nI q), .int v]) (rest := rest) S (c_X1_setRetention_g l D tI tZ tL h0 ad σ q v np hnp hn8 hq hbad hn) (cwV 2 S.2.2.2.2 hG rfl rfl rfl (by decide +kernel) hR) (m_pre hK hP) rfl rfl hsz rfl (lv_room hrm) hdg hcap) hS hA hA kk

set_option maxHeartbeats 4000000 in
set_option maxRecDepth 100000 in
theorem c_X1_setRetention (l : Launch) (D : va_G) (tI tZ tL : ClassId) (h0 : Nat) (ad : Nat → Nat) (σ : ST) (q : Nat) (v : Int32) (np : Nat) (hnp : σ.1 2 = nI np) (hn8 : np ≤ 8) (hq : q < np) (hv : m_in v 0 3650 = true) (hn : (m_L h0 ad).Nodup) : Met l yX1_setRetention wsX1_setRetention ({ frames := 2, cells := 0, slots := 0, locals := 43 } : Room) (va_Pc ([.ref h0, .int (nI q), .int v] : List Value) (m_B D tI tZ tL h0 ad σ)) (u_Q (some (.int (σ.2 3 q))) (m_P D tI tZ h0 ad (s_put (s_set σ 0 0) 3 q v)) (m_A h0 ad)) 0 0 (m_A h0 ad) := by
  refine u_met (cc := cX1_setRetention) (maxL := 4) (ret := (some .int)) (by decide) rfl (Nat.le_of_ble_eq_true rfl) ?_
  intro p e s m below meth c hx hb hml hr hts hown hlocks hB hS ls hl
  have hD : ∀ σ : ST, va_D (m_A h0 ad) (m_W tI tZ h0 ad σ) := fun σ => m_D σ hn (fun _ h => h)
  have hown : s.vm.findClass RX1 = some m.cls := hown
  obtain ⟨hP, hK⟩ := hB
  have hl : lv_has ls 4 [(0, .ref h0), (1, .int (nI q)), (2, .int v)] := hl
  have hin : ∀ w ∈ wsX10, w ∈ wsX1_setRetention := in_X1_setRetention
  have hl_retention : ml_retention ∈ wsX1_setRetention := by decide +kernel
  have hl_thrown : ml_thrown ∈ wsX1_setRetention := by decide +kernel
  have key : ∀ (H : Heap) (locs : List Loc), va_P D vwCl (m_W tI tZ h0 ad σ) H → va_S (m_A h0 ad) s.heap H locs → ∀ ls, lv_has ls 4 [(0, .ref h0), (1, .int (nI q)), (2, .int v)] → u_G p l e ({ frames := 2, cells := 0, slots := 0, locals := 43 } : Room) s m ([.ref h0, .int (nI q), .int v] : List Value).toArray below meth c H locs (some (.int (σ.2 3 q))) (m_P D tI tZ h0 ad (s_put (s_set σ 0 0) 3 q v)) (m_A h0 ad) (F0 m 0 ls []) := by
    intro H locs hP hS ls hl
    refine lv_aload_n hx hb dX1_setRetention_0 rfl (lv_at hl 0 rfl) ?_
    refine lv_iconst (v := 0) hx hb dX1_setRetention_1 (by decide) ?_
    refine mp_thrown hx hb hts hin hown hK hP (hD _) hS hl_thrown dX1_setRetention_2 (fun H locs hP hS => ?_)
    refine lv_aload_n hx hb dX1_setRetention_5 rfl (lv_at hl 0 rfl) ?_
    refine lv_iload_n hx hb dX1_setRetention_6 rfl (lv_at hl 1 rfl) ?_
    refine k_X1_isPurpose D tI tZ tL h0 ad (s_set σ 0 0) (nI q) ⟨hx, hb, hml, hown, hts⟩ gX1_setRetention_X1_isPurpose ⟨Nat.le_of_ble_eq_true rfl, Nat.le_of_ble_eq_true rfl⟩ hl.1 ⟨Nat.zero_le _, Nat.zero_le _⟩ (Nat.le_of_ble_eq_true rfl) hK hP dX1_setRetention_7 ?_
    refine lv_ifne_b (tgt := 19) hx hb dX1_setRetention_10 (by decide) (fun c10 => ?_) (fun c10 => absurd c10 (ne_f (m_in_t (n := np) (by show σ.1 2 - 1 = _; rw [hnp]) hq (by omega))))
    refine lv_iload_n hx hb dX1_setRetention_19 rfl (lv_at hl 2 rfl) ?_
    refine lv_iconst (v := 0) hx hb dX1_setRetention_20 (by decide) ?_
    refine lv_sipush (v := 3650) hx hb dX1_setRetention_21 (by decide) ?_
    refine k_X1_in v 0 3650 ⟨hx, hb, hml, hown, hts⟩ gX1_setRetention_X1_in ⟨Nat.le_of_ble_eq_true rfl, Nat.le_of_ble_eq_true rfl⟩ hl.1 ⟨Nat.zero_le _, Nat.zero_le _⟩ (Nat.le_of_ble_eq_true rfl) dX1_setRetention_24 ?_
    refine lv_ifne_b (tgt := 36) hx hb dX1_setRetention_27 (by decide) (fun c27 => ?_) (fun c27 => absurd c27 (by first | exact ne_t hv | exact ne_f hv))
    refine lv_aload_n hx hb dX1_setRetention_36 rfl (lv_at hl 0 rfl) ?_
    refine mg_retention hx hb hts hin hown hK hP hl_retention dX1_setRetention_37 ?_
    refine lv_iload_n hx hb dX1_setRetention_40 rfl (lv_at hl 1 rfl) ?_
    refine mr_retention (j := q) hx hb hK hP (by omega) dX1_setRetention_41 ?_
    refine lv_istore_n (lv' := [(3, .int (σ.2 3 q)), (0, .ref h0), (1, .int (nI q)), (2, .int v)]) hx hb dX1_setRetention_42 rfl hl (by decide) rfl (fun ls hl => ?_)
    refine lv_aload_n hx hb dX1_setRetention_43 rfl (lv_at hl 1 rfl) ?_
    refine mg_retention hx hb hts hin hown hK hP hl_retention dX1_setRetention_44 ?_
    refine lv_iload_n hx hb dX1_setRetention_47 rfl (lv_at hl 2 rfl) ?_
    refine lv_iload_n hx hb dX1_setRetention_48 rfl (lv_at hl 3 rfl) ?_
    refine mw_retention (j := q) hx hb hK hP (hD _) hS (by omega) dX1_setRetention_49 (fun H locs hP hS => ?_)
    refine lv_iload_n hx hb dX1_setRetention_50 rfl (lv_at hl 0 rfl) ?_
    exact u_iret hx hb hr hlocks hS (hP) (rfl) dX1_setRetention_51
  exact key _ _ hP hS ls hl
theorem k_X1_setRetention {p : Program} {l : Launch} {e : Env} {R : Room} {s : State} {m : MethodId} {args : Array Value} {below : List Frame} {meth : Method} {c : Code} {H : Heap} {locs : List Loc} {cells slots : Nat} {Q : State → Prop} {cc : ByteArray} {pc : Nat} {ls : Array Slot} {rest : List Value} {Ts : List Cond} (D : va_G) (tI tZ tL : ClassId) (h0 : Nat) (ad : Nat → Nat) (σ : ST) (q : Nat) (v : Int32) (np : Nat) (hnp : σ.1 2 = nI np) (hn8 : np ≤ 8) (hq : q < np) (hv : m_in v 0 3650 = true) {A0 : Nat → Prop} {H0 : Heap} {own : String} {idx nL : Nat} (S : CallFix p m c cc nL s args Ts own) (hG : GoodIn Ts (wsV own idx RX1 yX1_setRetention wsX1_setRetention)) (hR : ({ frames := 2, cells := 0, slots := 0, locals := 43 } : Room).frames + 1 ≤ R.frames ∧ 8 + (4 + 11) + ({ frames := 2, cells := 0, slots := 0, locals := 43 } : Room).locals ≤ R.locals) (hsz : ls.size = nL) (hcap : cells ≤ R.cells ∧ slots ≤ R.slots) (hrm : (rest.map fun v => v.category).sum ≤ 8) (hn : (m_L h0 ad).Nodup) (hK : va_K D vwCl (kTY tI tZ tL) s) (hP : va_P D vwCl (m_W tI tZ h0 ad σ) H) (hS : va_S A0 H0 H locs) (hA : ∀ q, m_A h0 ad q → A0 q) (hdg : decode cc pc = .ok (.invokevirtual idx, 3)) (kk : ∀ (H1 : Heap) (locs1 : List Loc), va_P D vwCl (m_W tI tZ h0 ad (s_put (s_set σ 0 0) 3 q v)) H1 → H.size ≤ H1.size → (∀ q : Nat, q < H.size → ¬ m_A h0 ad q → H1[q]? = H[q]?) → va_S A0 H0 H1 locs1 → W p l e R s m args below meth c H1 locs1 cells slots Q (F0 m (pc + 3) ls (.int (σ.2 3 q) :: rest))) : W p l e R s m args below meth c H locs cells slots Q (F0 m pc ls (.int v :: .int (nI q) :: .ref h0 :: rest)) :=
  u_call (va_runV (As := [.int (nI q), .int v]) (rest := rest) S (c_X1_setRetention l D tI tZ tL h0 ad σ q v np hnp hn8 hq hv hn) (cwV 2 S.2.2.2.2 hG rfl rfl rfl (by decide +kernel) hR) (m_pre hK hP) rfl rfl hsz rfl (lv_room hrm) hdg hcap) hS hA hA kk

set_option maxHeartbeats 4000000 in
set_option maxRecDepth 100000 in
theorem c_X1_add_f (l : Launch) (D : va_G) (tI tZ tL : ClassId) (h0 : Nat) (ad : Nat → Nat) (σ : ST) (v P : Int32) (hbad : m_in v 0 11 = false ∨ m_in P 0 ((1 : Int32) <<< (σ.1 2 &&& 31) - 1) = false) (hn : (m_L h0 ad).Nodup) : Met l yX1_add wsX1_add ({ frames := 2, cells := 0, slots := 0, locals := 43 } : Room) (va_Pc ([.ref h0, .int v, .int P] : List Value) (m_B D tI tZ tL h0 ad σ)) (u_Q (some (.int 0)) (m_P D tI tZ h0 ad (s_set (s_set σ 0 0) 0 1)) (m_A h0 ad)) 0 0 (m_A h0 ad) := by
  refine u_met (cc := cX1_add) (maxL := 3) (ret := (some .int)) (by decide) rfl (Nat.le_of_ble_eq_true rfl) ?_
  intro p e s m below meth c hx hb hml hr hts hown hlocks hB hS ls hl
  have hD : ∀ σ : ST, va_D (m_A h0 ad) (m_W tI tZ h0 ad σ) := fun σ => m_D σ hn (fun _ h => h)
  have hown : s.vm.findClass RX1 = some m.cls := hown
  obtain ⟨hP, hK⟩ := hB
  have hl : lv_has ls 3 [(0, .ref h0), (1, .int v), (2, .int P)] := hl
  have hin : ∀ w ∈ wsX10, w ∈ wsX1_add := in_X1_add
  have hl_thrown : ml_thrown ∈ wsX1_add := by decide +kernel
  have key : ∀ (H : Heap) (locs : List Loc), va_P D vwCl (m_W tI tZ h0 ad σ) H → va_S (m_A h0 ad) s.heap H locs → ∀ ls, lv_has ls 3 [(0, .ref h0), (1, .int v), (2, .int P)] → u_G p l e ({ frames := 2, cells := 0, slots := 0, locals := 43 } : Room) s m ([.ref h0, .int v, .int P] : List Value).toArray below meth c H locs (some (.int 0)) (m_P D tI tZ h0 ad (s_set (s_set σ 0 0) 0 1)) (m_A h0 ad) (F0 m 0 ls []) := by
    intro H locs hP hS ls hl
    refine lv_aload_n hx hb dX1_add_0 rfl (lv_at hl 0 rfl) ?_
    refine lv_iconst (v := 0) hx hb dX1_add_1 (by decide) ?_
    refine mp_thrown hx hb hts hin hown hK hP (hD _) hS hl_thrown dX1_add_2 (fun H locs hP hS => ?_)
    refine lv_iload_n hx hb dX1_add_5 rfl (lv_at hl 1 rfl) ?_
    refine k_X1_isSubject v ⟨hx, hb, hml, hown, hts⟩ gX1_add_X1_isSubject ⟨Nat.le_of_ble_eq_true rfl, Nat.le_of_ble_eq_true rfl⟩ hl.1 ⟨Nat.zero_le _, Nat.zero_le _⟩ (Nat.le_of_ble_eq_true rfl) dX1_add_6 ?_
    refine lv_ifeq_b (tgt := 20) hx hb dX1_add_9 (by decide) (fun c9 => ?_) (fun c9 => ?_)
    · refine lv_aload_n hx hb dX1_add_20 rfl (lv_at hl 0 rfl) ?_
      refine lv_iconst (v := 1) hx hb dX1_add_21 (by decide) ?_
      refine k_X1_fails D tI tZ tL h0 ad (s_set σ 0 0) 1 ⟨hx, hb, hml, hown, hts⟩ gX1_add_X1_fails ⟨Nat.le_of_ble_eq_true rfl, Nat.le_of_ble_eq_true rfl⟩ hl.1 ⟨Nat.zero_le _, Nat.zero_le _⟩ (Nat.le_of_ble_eq_true rfl) hn hK hP hS (fun q h => h) dX1_add_22 (fun H locs hP _ _ hS => ?_)
      exact u_iret hx hb hr hlocks hS (hP) (rfl) dX1_add_25
    · refine lv_aload_n hx hb dX1_add_12 rfl (lv_at hl 0 rfl) ?_
      refine lv_iload_n hx hb dX1_add_13 rfl (lv_at hl 2 rfl) ?_
      refine k_X1_isSet D tI tZ tL h0 ad (s_set σ 0 0) P ⟨hx, hb, hml, hown, hts⟩ gX1_add_X1_isSet ⟨Nat.le_of_ble_eq_true rfl, Nat.le_of_ble_eq_true rfl⟩ hl.1 ⟨Nat.zero_le _, Nat.zero_le _⟩ (Nat.le_of_ble_eq_true rfl) hK hP dX1_add_14 ?_
      refine lv_ifne_b (tgt := 26) hx hb dX1_add_17 (by decide) (fun c17 => absurd c17 (hbad.elim (fun h => absurd c9 (ne_t h)) (fun h => by first | exact ne_t h | exact ne_f h))) (fun c17 => ?_)
      refine lv_aload_n hx hb dX1_add_20 rfl (lv_at hl 0 rfl) ?_
      refine lv_iconst (v := 1) hx hb dX1_add_21 (by decide) ?_
      refine k_X1_fails D tI tZ tL h0 ad (s_set σ 0 0) 1 ⟨hx, hb, hml, hown, hts⟩ gX1_add_X1_fails ⟨Nat.le_of_ble_eq_true rfl, Nat.le_of_ble_eq_true rfl⟩ hl.1 ⟨Nat.zero_le _, Nat.zero_le _⟩ (Nat.le_of_ble_eq_true rfl) hn hK hP hS (fun q h => h) dX1_add_22 (fun H locs hP _ _ hS => ?_)
      exact u_iret hx hb hr hlocks hS (hP) (rfl) dX1_add_25
  exact key _ _ hP hS ls hl
theorem k_X1_add_f {p : Program} {l : Launch} {e : Env} {R : Room} {s : State} {m : MethodId} {args : Array Value} {below : List Frame} {meth : Method} {c : Code} {H : Heap} {locs : List Loc} {cells slots : Nat} {Q : State → Prop} {cc : ByteArray} {pc : Nat} {ls : Array Slot} {rest : List Value} {Ts : List Cond} (D : va_G) (tI tZ tL : ClassId) (h0 : Nat) (ad : Nat → Nat) (σ : ST) (v P : Int32) (hbad : m_in v 0 11 = false ∨ m_in P 0 ((1 : Int32) <<< (σ.1 2 &&& 31) - 1) = false) {A0 : Nat → Prop} {H0 : Heap} {own : String} {idx nL : Nat} (S : CallFix p m c cc nL s args Ts own) (hG : GoodIn Ts (wsV own idx RX1 yX1_add wsX1_add)) (hR : ({ frames := 2, cells := 0, slots := 0, locals := 43 } : Room).frames + 1 ≤ R.frames ∧ 8 + (3 + 11) + ({ frames := 2, cells := 0, slots := 0, locals := 43 } : Room).locals ≤ R.locals) (hsz : ls.size = nL) (hcap : cells ≤ R.cells ∧ slots ≤ R.slots) (hrm : (rest.map fun v => v.category).sum ≤ 8) (hn : (m_L h0 ad).Nodup) (hK : va_K D vwCl (kTY tI tZ tL) s) (hP : va_P D vwCl (m_W tI tZ h0 ad σ) H) (hS : va_S A0 H0 H locs) (hA : ∀ q, m_A h0 ad q → A0 q) (hdg : decode cc pc = .ok (.invokevirtual idx, 3)) (kk : ∀ (H1 : Heap) (locs1 : List Loc), va_P D vwCl (m_W tI tZ h0 ad (s_set (s_set σ 0 0) 0 1)) H1 → H.size ≤ H1.size → (∀ q : Nat, q < H.size → ¬ m_A h0 ad q → H1[q]? = H[q]?) → va_S A0 H0 H1 locs1 → W p l e R s m args below meth c H1 locs1 cells slots Q (F0 m (pc + 3) ls (.int 0 :: rest))) : W p l e R s m args below meth c H locs cells slots Q (F0 m pc ls (.int P :: .int v :: .ref h0 :: rest)) :=
  u_call (va_runV (As := [.int v, .int P]) (rest := rest) S (c_X1_add_f l D tI tZ tL h0 ad σ v P hbad hn) (cwV 2 S.2.2.2.2 hG rfl rfl rfl (by decide +kernel) hR) (m_pre hK hP) rfl rfl hsz rfl (lv_room hrm) hdg hcap) hS hA hA kk

set_option maxHeartbeats 4000000 in
set_option maxRecDepth 100000 in
theorem c_X1_add_g (l : Launch) (D : va_G) (tI tZ tL : ClassId) (h0 : Nat) (ad : Nat → Nat) (σ : ST) (j : Nat) (hj12 : j < 12) (P : Int32) (hset : m_in P 0 ((1 : Int32) <<< (σ.1 2 &&& 31) - 1) = true) (hq2 : P = 0) (hn : (m_L h0 ad).Nodup) : Met l yX1_add wsX1_add ({ frames := 2, cells := 0, slots := 0, locals := 43 } : Room) (va_Pc ([.ref h0, .int (nI j), .int P] : List Value) (m_B D tI tZ tL h0 ad σ)) (u_Q (some (.int 0)) (m_P D tI tZ h0 ad (s_set (s_set σ 0 0) 0 2)) (m_A h0 ad)) 0 0 (m_A h0 ad) := by
  refine u_met (cc := cX1_add) (maxL := 3) (ret := (some .int)) (by decide) rfl (Nat.le_of_ble_eq_true rfl) ?_
  intro p e s m below meth c hx hb hml hr hts hown hlocks hB hS ls hl
  have hD : ∀ σ : ST, va_D (m_A h0 ad) (m_W tI tZ h0 ad σ) := fun σ => m_D σ hn (fun _ h => h)
  have hown : s.vm.findClass RX1 = some m.cls := hown
  obtain ⟨hP, hK⟩ := hB
  have hl : lv_has ls 3 [(0, .ref h0), (1, .int (nI j)), (2, .int P)] := hl
  have hin : ∀ w ∈ wsX10, w ∈ wsX1_add := in_X1_add
  have hl_thrown : ml_thrown ∈ wsX1_add := by decide +kernel
  have key : ∀ (H : Heap) (locs : List Loc), va_P D vwCl (m_W tI tZ h0 ad σ) H → va_S (m_A h0 ad) s.heap H locs → ∀ ls, lv_has ls 3 [(0, .ref h0), (1, .int (nI j)), (2, .int P)] → u_G p l e ({ frames := 2, cells := 0, slots := 0, locals := 43 } : Room) s m ([.ref h0, .int (nI j), .int P] : List Value).toArray below meth c H locs (some (.int 0)) (m_P D tI tZ h0 ad (s_set (s_set σ 0 0) 0 2)) (m_A h0 ad) (F0 m 0 ls []) := by
    intro H locs hP hS ls hl
    refine lv_aload_n hx hb dX1_add_0 rfl (lv_at hl 0 rfl) ?_
    refine lv_iconst (v := 0) hx hb dX1_add_1 (by decide) ?_
    refine mp_thrown hx hb hts hin hown hK hP (hD _) hS hl_thrown dX1_add_2 (fun H locs hP hS => ?_)
    refine lv_iload_n hx hb dX1_add_5 rfl (lv_at hl 1 rfl) ?_
    refine k_X1_isSubject (nI j) ⟨hx, hb, hml, hown, hts⟩ gX1_add_X1_isSubject ⟨Nat.le_of_ble_eq_true rfl, Nat.le_of_ble_eq_true rfl⟩ hl.1 ⟨Nat.zero_le _, Nat.zero_le _⟩ (Nat.le_of_ble_eq_true rfl) dX1_add_6 ?_
    refine lv_ifeq_b (tgt := 20) hx hb dX1_add_9 (by decide) (fun c9 => absurd c9 (ne_f (m_in_t (n := 12) (by decide) hj12 (by decide)))) (fun c9 => ?_)
    refine lv_aload_n hx hb dX1_add_12 rfl (lv_at hl 0 rfl) ?_
    refine lv_iload_n hx hb dX1_add_13 rfl (lv_at hl 2 rfl) ?_
    refine k_X1_isSet D tI tZ tL h0 ad (s_set σ 0 0) P ⟨hx, hb, hml, hown, hts⟩ gX1_add_X1_isSet ⟨Nat.le_of_ble_eq_true rfl, Nat.le_of_ble_eq_true rfl⟩ hl.1 ⟨Nat.zero_le _, Nat.zero_le _⟩ (Nat.le_of_ble_eq_true rfl) hK hP dX1_add_14 ?_
    refine lv_ifne_b (tgt := 26) hx hb dX1_add_17 (by decide) (fun c17 => ?_) (fun c17 => absurd c17 (by first | exact ne_t hset | exact ne_f hset))
    refine lv_iload_n hx hb dX1_add_26 rfl (lv_at hl 2 rfl) ?_
    refine lv_if_ne (tgt := 36) hx hb dX1_add_27 (by decide) (fun c27 => absurd hq2 c27) (fun c27 => ?_)
    refine lv_aload_n hx hb dX1_add_30 rfl (lv_at hl 0 rfl) ?_
    refine lv_iconst (v := 2) hx hb dX1_add_31 (by decide) ?_
    refine k_X1_fails D tI tZ tL h0 ad (s_set σ 0 0) 2 ⟨hx, hb, hml, hown, hts⟩ gX1_add_X1_fails ⟨Nat.le_of_ble_eq_true rfl, Nat.le_of_ble_eq_true rfl⟩ hl.1 ⟨Nat.zero_le _, Nat.zero_le _⟩ (Nat.le_of_ble_eq_true rfl) hn hK hP hS (fun q h => h) dX1_add_32 (fun H locs hP _ _ hS => ?_)
    exact u_iret hx hb hr hlocks hS (hP) (rfl) dX1_add_35
  exact key _ _ hP hS ls hl
theorem k_X1_add_g {p : Program} {l : Launch} {e : Env} {R : Room} {s : State} {m : MethodId} {args : Array Value} {below : List Frame} {meth : Method} {c : Code} {H : Heap} {locs : List Loc} {cells slots : Nat} {Q : State → Prop} {cc : ByteArray} {pc : Nat} {ls : Array Slot} {rest : List Value} {Ts : List Cond} (D : va_G) (tI tZ tL : ClassId) (h0 : Nat) (ad : Nat → Nat) (σ : ST) (j : Nat) (hj12 : j < 12) (P : Int32) (hset : m_in P 0 ((1 : Int32) <<< (σ.1 2 &&& 31) - 1) = true) (hq2 : P = 0) {A0 : Nat → Prop} {H0 : Heap} {own : String} {idx nL : Nat} (S : CallFix p m c cc nL s args Ts own) (hG : GoodIn Ts (wsV own idx RX1 yX1_add wsX1_add)) (hR : ({ frames := 2, cells := 0, slots := 0, locals := 43 } : Room).frames + 1 ≤ R.frames ∧ 8 + (3 + 11) + ({ frames := 2, cells := 0, slots := 0, locals := 43 } : Room).locals ≤ R.locals) (hsz : ls.size = nL) (hcap : cells ≤ R.cells ∧ slots ≤ R.slots) (hrm : (rest.map fun v => v.category).sum ≤ 8) (hn : (m_L h0 ad).Nodup) (hK : va_K D vwCl (kTY tI tZ tL) s) (hP : va_P D vwCl (m_W tI tZ h0 ad σ) H) (hS : va_S A0 H0 H locs) (hA : ∀ q, m_A h0 ad q → A0 q) (hdg : decode cc pc = .ok (.invokevirtual idx, 3)) (kk : ∀ (H1 : Heap) (locs1 : List Loc), va_P D vwCl (m_W tI tZ h0 ad (s_set (s_set σ 0 0) 0 2)) H1 → H.size ≤ H1.size → (∀ q : Nat, q < H.size → ¬ m_A h0 ad q → H1[q]? = H[q]?) → va_S A0 H0 H1 locs1 → W p l e R s m args below meth c H1 locs1 cells slots Q (F0 m (pc + 3) ls (.int 0 :: rest))) : W p l e R s m args below meth c H locs cells slots Q (F0 m pc ls (.int P :: .int (nI j) :: .ref h0 :: rest)) :=
  u_call (va_runV (As := [.int (nI j), .int P]) (rest := rest) S (c_X1_add_g l D tI tZ tL h0 ad σ j hj12 P hset hq2 hn) (cwV 2 S.2.2.2.2 hG rfl rfl rfl (by decide +kernel) hR) (m_pre hK hP) rfl rfl hsz rfl (lv_room hrm) hdg hcap) hS hA hA kk

set_option maxHeartbeats 4000000 in
set_option maxRecDepth 100000 in
theorem c_X1_add_h (l : Launch) (D : va_G) (tI tZ tL : ClassId) (h0 : Nat) (ad : Nat → Nat) (σ : ST) (j : Nat) (hj12 : j < 12) (P : Int32) (np : Nat) (hnp : σ.1 2 = nI np) (hn8 : np ≤ 8) (nr : Nat) (hnr : σ.1 7 = nI nr) (hn30 : nr ≤ 30) (hset : m_in P 0 ((1 : Int32) <<< (σ.1 2 &&& 31) - 1) = true) (hq2 : ¬ P = 0) (hbad : nr = 30 ∨ ¬ σ.1 1 < m_enf σ.2 P (bI j) (σ.1 1) np) (hn : (m_L h0 ad).Nodup) : Met l yX1_add wsX1_add ({ frames := 3, cells := 0, slots := 0, locals := 70 } : Room) (va_Pc ([.ref h0, .int (nI j), .int P] : List Value) (m_B D tI tZ tL h0 ad σ)) (u_Q (some (.int 0)) (m_P D tI tZ h0 ad (s_set (s_set σ 0 0) 0 3)) (m_A h0 ad)) 0 0 (m_A h0 ad) := by
  refine u_met (cc := cX1_add) (maxL := 3) (ret := (some .int)) (by decide) rfl (Nat.le_of_ble_eq_true rfl) ?_
  intro p e s m below meth c hx hb hml hr hts hown hlocks hB hS ls hl
  have hD : ∀ σ : ST, va_D (m_A h0 ad) (m_W tI tZ h0 ad σ) := fun σ => m_D σ hn (fun _ h => h)
  have hown : s.vm.findClass RX1 = some m.cls := hown
  obtain ⟨hP, hK⟩ := hB
  have hl : lv_has ls 3 [(0, .ref h0), (1, .int (nI j)), (2, .int P)] := hl
  have hin : ∀ w ∈ wsX10, w ∈ wsX1_add := in_X1_add
  have hl_many : ml_many ∈ wsX1_add := by decide +kernel
  have hl_thrown : ml_thrown ∈ wsX1_add := by decide +kernel
  have hl_today : ml_today ∈ wsX1_add := by decide +kernel
  have key : ∀ (H : Heap) (locs : List Loc), va_P D vwCl (m_W tI tZ h0 ad σ) H → va_S (m_A h0 ad) s.heap H locs → ∀ ls, lv_has ls 3 [(0, .ref h0), (1, .int (nI j)), (2, .int P)] → u_G p l e ({ frames := 3, cells := 0, slots := 0, locals := 70 } : Room) s m ([.ref h0, .int (nI j), .int P] : List Value).toArray below meth c H locs (some (.int 0)) (m_P D tI tZ h0 ad (s_set (s_set σ 0 0) 0 3)) (m_A h0 ad) (F0 m 0 ls []) := by
    intro H locs hP hS ls hl
    refine lv_aload_n hx hb dX1_add_0 rfl (lv_at hl 0 rfl) ?_
    refine lv_iconst (v := 0) hx hb dX1_add_1 (by decide) ?_
    refine mp_thrown hx hb hts hin hown hK hP (hD _) hS hl_thrown dX1_add_2 (fun H locs hP hS => ?_)
    refine lv_iload_n hx hb dX1_add_5 rfl (lv_at hl 1 rfl) ?_
    refine k_X1_isSubject (nI j) ⟨hx, hb, hml, hown, hts⟩ gX1_add_X1_isSubject ⟨Nat.le_of_ble_eq_true rfl, Nat.le_of_ble_eq_true rfl⟩ hl.1 ⟨Nat.zero_le _, Nat.zero_le _⟩ (Nat.le_of_ble_eq_true rfl) dX1_add_6 ?_
    refine lv_ifeq_b (tgt := 20) hx hb dX1_add_9 (by decide) (fun c9 => absurd c9 (ne_f (m_in_t (n := 12) (by decide) hj12 (by decide)))) (fun c9 => ?_)
    refine lv_aload_n hx hb dX1_add_12 rfl (lv_at hl 0 rfl) ?_
    refine lv_iload_n hx hb dX1_add_13 rfl (lv_at hl 2 rfl) ?_
    refine k_X1_isSet D tI tZ tL h0 ad (s_set σ 0 0) P ⟨hx, hb, hml, hown, hts⟩ gX1_add_X1_isSet ⟨Nat.le_of_ble_eq_true rfl, Nat.le_of_ble_eq_true rfl⟩ hl.1 ⟨Nat.zero_le _, Nat.zero_le _⟩ (Nat.le_of_ble_eq_true rfl) hK hP dX1_add_14 ?_
    refine lv_ifne_b (tgt := 26) hx hb dX1_add_17 (by decide) (fun c17 => ?_) (fun c17 => absurd c17 (by first | exact ne_t hset | exact ne_f hset))
    refine lv_iload_n hx hb dX1_add_26 rfl (lv_at hl 2 rfl) ?_
    refine lv_if_ne (tgt := 36) hx hb dX1_add_27 (by decide) (fun c27 => ?_) (fun c27 => absurd c27 hq2)
    refine lv_aload_n hx hb dX1_add_36 rfl (lv_at hl 0 rfl) ?_
    refine mg_many hx hb hts hin hown hK hP hl_many dX1_add_37 ?_
    refine lv_bipush (v := 30) hx hb dX1_add_40 (by decide) ?_
    refine lv_icmp_eq (tgt := 64) hx hb dX1_add_42 (by decide) (fun c42 => ?_) (fun c42 => ?_)
    · refine lv_aload_n hx hb dX1_add_64 rfl (lv_at hl 0 rfl) ?_
      refine lv_iconst (v := 3) hx hb dX1_add_65 (by decide) ?_
      refine k_X1_fails D tI tZ tL h0 ad (s_set σ 0 0) 3 ⟨hx, hb, hml, hown, hts⟩ gX1_add_X1_fails ⟨Nat.le_of_ble_eq_true rfl, Nat.le_of_ble_eq_true rfl⟩ hl.1 ⟨Nat.zero_le _, Nat.zero_le _⟩ (Nat.le_of_ble_eq_true rfl) hn hK hP hS (fun q h => h) dX1_add_66 (fun H locs hP _ _ hS => ?_)
      exact u_iret hx hb hr hlocks hS (hP) (rfl) dX1_add_69
    · refine lv_aload_n hx hb dX1_add_45 rfl (lv_at hl 0 rfl) ?_
      refine lv_iload_n hx hb dX1_add_46 rfl (lv_at hl 2 rfl) ?_
      refine lv_iconst (v := 1) hx hb dX1_add_47 (by decide) ?_
      refine lv_iload_n hx hb dX1_add_48 rfl (lv_at hl 1 rfl) ?_
      refine lv_ishl hx hb dX1_add_49 ?_
      refine lv_aload_n hx hb dX1_add_50 rfl (lv_at hl 0 rfl) ?_
      refine mg_today hx hb hts hin hown hK hP hl_today dX1_add_51 ?_
      refine k_X1_endBy D tI tZ tL h0 ad (s_set σ 0 0) P (1 <<< ((nI j) &&& 31)) (σ.1 1) np hnp hn8 ⟨hx, hb, hml, hown, hts⟩ gX1_add_X1_endBy ⟨Nat.le_of_ble_eq_true rfl, Nat.le_of_ble_eq_true rfl⟩ hl.1 ⟨Nat.zero_le _, Nat.zero_le _⟩ (Nat.le_of_ble_eq_true rfl) hK hP dX1_add_54 ?_
      refine lv_aload_n hx hb dX1_add_57 rfl (lv_at hl 0 rfl) ?_
      refine mg_today hx hb hts hin hown hK hP hl_today dX1_add_58 ?_
      refine lv_icmp_gt (tgt := 70) hx hb dX1_add_61 (by decide) (fun c61 => absurd c61 (hbad.elim (fun h => absurd (show σ.1 7 = 30 by rw [hnr, h]; rfl) c42) (fun h => h))) (fun c61 => ?_)
      refine lv_aload_n hx hb dX1_add_64 rfl (lv_at hl 0 rfl) ?_
      refine lv_iconst (v := 3) hx hb dX1_add_65 (by decide) ?_
      refine k_X1_fails D tI tZ tL h0 ad (s_set σ 0 0) 3 ⟨hx, hb, hml, hown, hts⟩ gX1_add_X1_fails ⟨Nat.le_of_ble_eq_true rfl, Nat.le_of_ble_eq_true rfl⟩ hl.1 ⟨Nat.zero_le _, Nat.zero_le _⟩ (Nat.le_of_ble_eq_true rfl) hn hK hP hS (fun q h => h) dX1_add_66 (fun H locs hP _ _ hS => ?_)
      exact u_iret hx hb hr hlocks hS (hP) (rfl) dX1_add_69
  exact key _ _ hP hS ls hl
theorem k_X1_add_h {p : Program} {l : Launch} {e : Env} {R : Room} {s : State} {m : MethodId} {args : Array Value} {below : List Frame} {meth : Method} {c : Code} {H : Heap} {locs : List Loc} {cells slots : Nat} {Q : State → Prop} {cc : ByteArray} {pc : Nat} {ls : Array Slot} {rest : List Value} {Ts : List Cond} (D : va_G) (tI tZ tL : ClassId) (h0 : Nat) (ad : Nat → Nat) (σ : ST) (j : Nat) (hj12 : j < 12) (P : Int32) (np : Nat) (hnp : σ.1 2 = nI np) (hn8 : np ≤ 8) (nr : Nat) (hnr : σ.1 7 = nI nr) (hn30 : nr ≤ 30) (hset : m_in P 0 ((1 : Int32) <<< (σ.1 2 &&& 31) - 1) = true) (hq2 : ¬ P = 0) (hbad : nr = 30 ∨ ¬ σ.1 1 < m_enf σ.2 P (bI j) (σ.1 1) np) {A0 : Nat → Prop} {H0 : Heap} {own : String} {idx nL : Nat} (S : CallFix p m c cc nL s args Ts own) (hG : GoodIn Ts (wsV own idx RX1 yX1_add wsX1_add)) (hR : ({ frames := 3, cells := 0, slots := 0, locals := 70 } : Room).frames + 1 ≤ R.frames ∧ 8 + (3 + 11) + ({ frames := 3, cells := 0, slots := 0, locals := 70 } : Room).locals ≤ R.locals) (hsz : ls.size = nL) (hcap : cells ≤ R.cells ∧ slots ≤ R.slots) (hrm : (rest.map fun v => v.category).sum ≤ 8) (hn : (m_L h0 ad).Nodup) (hK : va_K D vwCl (kTY tI tZ tL) s) (hP : va_P D vwCl (m_W tI tZ h0 ad σ) H) (hS : va_S A0 H0 H locs) (hA : ∀ q, m_A h0 ad q → A0 q) (hdg : decode cc pc = .ok (.invokevirtual idx, 3)) (kk : ∀ (H1 : Heap) (locs1 : List Loc), va_P D vwCl (m_W tI tZ h0 ad (s_set (s_set σ 0 0) 0 3)) H1 → H.size ≤ H1.size → (∀ q : Nat, q < H.size → ¬ m_A h0 ad q → H1[q]? = H[q]?) → va_S A0 H0 H1 locs1 → W p l e R s m args below meth c H1 locs1 cells slots Q (F0 m (pc + 3) ls (.int 0 :: rest))) : W p l e R s m args below meth c H locs cells slots Q (F0 m pc ls (.int P :: .int (nI j) :: .ref h0 :: rest)) :=
  u_call (va_runV (As := [.int (nI j), .int P]) (rest := rest) S (c_X1_add_h l D tI tZ tL h0 ad σ j hj12 P np hnp hn8 nr hnr hn30 hset hq2 hbad hn) (cwV 2 S.2.2.2.2 hG rfl rfl rfl (by decide +kernel) hR) (m_pre hK hP) rfl rfl hsz rfl (lv_room hrm) hdg hcap) hS hA hA kk

set_option maxHeartbeats 4000000 in
set_option maxRecDepth 100000 in
theorem c_X1_add (l : Launch) (D : va_G) (tI tZ tL : ClassId) (h0 : Nat) (ad : Nat → Nat) (σ : ST) (j : Nat) (hj12 : j < 12) (P : Int32) (np : Nat) (hnp : σ.1 2 = nI np) (hn8 : np ≤ 8) (nr : Nat) (hnr : σ.1 7 = nI nr) (hr30 : nr < 30) (hset : m_in P 0 ((1 : Int32) <<< (σ.1 2 &&& 31) - 1) = true) (hq2 : ¬ P = 0) (hop : σ.1 1 < m_enf σ.2 P (bI j) (σ.1 1) np) (hn : (m_L h0 ad).Nodup) : Met l yX1_add wsX1_add ({ frames := 3, cells := 0, slots := 0, locals := 70 } : Room) (va_Pc ([.ref h0, .int (nI j), .int P] : List Value) (m_B D tI tZ tL h0 ad σ)) (u_Q (some (.int (nI nr))) (m_P D tI tZ h0 ad (m_lay (s_set σ 0 0) nr (nI j) 0 P)) (m_A h0 ad)) 0 0 (m_A h0 ad) := by
  refine u_met (cc := cX1_add) (maxL := 3) (ret := (some .int)) (by decide) rfl (Nat.le_of_ble_eq_true rfl) ?_
  intro p e s m below meth c hx hb hml hr hts hown hlocks hB hS ls hl
  have hD : ∀ σ : ST, va_D (m_A h0 ad) (m_W tI tZ h0 ad σ) := fun σ => m_D σ hn (fun _ h => h)
  have hown : s.vm.findClass RX1 = some m.cls := hown
  obtain ⟨hP, hK⟩ := hB
  have hl : lv_has ls 3 [(0, .ref h0), (1, .int (nI j)), (2, .int P)] := hl
  have hin : ∀ w ∈ wsX10, w ∈ wsX1_add := in_X1_add
  have hl_many : ml_many ∈ wsX1_add := by decide +kernel
  have hl_thrown : ml_thrown ∈ wsX1_add := by decide +kernel
  have hl_today : ml_today ∈ wsX1_add := by decide +kernel
  have key : ∀ (H : Heap) (locs : List Loc), va_P D vwCl (m_W tI tZ h0 ad σ) H → va_S (m_A h0 ad) s.heap H locs → ∀ ls, lv_has ls 3 [(0, .ref h0), (1, .int (nI j)), (2, .int P)] → u_G p l e ({ frames := 3, cells := 0, slots := 0, locals := 70 } : Room) s m ([.ref h0, .int (nI j), .int P] : List Value).toArray below meth c H locs (some (.int (nI nr))) (m_P D tI tZ h0 ad (m_lay (s_set σ 0 0) nr (nI j) 0 P)) (m_A h0 ad) (F0 m 0 ls []) := by
    intro H locs hP hS ls hl
    refine lv_aload_n hx hb dX1_add_0 rfl (lv_at hl 0 rfl) ?_
    refine lv_iconst (v := 0) hx hb dX1_add_1 (by decide) ?_
    refine mp_thrown hx hb hts hin hown hK hP (hD _) hS hl_thrown dX1_add_2 (fun H locs hP hS => ?_)
    refine lv_iload_n hx hb dX1_add_5 rfl (lv_at hl 1 rfl) ?_
    refine k_X1_isSubject (nI j) ⟨hx, hb, hml, hown, hts⟩ gX1_add_X1_isSubject ⟨Nat.le_of_ble_eq_true rfl, Nat.le_of_ble_eq_true rfl⟩ hl.1 ⟨Nat.zero_le _, Nat.zero_le _⟩ (Nat.le_of_ble_eq_true rfl) dX1_add_6 ?_
    refine lv_ifeq_b (tgt := 20) hx hb dX1_add_9 (by decide) (fun c9 => absurd c9 (ne_f (m_in_t (n := 12) (by decide) hj12 (by decide)))) (fun c9 => ?_)
    refine lv_aload_n hx hb dX1_add_12 rfl (lv_at hl 0 rfl) ?_
    refine lv_iload_n hx hb dX1_add_13 rfl (lv_at hl 2 rfl) ?_
    refine k_X1_isSet D tI tZ tL h0 ad (s_set σ 0 0) P ⟨hx, hb, hml, hown, hts⟩ gX1_add_X1_isSet ⟨Nat.le_of_ble_eq_true rfl, Nat.le_of_ble_eq_true rfl⟩ hl.1 ⟨Nat.zero_le _, Nat.zero_le _⟩ (Nat.le_of_ble_eq_true rfl) hK hP dX1_add_14 ?_
    refine lv_ifne_b (tgt := 26) hx hb dX1_add_17 (by decide) (fun c17 => ?_) (fun c17 => absurd c17 (by first | exact ne_t hset | exact ne_f hset))
    refine lv_iload_n hx hb dX1_add_26 rfl (lv_at hl 2 rfl) ?_
    refine lv_if_ne (tgt := 36) hx hb dX1_add_27 (by decide) (fun c27 => ?_) (fun c27 => absurd c27 hq2)
    refine lv_aload_n hx hb dX1_add_36 rfl (lv_at hl 0 rfl) ?_
    refine mg_many hx hb hts hin hown hK hP hl_many dX1_add_37 ?_
    refine lv_bipush (v := 30) hx hb dX1_add_40 (by decide) ?_
    refine lv_icmp_eq (tgt := 64) hx hb dX1_add_42 (by decide) (fun c42 => absurd c42 (show ¬ σ.1 7 = 30 by rw [hnr]; exact fun h => absurd ((nI_eq (b := 30) (by omega) (by decide)).mp h) (by omega))) (fun c42 => ?_)
    refine lv_aload_n hx hb dX1_add_45 rfl (lv_at hl 0 rfl) ?_
    refine lv_iload_n hx hb dX1_add_46 rfl (lv_at hl 2 rfl) ?_
    refine lv_iconst (v := 1) hx hb dX1_add_47 (by decide) ?_
    refine lv_iload_n hx hb dX1_add_48 rfl (lv_at hl 1 rfl) ?_
    refine lv_ishl hx hb dX1_add_49 ?_
    refine lv_aload_n hx hb dX1_add_50 rfl (lv_at hl 0 rfl) ?_
    refine mg_today hx hb hts hin hown hK hP hl_today dX1_add_51 ?_
    refine k_X1_endBy D tI tZ tL h0 ad (s_set σ 0 0) P (1 <<< ((nI j) &&& 31)) (σ.1 1) np hnp hn8 ⟨hx, hb, hml, hown, hts⟩ gX1_add_X1_endBy ⟨Nat.le_of_ble_eq_true rfl, Nat.le_of_ble_eq_true rfl⟩ hl.1 ⟨Nat.zero_le _, Nat.zero_le _⟩ (Nat.le_of_ble_eq_true rfl) hK hP dX1_add_54 ?_
    refine lv_aload_n hx hb dX1_add_57 rfl (lv_at hl 0 rfl) ?_
    refine mg_today hx hb hts hin hown hK hP hl_today dX1_add_58 ?_
    refine lv_icmp_gt (tgt := 70) hx hb dX1_add_61 (by decide) (fun c61 => ?_) (fun c61 => absurd hop c61)
    refine lv_aload_n hx hb dX1_add_70 rfl (lv_at hl 0 rfl) ?_
    refine lv_iload_n hx hb dX1_add_71 rfl (lv_at hl 1 rfl) ?_
    refine lv_iconst (v := 0) hx hb dX1_add_72 (by decide) ?_
    refine lv_iload_n hx hb dX1_add_73 rfl (lv_at hl 2 rfl) ?_
    refine k_X1_lays D tI tZ tL h0 ad (s_set σ 0 0) (nI j) 0 P nr hnr hr30 ⟨hx, hb, hml, hown, hts⟩ gX1_add_X1_lays ⟨Nat.le_of_ble_eq_true rfl, Nat.le_of_ble_eq_true rfl⟩ hl.1 ⟨Nat.zero_le _, Nat.zero_le _⟩ (Nat.le_of_ble_eq_true rfl) hn hK hP hS (fun q h => h) dX1_add_74 (fun H locs hP _ _ hS => ?_)
    exact u_iret hx hb hr hlocks hS (hP) (rfl) dX1_add_77
  exact key _ _ hP hS ls hl
theorem k_X1_add {p : Program} {l : Launch} {e : Env} {R : Room} {s : State} {m : MethodId} {args : Array Value} {below : List Frame} {meth : Method} {c : Code} {H : Heap} {locs : List Loc} {cells slots : Nat} {Q : State → Prop} {cc : ByteArray} {pc : Nat} {ls : Array Slot} {rest : List Value} {Ts : List Cond} (D : va_G) (tI tZ tL : ClassId) (h0 : Nat) (ad : Nat → Nat) (σ : ST) (j : Nat) (hj12 : j < 12) (P : Int32) (np : Nat) (hnp : σ.1 2 = nI np) (hn8 : np ≤ 8) (nr : Nat) (hnr : σ.1 7 = nI nr) (hr30 : nr < 30) (hset : m_in P 0 ((1 : Int32) <<< (σ.1 2 &&& 31) - 1) = true) (hq2 : ¬ P = 0) (hop : σ.1 1 < m_enf σ.2 P (bI j) (σ.1 1) np) {A0 : Nat → Prop} {H0 : Heap} {own : String} {idx nL : Nat} (S : CallFix p m c cc nL s args Ts own) (hG : GoodIn Ts (wsV own idx RX1 yX1_add wsX1_add)) (hR : ({ frames := 3, cells := 0, slots := 0, locals := 70 } : Room).frames + 1 ≤ R.frames ∧ 8 + (3 + 11) + ({ frames := 3, cells := 0, slots := 0, locals := 70 } : Room).locals ≤ R.locals) (hsz : ls.size = nL) (hcap : cells ≤ R.cells ∧ slots ≤ R.slots) (hrm : (rest.map fun v => v.category).sum ≤ 8) (hn : (m_L h0 ad).Nodup) (hK : va_K D vwCl (kTY tI tZ tL) s) (hP : va_P D vwCl (m_W tI tZ h0 ad σ) H) (hS : va_S A0 H0 H locs) (hA : ∀ q, m_A h0 ad q → A0 q) (hdg : decode cc pc = .ok (.invokevirtual idx, 3)) (kk : ∀ (H1 : Heap) (locs1 : List Loc), va_P D vwCl (m_W tI tZ h0 ad (m_lay (s_set σ 0 0) nr (nI j) 0 P)) H1 → H.size ≤ H1.size → (∀ q : Nat, q < H.size → ¬ m_A h0 ad q → H1[q]? = H[q]?) → va_S A0 H0 H1 locs1 → W p l e R s m args below meth c H1 locs1 cells slots Q (F0 m (pc + 3) ls (.int (nI nr) :: rest))) : W p l e R s m args below meth c H locs cells slots Q (F0 m pc ls (.int P :: .int (nI j) :: .ref h0 :: rest)) :=
  u_call (va_runV (As := [.int (nI j), .int P]) (rest := rest) S (c_X1_add l D tI tZ tL h0 ad σ j hj12 P np hnp hn8 nr hnr hr30 hset hq2 hop hn) (cwV 2 S.2.2.2.2 hG rfl rfl rfl (by decide +kernel) hR) (m_pre hK hP) rfl rfl hsz rfl (lv_room hrm) hdg hcap) hS hA hA kk

set_option maxHeartbeats 4000000 in
set_option maxRecDepth 100000 in
theorem c_X1_derive_f (l : Launch) (D : va_G) (tI tZ tL : ClassId) (h0 : Nat) (ad : Nat → Nat) (σ : ST) (v P : Int32) (hbad : m_in v 0 (σ.1 7 - 1) = false ∨ m_in P 0 ((1 : Int32) <<< (σ.1 2 &&& 31) - 1) = false) (hn : (m_L h0 ad).Nodup) : Met l yX1_derive wsX1_derive ({ frames := 2, cells := 0, slots := 0, locals := 43 } : Room) (va_Pc ([.ref h0, .int v, .int P] : List Value) (m_B D tI tZ tL h0 ad σ)) (u_Q (some (.int 0)) (m_P D tI tZ h0 ad (s_set (s_set σ 0 0) 0 1)) (m_A h0 ad)) 0 0 (m_A h0 ad) := by
  refine u_met (cc := cX1_derive) (maxL := 3) (ret := (some .int)) (by decide) rfl (Nat.le_of_ble_eq_true rfl) ?_
  intro p e s m below meth c hx hb hml hr hts hown hlocks hB hS ls hl
  have hD : ∀ σ : ST, va_D (m_A h0 ad) (m_W tI tZ h0 ad σ) := fun σ => m_D σ hn (fun _ h => h)
  have hown : s.vm.findClass RX1 = some m.cls := hown
  obtain ⟨hP, hK⟩ := hB
  have hl : lv_has ls 3 [(0, .ref h0), (1, .int v), (2, .int P)] := hl
  have hin : ∀ w ∈ wsX10, w ∈ wsX1_derive := in_X1_derive
  have hl_thrown : ml_thrown ∈ wsX1_derive := by decide +kernel
  have key : ∀ (H : Heap) (locs : List Loc), va_P D vwCl (m_W tI tZ h0 ad σ) H → va_S (m_A h0 ad) s.heap H locs → ∀ ls, lv_has ls 3 [(0, .ref h0), (1, .int v), (2, .int P)] → u_G p l e ({ frames := 2, cells := 0, slots := 0, locals := 43 } : Room) s m ([.ref h0, .int v, .int P] : List Value).toArray below meth c H locs (some (.int 0)) (m_P D tI tZ h0 ad (s_set (s_set σ 0 0) 0 1)) (m_A h0 ad) (F0 m 0 ls []) := by
    intro H locs hP hS ls hl
    refine lv_aload_n hx hb dX1_derive_0 rfl (lv_at hl 0 rfl) ?_
    refine lv_iconst (v := 0) hx hb dX1_derive_1 (by decide) ?_
    refine mp_thrown hx hb hts hin hown hK hP (hD _) hS hl_thrown dX1_derive_2 (fun H locs hP hS => ?_)
    refine lv_aload_n hx hb dX1_derive_5 rfl (lv_at hl 0 rfl) ?_
    refine lv_iload_n hx hb dX1_derive_6 rfl (lv_at hl 1 rfl) ?_
    refine k_X1_isRecord D tI tZ tL h0 ad (s_set σ 0 0) v ⟨hx, hb, hml, hown, hts⟩ gX1_derive_X1_isRecord ⟨Nat.le_of_ble_eq_true rfl, Nat.le_of_ble_eq_true rfl⟩ hl.1 ⟨Nat.zero_le _, Nat.zero_le _⟩ (Nat.le_of_ble_eq_true rfl) hK hP dX1_derive_7 ?_
    refine lv_ifeq_b (tgt := 21) hx hb dX1_derive_10 (by decide) (fun c10 => ?_) (fun c10 => ?_)
    · refine lv_aload_n hx hb dX1_derive_21 rfl (lv_at hl 0 rfl) ?_
      refine lv_iconst (v := 1) hx hb dX1_derive_22 (by decide) ?_
      refine k_X1_fails D tI tZ tL h0 ad (s_set σ 0 0) 1 ⟨hx, hb, hml, hown, hts⟩ gX1_derive_X1_fails ⟨Nat.le_of_ble_eq_true rfl, Nat.le_of_ble_eq_true rfl⟩ hl.1 ⟨Nat.zero_le _, Nat.zero_le _⟩ (Nat.le_of_ble_eq_true rfl) hn hK hP hS (fun q h => h) dX1_derive_23 (fun H locs hP _ _ hS => ?_)
      exact u_iret hx hb hr hlocks hS (hP) (rfl) dX1_derive_26
    · refine lv_aload_n hx hb dX1_derive_13 rfl (lv_at hl 0 rfl) ?_
      refine lv_iload_n hx hb dX1_derive_14 rfl (lv_at hl 2 rfl) ?_
      refine k_X1_isSet D tI tZ tL h0 ad (s_set σ 0 0) P ⟨hx, hb, hml, hown, hts⟩ gX1_derive_X1_isSet ⟨Nat.le_of_ble_eq_true rfl, Nat.le_of_ble_eq_true rfl⟩ hl.1 ⟨Nat.zero_le _, Nat.zero_le _⟩ (Nat.le_of_ble_eq_true rfl) hK hP dX1_derive_15 ?_
      refine lv_ifne_b (tgt := 27) hx hb dX1_derive_18 (by decide) (fun c18 => absurd c18 (hbad.elim (fun h => absurd c10 (ne_t h)) (fun h => by first | exact ne_t h | exact ne_f h))) (fun c18 => ?_)
      refine lv_aload_n hx hb dX1_derive_21 rfl (lv_at hl 0 rfl) ?_
      refine lv_iconst (v := 1) hx hb dX1_derive_22 (by decide) ?_
      refine k_X1_fails D tI tZ tL h0 ad (s_set σ 0 0) 1 ⟨hx, hb, hml, hown, hts⟩ gX1_derive_X1_fails ⟨Nat.le_of_ble_eq_true rfl, Nat.le_of_ble_eq_true rfl⟩ hl.1 ⟨Nat.zero_le _, Nat.zero_le _⟩ (Nat.le_of_ble_eq_true rfl) hn hK hP hS (fun q h => h) dX1_derive_23 (fun H locs hP _ _ hS => ?_)
      exact u_iret hx hb hr hlocks hS (hP) (rfl) dX1_derive_26
  exact key _ _ hP hS ls hl
theorem k_X1_derive_f {p : Program} {l : Launch} {e : Env} {R : Room} {s : State} {m : MethodId} {args : Array Value} {below : List Frame} {meth : Method} {c : Code} {H : Heap} {locs : List Loc} {cells slots : Nat} {Q : State → Prop} {cc : ByteArray} {pc : Nat} {ls : Array Slot} {rest : List Value} {Ts : List Cond} (D : va_G) (tI tZ tL : ClassId) (h0 : Nat) (ad : Nat → Nat) (σ : ST) (v P : Int32) (hbad : m_in v 0 (σ.1 7 - 1) = false ∨ m_in P 0 ((1 : Int32) <<< (σ.1 2 &&& 31) - 1) = false) {A0 : Nat → Prop} {H0 : Heap} {own : String} {idx nL : Nat} (S : CallFix p m c cc nL s args Ts own) (hG : GoodIn Ts (wsV own idx RX1 yX1_derive wsX1_derive)) (hR : ({ frames := 2, cells := 0, slots := 0, locals := 43 } : Room).frames + 1 ≤ R.frames ∧ 8 + (3 + 11) + ({ frames := 2, cells := 0, slots := 0, locals := 43 } : Room).locals ≤ R.locals) (hsz : ls.size = nL) (hcap : cells ≤ R.cells ∧ slots ≤ R.slots) (hrm : (rest.map fun v => v.category).sum ≤ 8) (hn : (m_L h0 ad).Nodup) (hK : va_K D vwCl (kTY tI tZ tL) s) (hP : va_P D vwCl (m_W tI tZ h0 ad σ) H) (hS : va_S A0 H0 H locs) (hA : ∀ q, m_A h0 ad q → A0 q) (hdg : decode cc pc = .ok (.invokevirtual idx, 3)) (kk : ∀ (H1 : Heap) (locs1 : List Loc), va_P D vwCl (m_W tI tZ h0 ad (s_set (s_set σ 0 0) 0 1)) H1 → H.size ≤ H1.size → (∀ q : Nat, q < H.size → ¬ m_A h0 ad q → H1[q]? = H[q]?) → va_S A0 H0 H1 locs1 → W p l e R s m args below meth c H1 locs1 cells slots Q (F0 m (pc + 3) ls (.int 0 :: rest))) : W p l e R s m args below meth c H locs cells slots Q (F0 m pc ls (.int P :: .int v :: .ref h0 :: rest)) :=
  u_call (va_runV (As := [.int v, .int P]) (rest := rest) S (c_X1_derive_f l D tI tZ tL h0 ad σ v P hbad hn) (cwV 2 S.2.2.2.2 hG rfl rfl rfl (by decide +kernel) hR) (m_pre hK hP) rfl rfl hsz rfl (lv_room hrm) hdg hcap) hS hA hA kk

set_option maxHeartbeats 4000000 in
set_option maxRecDepth 100000 in
theorem c_X1_derive_g (l : Launch) (D : va_G) (tI tZ tL : ClassId) (h0 : Nat) (ad : Nat → Nat) (σ : ST) (r : Nat) (nr : Nat) (hnr : σ.1 7 = nI nr) (hn30 : nr ≤ 30) (hrn : r < nr) (P : Int32) (hset : m_in P 0 ((1 : Int32) <<< (σ.1 2 &&& 31) - 1) = true) (hq2 : P = 0) (hn : (m_L h0 ad).Nodup) : Met l yX1_derive wsX1_derive ({ frames := 2, cells := 0, slots := 0, locals := 43 } : Room) (va_Pc ([.ref h0, .int (nI r), .int P] : List Value) (m_B D tI tZ tL h0 ad σ)) (u_Q (some (.int 0)) (m_P D tI tZ h0 ad (s_set (s_set σ 0 0) 0 2)) (m_A h0 ad)) 0 0 (m_A h0 ad) := by
  refine u_met (cc := cX1_derive) (maxL := 3) (ret := (some .int)) (by decide) rfl (Nat.le_of_ble_eq_true rfl) ?_
  intro p e s m below meth c hx hb hml hr hts hown hlocks hB hS ls hl
  have hD : ∀ σ : ST, va_D (m_A h0 ad) (m_W tI tZ h0 ad σ) := fun σ => m_D σ hn (fun _ h => h)
  have hown : s.vm.findClass RX1 = some m.cls := hown
  obtain ⟨hP, hK⟩ := hB
  have hl : lv_has ls 3 [(0, .ref h0), (1, .int (nI r)), (2, .int P)] := hl
  have hin : ∀ w ∈ wsX10, w ∈ wsX1_derive := in_X1_derive
  have hl_thrown : ml_thrown ∈ wsX1_derive := by decide +kernel
  have key : ∀ (H : Heap) (locs : List Loc), va_P D vwCl (m_W tI tZ h0 ad σ) H → va_S (m_A h0 ad) s.heap H locs → ∀ ls, lv_has ls 3 [(0, .ref h0), (1, .int (nI r)), (2, .int P)] → u_G p l e ({ frames := 2, cells := 0, slots := 0, locals := 43 } : Room) s m ([.ref h0, .int (nI r), .int P] : List Value).toArray below meth c H locs (some (.int 0)) (m_P D tI tZ h0 ad (s_set (s_set σ 0 0) 0 2)) (m_A h0 ad) (F0 m 0 ls []) := by
    intro H locs hP hS ls hl
    refine lv_aload_n hx hb dX1_derive_0 rfl (lv_at hl 0 rfl) ?_
    refine lv_iconst (v := 0) hx hb dX1_derive_1 (by decide) ?_
    refine mp_thrown hx hb hts hin hown hK hP (hD _) hS hl_thrown dX1_derive_2 (fun H locs hP hS => ?_)
    refine lv_aload_n hx hb dX1_derive_5 rfl (lv_at hl 0 rfl) ?_
    refine lv_iload_n hx hb dX1_derive_6 rfl (lv_at hl 1 rfl) ?_
    refine k_X1_isRecord D tI tZ tL h0 ad (s_set σ 0 0) (nI r) ⟨hx, hb, hml, hown, hts⟩ gX1_derive_X1_isRecord ⟨Nat.le_of_ble_eq_true rfl, Nat.le_of_ble_eq_true rfl⟩ hl.1 ⟨Nat.zero_le _, Nat.zero_le _⟩ (Nat.le_of_ble_eq_true rfl) hK hP dX1_derive_7 ?_
    refine lv_ifeq_b (tgt := 21) hx hb dX1_derive_10 (by decide) (fun c10 => absurd c10 (ne_f (m_in_t (n := nr) (by show σ.1 7 - 1 = _; rw [hnr]) hrn (by omega)))) (fun c10 => ?_)
    refine lv_aload_n hx hb dX1_derive_13 rfl (lv_at hl 0 rfl) ?_
    refine lv_iload_n hx hb dX1_derive_14 rfl (lv_at hl 2 rfl) ?_
    refine k_X1_isSet D tI tZ tL h0 ad (s_set σ 0 0) P ⟨hx, hb, hml, hown, hts⟩ gX1_derive_X1_isSet ⟨Nat.le_of_ble_eq_true rfl, Nat.le_of_ble_eq_true rfl⟩ hl.1 ⟨Nat.zero_le _, Nat.zero_le _⟩ (Nat.le_of_ble_eq_true rfl) hK hP dX1_derive_15 ?_
    refine lv_ifne_b (tgt := 27) hx hb dX1_derive_18 (by decide) (fun c18 => ?_) (fun c18 => absurd c18 (by first | exact ne_t hset | exact ne_f hset))
    refine lv_iload_n hx hb dX1_derive_27 rfl (lv_at hl 2 rfl) ?_
    refine lv_if_ne (tgt := 37) hx hb dX1_derive_28 (by decide) (fun c28 => absurd hq2 c28) (fun c28 => ?_)
    refine lv_aload_n hx hb dX1_derive_31 rfl (lv_at hl 0 rfl) ?_
    refine lv_iconst (v := 2) hx hb dX1_derive_32 (by decide) ?_
    refine k_X1_fails D tI tZ tL h0 ad (s_set σ 0 0) 2 ⟨hx, hb, hml, hown, hts⟩ gX1_derive_X1_fails ⟨Nat.le_of_ble_eq_true rfl, Nat.le_of_ble_eq_true rfl⟩ hl.1 ⟨Nat.zero_le _, Nat.zero_le _⟩ (Nat.le_of_ble_eq_true rfl) hn hK hP hS (fun q h => h) dX1_derive_33 (fun H locs hP _ _ hS => ?_)
    exact u_iret hx hb hr hlocks hS (hP) (rfl) dX1_derive_36
  exact key _ _ hP hS ls hl
theorem k_X1_derive_g {p : Program} {l : Launch} {e : Env} {R : Room} {s : State} {m : MethodId} {args : Array Value} {below : List Frame} {meth : Method} {c : Code} {H : Heap} {locs : List Loc} {cells slots : Nat} {Q : State → Prop} {cc : ByteArray} {pc : Nat} {ls : Array Slot} {rest : List Value} {Ts : List Cond} (D : va_G) (tI tZ tL : ClassId) (h0 : Nat) (ad : Nat → Nat) (σ : ST) (r : Nat) (nr : Nat) (hnr : σ.1 7 = nI nr) (hn30 : nr ≤ 30) (hrn : r < nr) (P : Int32) (hset : m_in P 0 ((1 : Int32) <<< (σ.1 2 &&& 31) - 1) = true) (hq2 : P = 0) {A0 : Nat → Prop} {H0 : Heap} {own : String} {idx nL : Nat} (S : CallFix p m c cc nL s args Ts own) (hG : GoodIn Ts (wsV own idx RX1 yX1_derive wsX1_derive)) (hR : ({ frames := 2, cells := 0, slots := 0, locals := 43 } : Room).frames + 1 ≤ R.frames ∧ 8 + (3 + 11) + ({ frames := 2, cells := 0, slots := 0, locals := 43 } : Room).locals ≤ R.locals) (hsz : ls.size = nL) (hcap : cells ≤ R.cells ∧ slots ≤ R.slots) (hrm : (rest.map fun v => v.category).sum ≤ 8) (hn : (m_L h0 ad).Nodup) (hK : va_K D vwCl (kTY tI tZ tL) s) (hP : va_P D vwCl (m_W tI tZ h0 ad σ) H) (hS : va_S A0 H0 H locs) (hA : ∀ q, m_A h0 ad q → A0 q) (hdg : decode cc pc = .ok (.invokevirtual idx, 3)) (kk : ∀ (H1 : Heap) (locs1 : List Loc), va_P D vwCl (m_W tI tZ h0 ad (s_set (s_set σ 0 0) 0 2)) H1 → H.size ≤ H1.size → (∀ q : Nat, q < H.size → ¬ m_A h0 ad q → H1[q]? = H[q]?) → va_S A0 H0 H1 locs1 → W p l e R s m args below meth c H1 locs1 cells slots Q (F0 m (pc + 3) ls (.int 0 :: rest))) : W p l e R s m args below meth c H locs cells slots Q (F0 m pc ls (.int P :: .int (nI r) :: .ref h0 :: rest)) :=
  u_call (va_runV (As := [.int (nI r), .int P]) (rest := rest) S (c_X1_derive_g l D tI tZ tL h0 ad σ r nr hnr hn30 hrn P hset hq2 hn) (cwV 2 S.2.2.2.2 hG rfl rfl rfl (by decide +kernel) hR) (m_pre hK hP) rfl rfl hsz rfl (lv_room hrm) hdg hcap) hS hA hA kk

set_option maxHeartbeats 4000000 in
set_option maxRecDepth 100000 in
theorem c_X1_derive_h (l : Launch) (D : va_G) (tI tZ tL : ClassId) (h0 : Nat) (ad : Nat → Nat) (σ : ST) (r : Nat) (nr : Nat) (hnr : σ.1 7 = nI nr) (hn30 : nr ≤ 30) (hrn : r < nr) (P : Int32) (np : Nat) (hnp : σ.1 2 = nI np) (hn8 : np ≤ 8) (hset : m_in P 0 ((1 : Int32) <<< (σ.1 2 &&& 31) - 1) = true) (hq2 : ¬ P = 0) (hbad : nr = 30 ∨ ¬ σ.2 12 r = 0 ∨ ¬ σ.1 1 < m_enf σ.2 P (m_subj σ.2 r) (σ.1 1) np) (hn : (m_L h0 ad).Nodup) : Met l yX1_derive wsX1_derive ({ frames := 3, cells := 0, slots := 0, locals := 70 } : Room) (va_Pc ([.ref h0, .int (nI r), .int P] : List Value) (m_B D tI tZ tL h0 ad σ)) (u_Q (some (.int 0)) (m_P D tI tZ h0 ad (s_set (s_set σ 0 0) 0 3)) (m_A h0 ad)) 0 0 (m_A h0 ad) := by
  refine u_met (cc := cX1_derive) (maxL := 3) (ret := (some .int)) (by decide) rfl (Nat.le_of_ble_eq_true rfl) ?_
  intro p e s m below meth c hx hb hml hr hts hown hlocks hB hS ls hl
  have hD : ∀ σ : ST, va_D (m_A h0 ad) (m_W tI tZ h0 ad σ) := fun σ => m_D σ hn (fun _ h => h)
  have hown : s.vm.findClass RX1 = some m.cls := hown
  obtain ⟨hP, hK⟩ := hB
  have hl : lv_has ls 3 [(0, .ref h0), (1, .int (nI r)), (2, .int P)] := hl
  have hin : ∀ w ∈ wsX10, w ∈ wsX1_derive := in_X1_derive
  have hl_many : ml_many ∈ wsX1_derive := by decide +kernel
  have hl_state : ml_state ∈ wsX1_derive := by decide +kernel
  have hl_thrown : ml_thrown ∈ wsX1_derive := by decide +kernel
  have hl_today : ml_today ∈ wsX1_derive := by decide +kernel
  have key : ∀ (H : Heap) (locs : List Loc), va_P D vwCl (m_W tI tZ h0 ad σ) H → va_S (m_A h0 ad) s.heap H locs → ∀ ls, lv_has ls 3 [(0, .ref h0), (1, .int (nI r)), (2, .int P)] → u_G p l e ({ frames := 3, cells := 0, slots := 0, locals := 70 } : Room) s m ([.ref h0, .int (nI r), .int P] : List Value).toArray below meth c H locs (some (.int 0)) (m_P D tI tZ h0 ad (s_set (s_set σ 0 0) 0 3)) (m_A h0 ad) (F0 m 0 ls []) := by
    intro H locs hP hS ls hl
    refine lv_aload_n hx hb dX1_derive_0 rfl (lv_at hl 0 rfl) ?_
    refine lv_iconst (v := 0) hx hb dX1_derive_1 (by decide) ?_
    refine mp_thrown hx hb hts hin hown hK hP (hD _) hS hl_thrown dX1_derive_2 (fun H locs hP hS => ?_)
    refine lv_aload_n hx hb dX1_derive_5 rfl (lv_at hl 0 rfl) ?_
    refine lv_iload_n hx hb dX1_derive_6 rfl (lv_at hl 1 rfl) ?_
    refine k_X1_isRecord D tI tZ tL h0 ad (s_set σ 0 0) (nI r) ⟨hx, hb, hml, hown, hts⟩ gX1_derive_X1_isRecord ⟨Nat.le_of_ble_eq_true rfl, Nat.le_of_ble_eq_true rfl⟩ hl.1 ⟨Nat.zero_le _, Nat.zero_le _⟩ (Nat.le_of_ble_eq_true rfl) hK hP dX1_derive_7 ?_
    refine lv_ifeq_b (tgt := 21) hx hb dX1_derive_10 (by decide) (fun c10 => absurd c10 (ne_f (m_in_t (n := nr) (by show σ.1 7 - 1 = _; rw [hnr]) hrn (by omega)))) (fun c10 => ?_)
    refine lv_aload_n hx hb dX1_derive_13 rfl (lv_at hl 0 rfl) ?_
    refine lv_iload_n hx hb dX1_derive_14 rfl (lv_at hl 2 rfl) ?_
    refine k_X1_isSet D tI tZ tL h0 ad (s_set σ 0 0) P ⟨hx, hb, hml, hown, hts⟩ gX1_derive_X1_isSet ⟨Nat.le_of_ble_eq_true rfl, Nat.le_of_ble_eq_true rfl⟩ hl.1 ⟨Nat.zero_le _, Nat.zero_le _⟩ (Nat.le_of_ble_eq_true rfl) hK hP dX1_derive_15 ?_
    refine lv_ifne_b (tgt := 27) hx hb dX1_derive_18 (by decide) (fun c18 => ?_) (fun c18 => absurd c18 (by first | exact ne_t hset | exact ne_f hset))
    refine lv_iload_n hx hb dX1_derive_27 rfl (lv_at hl 2 rfl) ?_
    refine lv_if_ne (tgt := 37) hx hb dX1_derive_28 (by decide) (fun c28 => ?_) (fun c28 => absurd c28 hq2)
    refine lv_aload_n hx hb dX1_derive_37 rfl (lv_at hl 0 rfl) ?_
    refine mg_many hx hb hts hin hown hK hP hl_many dX1_derive_38 ?_
    refine lv_bipush (v := 30) hx hb dX1_derive_41 (by decide) ?_
    refine lv_icmp_eq (tgt := 76) hx hb dX1_derive_43 (by decide) (fun c43 => ?_) (fun c43 => ?_)
    · refine lv_aload_n hx hb dX1_derive_76 rfl (lv_at hl 0 rfl) ?_
      refine lv_iconst (v := 3) hx hb dX1_derive_77 (by decide) ?_
      refine k_X1_fails D tI tZ tL h0 ad (s_set σ 0 0) 3 ⟨hx, hb, hml, hown, hts⟩ gX1_derive_X1_fails ⟨Nat.le_of_ble_eq_true rfl, Nat.le_of_ble_eq_true rfl⟩ hl.1 ⟨Nat.zero_le _, Nat.zero_le _⟩ (Nat.le_of_ble_eq_true rfl) hn hK hP hS (fun q h => h) dX1_derive_78 (fun H locs hP _ _ hS => ?_)
      exact u_iret hx hb hr hlocks hS (hP) (rfl) dX1_derive_81
    · refine lv_aload_n hx hb dX1_derive_46 rfl (lv_at hl 0 rfl) ?_
      refine mg_state hx hb hts hin hown hK hP hl_state dX1_derive_47 ?_
      refine lv_iload_n hx hb dX1_derive_50 rfl (lv_at hl 1 rfl) ?_
      refine mr_state (j := r) hx hb hK hP (by omega) dX1_derive_51 ?_
      refine lv_if_ne (tgt := 76) hx hb dX1_derive_52 (by decide) (fun c52 => ?_) (fun c52 => ?_)
      · refine lv_aload_n hx hb dX1_derive_76 rfl (lv_at hl 0 rfl) ?_
        refine lv_iconst (v := 3) hx hb dX1_derive_77 (by decide) ?_
        refine k_X1_fails D tI tZ tL h0 ad (s_set σ 0 0) 3 ⟨hx, hb, hml, hown, hts⟩ gX1_derive_X1_fails ⟨Nat.le_of_ble_eq_true rfl, Nat.le_of_ble_eq_true rfl⟩ hl.1 ⟨Nat.zero_le _, Nat.zero_le _⟩ (Nat.le_of_ble_eq_true rfl) hn hK hP hS (fun q h => h) dX1_derive_78 (fun H locs hP _ _ hS => ?_)
        exact u_iret hx hb hr hlocks hS (hP) (rfl) dX1_derive_81
      · refine lv_aload_n hx hb dX1_derive_55 rfl (lv_at hl 0 rfl) ?_
        refine lv_iload_n hx hb dX1_derive_56 rfl (lv_at hl 2 rfl) ?_
        refine lv_aload_n hx hb dX1_derive_57 rfl (lv_at hl 0 rfl) ?_
        refine lv_iload_n hx hb dX1_derive_58 rfl (lv_at hl 1 rfl) ?_
        refine k_X1_subjects D tI tZ tL h0 ad (s_set σ 0 0) r (by omega) ⟨hx, hb, hml, hown, hts⟩ gX1_derive_X1_subjects ⟨Nat.le_of_ble_eq_true rfl, Nat.le_of_ble_eq_true rfl⟩ hl.1 ⟨Nat.zero_le _, Nat.zero_le _⟩ (Nat.le_of_ble_eq_true rfl) hK hP dX1_derive_59 ?_
        refine lv_aload_n hx hb dX1_derive_62 rfl (lv_at hl 0 rfl) ?_
        refine mg_today hx hb hts hin hown hK hP hl_today dX1_derive_63 ?_
        refine k_X1_endBy D tI tZ tL h0 ad (s_set σ 0 0) P (m_subj σ.2 r) (σ.1 1) np hnp hn8 ⟨hx, hb, hml, hown, hts⟩ gX1_derive_X1_endBy ⟨Nat.le_of_ble_eq_true rfl, Nat.le_of_ble_eq_true rfl⟩ hl.1 ⟨Nat.zero_le _, Nat.zero_le _⟩ (Nat.le_of_ble_eq_true rfl) hK hP dX1_derive_66 ?_
        refine lv_aload_n hx hb dX1_derive_69 rfl (lv_at hl 0 rfl) ?_
        refine mg_today hx hb hts hin hown hK hP hl_today dX1_derive_70 ?_
        refine lv_icmp_gt (tgt := 82) hx hb dX1_derive_73 (by decide) (fun c73 => absurd c73 (hbad.elim (fun h => absurd (show σ.1 7 = 30 by rw [hnr, h]; rfl) c43) (fun h => h.elim (fun h => absurd c52 h) (fun h => h)))) (fun c73 => ?_)
        refine lv_aload_n hx hb dX1_derive_76 rfl (lv_at hl 0 rfl) ?_
        refine lv_iconst (v := 3) hx hb dX1_derive_77 (by decide) ?_
        refine k_X1_fails D tI tZ tL h0 ad (s_set σ 0 0) 3 ⟨hx, hb, hml, hown, hts⟩ gX1_derive_X1_fails ⟨Nat.le_of_ble_eq_true rfl, Nat.le_of_ble_eq_true rfl⟩ hl.1 ⟨Nat.zero_le _, Nat.zero_le _⟩ (Nat.le_of_ble_eq_true rfl) hn hK hP hS (fun q h => h) dX1_derive_78 (fun H locs hP _ _ hS => ?_)
        exact u_iret hx hb hr hlocks hS (hP) (rfl) dX1_derive_81
  exact key _ _ hP hS ls hl
theorem k_X1_derive_h {p : Program} {l : Launch} {e : Env} {R : Room} {s : State} {m : MethodId} {args : Array Value} {below : List Frame} {meth : Method} {c : Code} {H : Heap} {locs : List Loc} {cells slots : Nat} {Q : State → Prop} {cc : ByteArray} {pc : Nat} {ls : Array Slot} {rest : List Value} {Ts : List Cond} (D : va_G) (tI tZ tL : ClassId) (h0 : Nat) (ad : Nat → Nat) (σ : ST) (r : Nat) (nr : Nat) (hnr : σ.1 7 = nI nr) (hn30 : nr ≤ 30) (hrn : r < nr) (P : Int32) (np : Nat) (hnp : σ.1 2 = nI np) (hn8 : np ≤ 8) (hset : m_in P 0 ((1 : Int32) <<< (σ.1 2 &&& 31) - 1) = true) (hq2 : ¬ P = 0) (hbad : nr = 30 ∨ ¬ σ.2 12 r = 0 ∨ ¬ σ.1 1 < m_enf σ.2 P (m_subj σ.2 r) (σ.1 1) np) {A0 : Nat → Prop} {H0 : Heap} {own : String} {idx nL : Nat} (S : CallFix p m c cc nL s args Ts own) (hG : GoodIn Ts (wsV own idx RX1 yX1_derive wsX1_derive)) (hR : ({ frames := 3, cells := 0, slots := 0, locals := 70 } : Room).frames + 1 ≤ R.frames ∧ 8 + (3 + 11) + ({ frames := 3, cells := 0, slots := 0, locals := 70 } : Room).locals ≤ R.locals) (hsz : ls.size = nL) (hcap : cells ≤ R.cells ∧ slots ≤ R.slots) (hrm : (rest.map fun v => v.category).sum ≤ 8) (hn : (m_L h0 ad).Nodup) (hK : va_K D vwCl (kTY tI tZ tL) s) (hP : va_P D vwCl (m_W tI tZ h0 ad σ) H) (hS : va_S A0 H0 H locs) (hA : ∀ q, m_A h0 ad q → A0 q) (hdg : decode cc pc = .ok (.invokevirtual idx, 3)) (kk : ∀ (H1 : Heap) (locs1 : List Loc), va_P D vwCl (m_W tI tZ h0 ad (s_set (s_set σ 0 0) 0 3)) H1 → H.size ≤ H1.size → (∀ q : Nat, q < H.size → ¬ m_A h0 ad q → H1[q]? = H[q]?) → va_S A0 H0 H1 locs1 → W p l e R s m args below meth c H1 locs1 cells slots Q (F0 m (pc + 3) ls (.int 0 :: rest))) : W p l e R s m args below meth c H locs cells slots Q (F0 m pc ls (.int P :: .int (nI r) :: .ref h0 :: rest)) :=
  u_call (va_runV (As := [.int (nI r), .int P]) (rest := rest) S (c_X1_derive_h l D tI tZ tL h0 ad σ r nr hnr hn30 hrn P np hnp hn8 hset hq2 hbad hn) (cwV 2 S.2.2.2.2 hG rfl rfl rfl (by decide +kernel) hR) (m_pre hK hP) rfl rfl hsz rfl (lv_room hrm) hdg hcap) hS hA hA kk

set_option maxHeartbeats 4000000 in
set_option maxRecDepth 100000 in
theorem c_X1_derive (l : Launch) (D : va_G) (tI tZ tL : ClassId) (h0 : Nat) (ad : Nat → Nat) (σ : ST) (r : Nat) (P : Int32) (np : Nat) (hnp : σ.1 2 = nI np) (hn8 : np ≤ 8) (nr : Nat) (hnr : σ.1 7 = nI nr) (hr30 : nr < 30) (hrn : r < nr) (hset : m_in P 0 ((1 : Int32) <<< (σ.1 2 &&& 31) - 1) = true) (hq2 : ¬ P = 0) (hpr : σ.2 12 r = 0) (hop : σ.1 1 < m_enf σ.2 P (m_subj σ.2 r) (σ.1 1) np) (hn : (m_L h0 ad).Nodup) : Met l yX1_derive wsX1_derive ({ frames := 3, cells := 0, slots := 0, locals := 70 } : Room) (va_Pc ([.ref h0, .int (nI r), .int P] : List Value) (m_B D tI tZ tL h0 ad σ)) (u_Q (some (.int (nI nr))) (m_P D tI tZ h0 ad (m_lay (s_set σ 0 0) nr (-1) (bI r) P)) (m_A h0 ad)) 0 0 (m_A h0 ad) := by
  refine u_met (cc := cX1_derive) (maxL := 3) (ret := (some .int)) (by decide) rfl (Nat.le_of_ble_eq_true rfl) ?_
  intro p e s m below meth c hx hb hml hr hts hown hlocks hB hS ls hl
  have hD : ∀ σ : ST, va_D (m_A h0 ad) (m_W tI tZ h0 ad σ) := fun σ => m_D σ hn (fun _ h => h)
  have hown : s.vm.findClass RX1 = some m.cls := hown
  obtain ⟨hP, hK⟩ := hB
  have hl : lv_has ls 3 [(0, .ref h0), (1, .int (nI r)), (2, .int P)] := hl
  have hin : ∀ w ∈ wsX10, w ∈ wsX1_derive := in_X1_derive
  have hl_many : ml_many ∈ wsX1_derive := by decide +kernel
  have hl_state : ml_state ∈ wsX1_derive := by decide +kernel
  have hl_thrown : ml_thrown ∈ wsX1_derive := by decide +kernel
  have hl_today : ml_today ∈ wsX1_derive := by decide +kernel
  have key : ∀ (H : Heap) (locs : List Loc), va_P D vwCl (m_W tI tZ h0 ad σ) H → va_S (m_A h0 ad) s.heap H locs → ∀ ls, lv_has ls 3 [(0, .ref h0), (1, .int (nI r)), (2, .int P)] → u_G p l e ({ frames := 3, cells := 0, slots := 0, locals := 70 } : Room) s m ([.ref h0, .int (nI r), .int P] : List Value).toArray below meth c H locs (some (.int (nI nr))) (m_P D tI tZ h0 ad (m_lay (s_set σ 0 0) nr (-1) (bI r) P)) (m_A h0 ad) (F0 m 0 ls []) := by
    intro H locs hP hS ls hl
    refine lv_aload_n hx hb dX1_derive_0 rfl (lv_at hl 0 rfl) ?_
    refine lv_iconst (v := 0) hx hb dX1_derive_1 (by decide) ?_
    refine mp_thrown hx hb hts hin hown hK hP (hD _) hS hl_thrown dX1_derive_2 (fun H locs hP hS => ?_)
    refine lv_aload_n hx hb dX1_derive_5 rfl (lv_at hl 0 rfl) ?_
    refine lv_iload_n hx hb dX1_derive_6 rfl (lv_at hl 1 rfl) ?_
    refine k_X1_isRecord D tI tZ tL h0 ad (s_set σ 0 0) (nI r) ⟨hx, hb, hml, hown, hts⟩ gX1_derive_X1_isRecord ⟨Nat.le_of_ble_eq_true rfl, Nat.le_of_ble_eq_true rfl⟩ hl.1 ⟨Nat.zero_le _, Nat.zero_le _⟩ (Nat.le_of_ble_eq_true rfl) hK hP dX1_derive_7 ?_
    refine lv_ifeq_b (tgt := 21) hx hb dX1_derive_10 (by decide) (fun c10 => absurd c10 (ne_f (m_in_t (n := nr) (by show σ.1 7 - 1 = _; rw [hnr]) hrn (by omega)))) (fun c10 => ?_)
    refine lv_aload_n hx hb dX1_derive_13 rfl (lv_at hl 0 rfl) ?_
    refine lv_iload_n hx hb dX1_derive_14 rfl (lv_at hl 2 rfl) ?_
    refine k_X1_isSet D tI tZ tL h0 ad (s_set σ 0 0) P ⟨hx, hb, hml, hown, hts⟩ gX1_derive_X1_isSet ⟨Nat.le_of_ble_eq_true rfl, Nat.le_of_ble_eq_true rfl⟩ hl.1 ⟨Nat.zero_le _, Nat.zero_le _⟩ (Nat.le_of_ble_eq_true rfl) hK hP dX1_derive_15 ?_
    refine lv_ifne_b (tgt := 27) hx hb dX1_derive_18 (by decide) (fun c18 => ?_) (fun c18 => absurd c18 (by first | exact ne_t hset | exact ne_f hset))
    refine lv_iload_n hx hb dX1_derive_27 rfl (lv_at hl 2 rfl) ?_
    refine lv_if_ne (tgt := 37) hx hb dX1_derive_28 (by decide) (fun c28 => ?_) (fun c28 => absurd c28 hq2)
    refine lv_aload_n hx hb dX1_derive_37 rfl (lv_at hl 0 rfl) ?_
    refine mg_many hx hb hts hin hown hK hP hl_many dX1_derive_38 ?_
    refine lv_bipush (v := 30) hx hb dX1_derive_41 (by decide) ?_
    refine lv_icmp_eq (tgt := 76) hx hb dX1_derive_43 (by decide) (fun c43 => absurd c43 (show ¬ σ.1 7 = 30 by rw [hnr]; exact fun h => absurd ((nI_eq (b := 30) (by omega) (by decide)).mp h) (by omega))) (fun c43 => ?_)
    refine lv_aload_n hx hb dX1_derive_46 rfl (lv_at hl 0 rfl) ?_
    refine mg_state hx hb hts hin hown hK hP hl_state dX1_derive_47 ?_
    refine lv_iload_n hx hb dX1_derive_50 rfl (lv_at hl 1 rfl) ?_
    refine mr_state (j := r) hx hb hK hP (by omega) dX1_derive_51 ?_
    refine lv_if_ne (tgt := 76) hx hb dX1_derive_52 (by decide) (fun c52 => absurd hpr c52) (fun c52 => ?_)
    refine lv_aload_n hx hb dX1_derive_55 rfl (lv_at hl 0 rfl) ?_
    refine lv_iload_n hx hb dX1_derive_56 rfl (lv_at hl 2 rfl) ?_
    refine lv_aload_n hx hb dX1_derive_57 rfl (lv_at hl 0 rfl) ?_
    refine lv_iload_n hx hb dX1_derive_58 rfl (lv_at hl 1 rfl) ?_
    refine k_X1_subjects D tI tZ tL h0 ad (s_set σ 0 0) r (by omega) ⟨hx, hb, hml, hown, hts⟩ gX1_derive_X1_subjects ⟨Nat.le_of_ble_eq_true rfl, Nat.le_of_ble_eq_true rfl⟩ hl.1 ⟨Nat.zero_le _, Nat.zero_le _⟩ (Nat.le_of_ble_eq_true rfl) hK hP dX1_derive_59 ?_
    refine lv_aload_n hx hb dX1_derive_62 rfl (lv_at hl 0 rfl) ?_
    refine mg_today hx hb hts hin hown hK hP hl_today dX1_derive_63 ?_
    refine k_X1_endBy D tI tZ tL h0 ad (s_set σ 0 0) P (m_subj σ.2 r) (σ.1 1) np hnp hn8 ⟨hx, hb, hml, hown, hts⟩ gX1_derive_X1_endBy ⟨Nat.le_of_ble_eq_true rfl, Nat.le_of_ble_eq_true rfl⟩ hl.1 ⟨Nat.zero_le _, Nat.zero_le _⟩ (Nat.le_of_ble_eq_true rfl) hK hP dX1_derive_66 ?_
    refine lv_aload_n hx hb dX1_derive_69 rfl (lv_at hl 0 rfl) ?_
    refine mg_today hx hb hts hin hown hK hP hl_today dX1_derive_70 ?_
    refine lv_icmp_gt (tgt := 82) hx hb dX1_derive_73 (by decide) (fun c73 => ?_) (fun c73 => absurd hop c73)
    refine lv_aload_n hx hb dX1_derive_82 rfl (lv_at hl 0 rfl) ?_
    refine lv_iconst (v := (-1)) hx hb dX1_derive_83 (by decide) ?_
    refine lv_iconst (v := 1) hx hb dX1_derive_84 (by decide) ?_
    refine lv_iload_n hx hb dX1_derive_85 rfl (lv_at hl 1 rfl) ?_
    refine lv_ishl hx hb dX1_derive_86 ?_
    refine lv_iload_n hx hb dX1_derive_87 rfl (lv_at hl 2 rfl) ?_
    refine k_X1_lays D tI tZ tL h0 ad (s_set σ 0 0) (-1) (1 <<< ((nI r) &&& 31)) P nr hnr hr30 ⟨hx, hb, hml, hown, hts⟩ gX1_derive_X1_lays ⟨Nat.le_of_ble_eq_true rfl, Nat.le_of_ble_eq_true rfl⟩ hl.1 ⟨Nat.zero_le _, Nat.zero_le _⟩ (Nat.le_of_ble_eq_true rfl) hn hK hP hS (fun q h => h) dX1_derive_88 (fun H locs hP _ _ hS => ?_)
    exact u_iret hx hb hr hlocks hS (hP) (rfl) dX1_derive_91
  exact key _ _ hP hS ls hl
theorem k_X1_derive {p : Program} {l : Launch} {e : Env} {R : Room} {s : State} {m : MethodId} {args : Array Value} {below : List Frame} {meth : Method} {c : Code} {H : Heap} {locs : List Loc} {cells slots : Nat} {Q : State → Prop} {cc : ByteArray} {pc : Nat} {ls : Array Slot} {rest : List Value} {Ts : List Cond} (D : va_G) (tI tZ tL : ClassId) (h0 : Nat) (ad : Nat → Nat) (σ : ST) (r : Nat) (P : Int32) (np : Nat) (hnp : σ.1 2 = nI np) (hn8 : np ≤ 8) (nr : Nat) (hnr : σ.1 7 = nI nr) (hr30 : nr < 30) (hrn : r < nr) (hset : m_in P 0 ((1 : Int32) <<< (σ.1 2 &&& 31) - 1) = true) (hq2 : ¬ P = 0) (hpr : σ.2 12 r = 0) (hop : σ.1 1 < m_enf σ.2 P (m_subj σ.2 r) (σ.1 1) np) {A0 : Nat → Prop} {H0 : Heap} {own : String} {idx nL : Nat} (S : CallFix p m c cc nL s args Ts own) (hG : GoodIn Ts (wsV own idx RX1 yX1_derive wsX1_derive)) (hR : ({ frames := 3, cells := 0, slots := 0, locals := 70 } : Room).frames + 1 ≤ R.frames ∧ 8 + (3 + 11) + ({ frames := 3, cells := 0, slots := 0, locals := 70 } : Room).locals ≤ R.locals) (hsz : ls.size = nL) (hcap : cells ≤ R.cells ∧ slots ≤ R.slots) (hrm : (rest.map fun v => v.category).sum ≤ 8) (hn : (m_L h0 ad).Nodup) (hK : va_K D vwCl (kTY tI tZ tL) s) (hP : va_P D vwCl (m_W tI tZ h0 ad σ) H) (hS : va_S A0 H0 H locs) (hA : ∀ q, m_A h0 ad q → A0 q) (hdg : decode cc pc = .ok (.invokevirtual idx, 3)) (kk : ∀ (H1 : Heap) (locs1 : List Loc), va_P D vwCl (m_W tI tZ h0 ad (m_lay (s_set σ 0 0) nr (-1) (bI r) P)) H1 → H.size ≤ H1.size → (∀ q : Nat, q < H.size → ¬ m_A h0 ad q → H1[q]? = H[q]?) → va_S A0 H0 H1 locs1 → W p l e R s m args below meth c H1 locs1 cells slots Q (F0 m (pc + 3) ls (.int (nI nr) :: rest))) : W p l e R s m args below meth c H locs cells slots Q (F0 m pc ls (.int P :: .int (nI r) :: .ref h0 :: rest)) :=
  u_call (va_runV (As := [.int (nI r), .int P]) (rest := rest) S (c_X1_derive l D tI tZ tL h0 ad σ r P np hnp hn8 nr hnr hr30 hrn hset hq2 hpr hop hn) (cwV 2 S.2.2.2.2 hG rfl rfl rfl (by decide +kernel) hR) (m_pre hK hP) rfl rfl hsz rfl (lv_room hrm) hdg hcap) hS hA hA kk

set_option maxHeartbeats 4000000 in
set_option maxRecDepth 100000 in
theorem c_X1_addSource_f (l : Launch) (D : va_G) (tI tZ tL : ClassId) (h0 : Nat) (ad : Nat → Nat) (σ : ST) (v w : Int32) (hbad : m_in v 0 (σ.1 7 - 1) = false ∨ m_in w 0 (σ.1 7 - 1) = false) (hn : (m_L h0 ad).Nodup) : Met l yX1_addSource wsX1_addSource ({ frames := 2, cells := 0, slots := 0, locals := 43 } : Room) (va_Pc ([.ref h0, .int v, .int w] : List Value) (m_B D tI tZ tL h0 ad σ)) (u_Q (some (.int 0)) (m_P D tI tZ h0 ad (s_set (s_set σ 0 0) 0 1)) (m_A h0 ad)) 0 0 (m_A h0 ad) := by
  refine u_met (cc := cX1_addSource) (maxL := 3) (ret := (some .int)) (by decide) rfl (Nat.le_of_ble_eq_true rfl) ?_
  intro p e s m below meth c hx hb hml hr hts hown hlocks hB hS ls hl
  have hD : ∀ σ : ST, va_D (m_A h0 ad) (m_W tI tZ h0 ad σ) := fun σ => m_D σ hn (fun _ h => h)
  have hown : s.vm.findClass RX1 = some m.cls := hown
  obtain ⟨hP, hK⟩ := hB
  have hl : lv_has ls 3 [(0, .ref h0), (1, .int v), (2, .int w)] := hl
  have hin : ∀ w ∈ wsX10, w ∈ wsX1_addSource := in_X1_addSource
  have hl_thrown : ml_thrown ∈ wsX1_addSource := by decide +kernel
  have key : ∀ (H : Heap) (locs : List Loc), va_P D vwCl (m_W tI tZ h0 ad σ) H → va_S (m_A h0 ad) s.heap H locs → ∀ ls, lv_has ls 3 [(0, .ref h0), (1, .int v), (2, .int w)] → u_G p l e ({ frames := 2, cells := 0, slots := 0, locals := 43 } : Room) s m ([.ref h0, .int v, .int w] : List Value).toArray below meth c H locs (some (.int 0)) (m_P D tI tZ h0 ad (s_set (s_set σ 0 0) 0 1)) (m_A h0 ad) (F0 m 0 ls []) := by
    intro H locs hP hS ls hl
    refine lv_aload_n hx hb dX1_addSource_0 rfl (lv_at hl 0 rfl) ?_
    refine lv_iconst (v := 0) hx hb dX1_addSource_1 (by decide) ?_
    refine mp_thrown hx hb hts hin hown hK hP (hD _) hS hl_thrown dX1_addSource_2 (fun H locs hP hS => ?_)
    refine lv_aload_n hx hb dX1_addSource_5 rfl (lv_at hl 0 rfl) ?_
    refine lv_iload_n hx hb dX1_addSource_6 rfl (lv_at hl 1 rfl) ?_
    refine k_X1_isRecord D tI tZ tL h0 ad (s_set σ 0 0) v ⟨hx, hb, hml, hown, hts⟩ gX1_addSource_X1_isRecord ⟨Nat.le_of_ble_eq_true rfl, Nat.le_of_ble_eq_true rfl⟩ hl.1 ⟨Nat.zero_le _, Nat.zero_le _⟩ (Nat.le_of_ble_eq_true rfl) hK hP dX1_addSource_7 ?_
    refine lv_ifeq_b (tgt := 21) hx hb dX1_addSource_10 (by decide) (fun c10 => ?_) (fun c10 => ?_)
    · refine lv_aload_n hx hb dX1_addSource_21 rfl (lv_at hl 0 rfl) ?_
      refine lv_iconst (v := 1) hx hb dX1_addSource_22 (by decide) ?_
      refine k_X1_fails D tI tZ tL h0 ad (s_set σ 0 0) 1 ⟨hx, hb, hml, hown, hts⟩ gX1_addSource_X1_fails ⟨Nat.le_of_ble_eq_true rfl, Nat.le_of_ble_eq_true rfl⟩ hl.1 ⟨Nat.zero_le _, Nat.zero_le _⟩ (Nat.le_of_ble_eq_true rfl) hn hK hP hS (fun q h => h) dX1_addSource_23 (fun H locs hP _ _ hS => ?_)
      exact u_iret hx hb hr hlocks hS (hP) (rfl) dX1_addSource_26
    · refine lv_aload_n hx hb dX1_addSource_13 rfl (lv_at hl 0 rfl) ?_
      refine lv_iload_n hx hb dX1_addSource_14 rfl (lv_at hl 2 rfl) ?_
      refine k_X1_isRecord D tI tZ tL h0 ad (s_set σ 0 0) w ⟨hx, hb, hml, hown, hts⟩ gX1_addSource_X1_isRecord ⟨Nat.le_of_ble_eq_true rfl, Nat.le_of_ble_eq_true rfl⟩ hl.1 ⟨Nat.zero_le _, Nat.zero_le _⟩ (Nat.le_of_ble_eq_true rfl) hK hP dX1_addSource_15 ?_
      refine lv_ifne_b (tgt := 27) hx hb dX1_addSource_18 (by decide) (fun c18 => absurd c18 (hbad.elim (fun h => absurd c10 (ne_t h)) (fun h => by first | exact ne_t h | exact ne_f h))) (fun c18 => ?_)
      refine lv_aload_n hx hb dX1_addSource_21 rfl (lv_at hl 0 rfl) ?_
      refine lv_iconst (v := 1) hx hb dX1_addSource_22 (by decide) ?_
      refine k_X1_fails D tI tZ tL h0 ad (s_set σ 0 0) 1 ⟨hx, hb, hml, hown, hts⟩ gX1_addSource_X1_fails ⟨Nat.le_of_ble_eq_true rfl, Nat.le_of_ble_eq_true rfl⟩ hl.1 ⟨Nat.zero_le _, Nat.zero_le _⟩ (Nat.le_of_ble_eq_true rfl) hn hK hP hS (fun q h => h) dX1_addSource_23 (fun H locs hP _ _ hS => ?_)
      exact u_iret hx hb hr hlocks hS (hP) (rfl) dX1_addSource_26
  exact key _ _ hP hS ls hl
theorem k_X1_addSource_f {p : Program} {l : Launch} {e : Env} {R : Room} {s : State} {m : MethodId} {args : Array Value} {below : List Frame} {meth : Method} {c : Code} {H : Heap} {locs : List Loc} {cells slots : Nat} {Q : State → Prop} {cc : ByteArray} {pc : Nat} {ls : Array Slot} {rest : List Value} {Ts : List Cond} (D : va_G) (tI tZ tL : ClassId) (h0 : Nat) (ad : Nat → Nat) (σ : ST) (v w : Int32) (hbad : m_in v 0 (σ.1 7 - 1) = false ∨ m_in w 0 (σ.1 7 - 1) = false) {A0 : Nat → Prop} {H0 : Heap} {own : String} {idx nL : Nat} (S : CallFix p m c cc nL s args Ts own) (hG : GoodIn Ts (wsV own idx RX1 yX1_addSource wsX1_addSource)) (hR : ({ frames := 2, cells := 0, slots := 0, locals := 43 } : Room).frames + 1 ≤ R.frames ∧ 8 + (3 + 11) + ({ frames := 2, cells := 0, slots := 0, locals := 43 } : Room).locals ≤ R.locals) (hsz : ls.size = nL) (hcap : cells ≤ R.cells ∧ slots ≤ R.slots) (hrm : (rest.map fun v => v.category).sum ≤ 8) (hn : (m_L h0 ad).Nodup) (hK : va_K D vwCl (kTY tI tZ tL) s) (hP : va_P D vwCl (m_W tI tZ h0 ad σ) H) (hS : va_S A0 H0 H locs) (hA : ∀ q, m_A h0 ad q → A0 q) (hdg : decode cc pc = .ok (.invokevirtual idx, 3)) (kk : ∀ (H1 : Heap) (locs1 : List Loc), va_P D vwCl (m_W tI tZ h0 ad (s_set (s_set σ 0 0) 0 1)) H1 → H.size ≤ H1.size → (∀ q : Nat, q < H.size → ¬ m_A h0 ad q → H1[q]? = H[q]?) → va_S A0 H0 H1 locs1 → W p l e R s m args below meth c H1 locs1 cells slots Q (F0 m (pc + 3) ls (.int 0 :: rest))) : W p l e R s m args below meth c H locs cells slots Q (F0 m pc ls (.int w :: .int v :: .ref h0 :: rest)) :=
  u_call (va_runV (As := [.int v, .int w]) (rest := rest) S (c_X1_addSource_f l D tI tZ tL h0 ad σ v w hbad hn) (cwV 2 S.2.2.2.2 hG rfl rfl rfl (by decide +kernel) hR) (m_pre hK hP) rfl rfl hsz rfl (lv_room hrm) hdg hcap) hS hA hA kk

set_option maxHeartbeats 4000000 in
set_option maxRecDepth 100000 in
theorem c_X1_addSource_g (l : Launch) (D : va_G) (tI tZ tL : ClassId) (h0 : Nat) (ad : Nat → Nat) (σ : ST) (r sr : Nat) (nr : Nat) (hnr : σ.1 7 = nI nr) (hn30 : nr ≤ 30) (hrn : r < nr) (hsn : sr < nr) (hbad : r ≤ sr ∨ bt (σ.2 9 r) sr = true) (hn : (m_L h0 ad).Nodup) : Met l yX1_addSource wsX1_addSource ({ frames := 2, cells := 0, slots := 0, locals := 43 } : Room) (va_Pc ([.ref h0, .int (nI r), .int (nI sr)] : List Value) (m_B D tI tZ tL h0 ad σ)) (u_Q (some (.int 0)) (m_P D tI tZ h0 ad (s_set (s_set σ 0 0) 0 2)) (m_A h0 ad)) 0 0 (m_A h0 ad) := by
  refine u_met (cc := cX1_addSource) (maxL := 3) (ret := (some .int)) (by decide) rfl (Nat.le_of_ble_eq_true rfl) ?_
  intro p e s m below meth c hx hb hml hr hts hown hlocks hB hS ls hl
  have hD : ∀ σ : ST, va_D (m_A h0 ad) (m_W tI tZ h0 ad σ) := fun σ => m_D σ hn (fun _ h => h)
  have hown : s.vm.findClass RX1 = some m.cls := hown
  obtain ⟨hP, hK⟩ := hB
  have hl : lv_has ls 3 [(0, .ref h0), (1, .int (nI r)), (2, .int (nI sr))] := hl
  have hin : ∀ w ∈ wsX10, w ∈ wsX1_addSource := in_X1_addSource
  have hl_sources : ml_sources ∈ wsX1_addSource := by decide +kernel
  have hl_thrown : ml_thrown ∈ wsX1_addSource := by decide +kernel
  have key : ∀ (H : Heap) (locs : List Loc), va_P D vwCl (m_W tI tZ h0 ad σ) H → va_S (m_A h0 ad) s.heap H locs → ∀ ls, lv_has ls 3 [(0, .ref h0), (1, .int (nI r)), (2, .int (nI sr))] → u_G p l e ({ frames := 2, cells := 0, slots := 0, locals := 43 } : Room) s m ([.ref h0, .int (nI r), .int (nI sr)] : List Value).toArray below meth c H locs (some (.int 0)) (m_P D tI tZ h0 ad (s_set (s_set σ 0 0) 0 2)) (m_A h0 ad) (F0 m 0 ls []) := by
    intro H locs hP hS ls hl
    refine lv_aload_n hx hb dX1_addSource_0 rfl (lv_at hl 0 rfl) ?_
    refine lv_iconst (v := 0) hx hb dX1_addSource_1 (by decide) ?_
    refine mp_thrown hx hb hts hin hown hK hP (hD _) hS hl_thrown dX1_addSource_2 (fun H locs hP hS => ?_)
    refine lv_aload_n hx hb dX1_addSource_5 rfl (lv_at hl 0 rfl) ?_
    refine lv_iload_n hx hb dX1_addSource_6 rfl (lv_at hl 1 rfl) ?_
    refine k_X1_isRecord D tI tZ tL h0 ad (s_set σ 0 0) (nI r) ⟨hx, hb, hml, hown, hts⟩ gX1_addSource_X1_isRecord ⟨Nat.le_of_ble_eq_true rfl, Nat.le_of_ble_eq_true rfl⟩ hl.1 ⟨Nat.zero_le _, Nat.zero_le _⟩ (Nat.le_of_ble_eq_true rfl) hK hP dX1_addSource_7 ?_
    refine lv_ifeq_b (tgt := 21) hx hb dX1_addSource_10 (by decide) (fun c10 => absurd c10 (ne_f (m_in_t (n := nr) (by show σ.1 7 - 1 = _; rw [hnr]) hrn (by omega)))) (fun c10 => ?_)
    refine lv_aload_n hx hb dX1_addSource_13 rfl (lv_at hl 0 rfl) ?_
    refine lv_iload_n hx hb dX1_addSource_14 rfl (lv_at hl 2 rfl) ?_
    refine k_X1_isRecord D tI tZ tL h0 ad (s_set σ 0 0) (nI sr) ⟨hx, hb, hml, hown, hts⟩ gX1_addSource_X1_isRecord ⟨Nat.le_of_ble_eq_true rfl, Nat.le_of_ble_eq_true rfl⟩ hl.1 ⟨Nat.zero_le _, Nat.zero_le _⟩ (Nat.le_of_ble_eq_true rfl) hK hP dX1_addSource_15 ?_
    refine lv_ifne_b (tgt := 27) hx hb dX1_addSource_18 (by decide) (fun c18 => ?_) (fun c18 => absurd c18 (ne_f (m_in_t (n := nr) (by show σ.1 7 - 1 = _; rw [hnr]) hsn (by omega))))
    refine lv_iload_n hx hb dX1_addSource_27 rfl (lv_at hl 2 rfl) ?_
    refine lv_iload_n hx hb dX1_addSource_28 rfl (lv_at hl 1 rfl) ?_
    refine lv_icmp_ge (tgt := 45) hx hb dX1_addSource_29 (by decide) (fun c29 => ?_) (fun c29 => ?_)
    · refine lv_aload_n hx hb dX1_addSource_45 rfl (lv_at hl 0 rfl) ?_
      refine lv_iconst (v := 2) hx hb dX1_addSource_46 (by decide) ?_
      refine k_X1_fails D tI tZ tL h0 ad (s_set σ 0 0) 2 ⟨hx, hb, hml, hown, hts⟩ gX1_addSource_X1_fails ⟨Nat.le_of_ble_eq_true rfl, Nat.le_of_ble_eq_true rfl⟩ hl.1 ⟨Nat.zero_le _, Nat.zero_le _⟩ (Nat.le_of_ble_eq_true rfl) hn hK hP hS (fun q h => h) dX1_addSource_47 (fun H locs hP _ _ hS => ?_)
      exact u_iret hx hb hr hlocks hS (hP) (rfl) dX1_addSource_50
    · refine lv_aload_n hx hb dX1_addSource_32 rfl (lv_at hl 0 rfl) ?_
      refine mg_sources hx hb hts hin hown hK hP hl_sources dX1_addSource_33 ?_
      refine lv_iload_n hx hb dX1_addSource_36 rfl (lv_at hl 1 rfl) ?_
      refine mr_sources (j := r) hx hb hK hP (by omega) dX1_addSource_37 ?_
      refine lv_iload_n hx hb dX1_addSource_38 rfl (lv_at hl 2 rfl) ?_
      refine k_X1_has (σ.2 9 r) sr (by omega) ⟨hx, hb, hml, hown, hts⟩ gX1_addSource_X1_has ⟨Nat.le_of_ble_eq_true rfl, Nat.le_of_ble_eq_true rfl⟩ hl.1 ⟨Nat.zero_le _, Nat.zero_le _⟩ (Nat.le_of_ble_eq_true rfl) dX1_addSource_39 ?_
      refine lv_ifeq_b (tgt := 51) hx hb dX1_addSource_42 (by decide) (fun c42 => absurd c42 (hbad.elim (fun h => absurd (nI_le h (by omega)) c29) (fun h => by rw [h]; decide))) (fun c42 => ?_)
      refine lv_aload_n hx hb dX1_addSource_45 rfl (lv_at hl 0 rfl) ?_
      refine lv_iconst (v := 2) hx hb dX1_addSource_46 (by decide) ?_
      refine k_X1_fails D tI tZ tL h0 ad (s_set σ 0 0) 2 ⟨hx, hb, hml, hown, hts⟩ gX1_addSource_X1_fails ⟨Nat.le_of_ble_eq_true rfl, Nat.le_of_ble_eq_true rfl⟩ hl.1 ⟨Nat.zero_le _, Nat.zero_le _⟩ (Nat.le_of_ble_eq_true rfl) hn hK hP hS (fun q h => h) dX1_addSource_47 (fun H locs hP _ _ hS => ?_)
      exact u_iret hx hb hr hlocks hS (hP) (rfl) dX1_addSource_50
  exact key _ _ hP hS ls hl
theorem k_X1_addSource_g {p : Program} {l : Launch} {e : Env} {R : Room} {s : State} {m : MethodId} {args : Array Value} {below : List Frame} {meth : Method} {c : Code} {H : Heap} {locs : List Loc} {cells slots : Nat} {Q : State → Prop} {cc : ByteArray} {pc : Nat} {ls : Array Slot} {rest : List Value} {Ts : List Cond} (D : va_G) (tI tZ tL : ClassId) (h0 : Nat) (ad : Nat → Nat) (σ : ST) (r sr : Nat) (nr : Nat) (hnr : σ.1 7 = nI nr) (hn30 : nr ≤ 30) (hrn : r < nr) (hsn : sr < nr) (hbad : r ≤ sr ∨ bt (σ.2 9 r) sr = true) {A0 : Nat → Prop} {H0 : Heap} {own : String} {idx nL : Nat} (S : CallFix p m c cc nL s args Ts own) (hG : GoodIn Ts (wsV own idx RX1 yX1_addSource wsX1_addSource)) (hR : ({ frames := 2, cells := 0, slots := 0, locals := 43 } : Room).frames + 1 ≤ R.frames ∧ 8 + (3 + 11) + ({ frames := 2, cells := 0, slots := 0, locals := 43 } : Room).locals ≤ R.locals) (hsz : ls.size = nL) (hcap : cells ≤ R.cells ∧ slots ≤ R.slots) (hrm : (rest.map fun v => v.category).sum ≤ 8) (hn : (m_L h0 ad).Nodup) (hK : va_K D vwCl (kTY tI tZ tL) s) (hP : va_P D vwCl (m_W tI tZ h0 ad σ) H) (hS : va_S A0 H0 H locs) (hA : ∀ q, m_A h0 ad q → A0 q) (hdg : decode cc pc = .ok (.invokevirtual idx, 3)) (kk : ∀ (H1 : Heap) (locs1 : List Loc), va_P D vwCl (m_W tI tZ h0 ad (s_set (s_set σ 0 0) 0 2)) H1 → H.size ≤ H1.size → (∀ q : Nat, q < H.size → ¬ m_A h0 ad q → H1[q]? = H[q]?) → va_S A0 H0 H1 locs1 → W p l e R s m args below meth c H1 locs1 cells slots Q (F0 m (pc + 3) ls (.int 0 :: rest))) : W p l e R s m args below meth c H locs cells slots Q (F0 m pc ls (.int (nI sr) :: .int (nI r) :: .ref h0 :: rest)) :=
  u_call (va_runV (As := [.int (nI r), .int (nI sr)]) (rest := rest) S (c_X1_addSource_g l D tI tZ tL h0 ad σ r sr nr hnr hn30 hrn hsn hbad hn) (cwV 2 S.2.2.2.2 hG rfl rfl rfl (by decide +kernel) hR) (m_pre hK hP) rfl rfl hsz rfl (lv_room hrm) hdg hcap) hS hA hA kk

set_option maxHeartbeats 4000000 in
set_option maxRecDepth 100000 in
theorem c_X1_addSource_h (l : Launch) (D : va_G) (tI tZ tL : ClassId) (h0 : Nat) (ad : Nat → Nat) (σ : ST) (r sr : Nat) (nr : Nat) (hnr : σ.1 7 = nI nr) (hn30 : nr ≤ 30) (hrn : r < nr) (hsn : sr < nr) (hsr : sr < r) (hso : bt (σ.2 9 r) sr = false) (hbad : σ.2 9 r = 0 ∨ ¬ σ.2 12 r = 0 ∨ ¬ σ.2 12 sr = 0) (hn : (m_L h0 ad).Nodup) : Met l yX1_addSource wsX1_addSource ({ frames := 2, cells := 0, slots := 0, locals := 43 } : Room) (va_Pc ([.ref h0, .int (nI r), .int (nI sr)] : List Value) (m_B D tI tZ tL h0 ad σ)) (u_Q (some (.int 0)) (m_P D tI tZ h0 ad (s_set (s_set σ 0 0) 0 3)) (m_A h0 ad)) 0 0 (m_A h0 ad) := by
  refine u_met (cc := cX1_addSource) (maxL := 3) (ret := (some .int)) (by decide) rfl (Nat.le_of_ble_eq_true rfl) ?_
  intro p e s m below meth c hx hb hml hr hts hown hlocks hB hS ls hl
  have hD : ∀ σ : ST, va_D (m_A h0 ad) (m_W tI tZ h0 ad σ) := fun σ => m_D σ hn (fun _ h => h)
  have hown : s.vm.findClass RX1 = some m.cls := hown
  obtain ⟨hP, hK⟩ := hB
  have hl : lv_has ls 3 [(0, .ref h0), (1, .int (nI r)), (2, .int (nI sr))] := hl
  have hin : ∀ w ∈ wsX10, w ∈ wsX1_addSource := in_X1_addSource
  have hl_sources : ml_sources ∈ wsX1_addSource := by decide +kernel
  have hl_state : ml_state ∈ wsX1_addSource := by decide +kernel
  have hl_thrown : ml_thrown ∈ wsX1_addSource := by decide +kernel
  have key : ∀ (H : Heap) (locs : List Loc), va_P D vwCl (m_W tI tZ h0 ad σ) H → va_S (m_A h0 ad) s.heap H locs → ∀ ls, lv_has ls 3 [(0, .ref h0), (1, .int (nI r)), (2, .int (nI sr))] → u_G p l e ({ frames := 2, cells := 0, slots := 0, locals := 43 } : Room) s m ([.ref h0, .int (nI r), .int (nI sr)] : List Value).toArray below meth c H locs (some (.int 0)) (m_P D tI tZ h0 ad (s_set (s_set σ 0 0) 0 3)) (m_A h0 ad) (F0 m 0 ls []) := by
    intro H locs hP hS ls hl
    refine lv_aload_n hx hb dX1_addSource_0 rfl (lv_at hl 0 rfl) ?_
    refine lv_iconst (v := 0) hx hb dX1_addSource_1 (by decide) ?_
    refine mp_thrown hx hb hts hin hown hK hP (hD _) hS hl_thrown dX1_addSource_2 (fun H locs hP hS => ?_)
    refine lv_aload_n hx hb dX1_addSource_5 rfl (lv_at hl 0 rfl) ?_
    refine lv_iload_n hx hb dX1_addSource_6 rfl (lv_at hl 1 rfl) ?_
    refine k_X1_isRecord D tI tZ tL h0 ad (s_set σ 0 0) (nI r) ⟨hx, hb, hml, hown, hts⟩ gX1_addSource_X1_isRecord ⟨Nat.le_of_ble_eq_true rfl, Nat.le_of_ble_eq_true rfl⟩ hl.1 ⟨Nat.zero_le _, Nat.zero_le _⟩ (Nat.le_of_ble_eq_true rfl) hK hP dX1_addSource_7 ?_
    refine lv_ifeq_b (tgt := 21) hx hb dX1_addSource_10 (by decide) (fun c10 => absurd c10 (ne_f (m_in_t (n := nr) (by show σ.1 7 - 1 = _; rw [hnr]) hrn (by omega)))) (fun c10 => ?_)
    refine lv_aload_n hx hb dX1_addSource_13 rfl (lv_at hl 0 rfl) ?_
    refine lv_iload_n hx hb dX1_addSource_14 rfl (lv_at hl 2 rfl) ?_
    refine k_X1_isRecord D tI tZ tL h0 ad (s_set σ 0 0) (nI sr) ⟨hx, hb, hml, hown, hts⟩ gX1_addSource_X1_isRecord ⟨Nat.le_of_ble_eq_true rfl, Nat.le_of_ble_eq_true rfl⟩ hl.1 ⟨Nat.zero_le _, Nat.zero_le _⟩ (Nat.le_of_ble_eq_true rfl) hK hP dX1_addSource_15 ?_
    refine lv_ifne_b (tgt := 27) hx hb dX1_addSource_18 (by decide) (fun c18 => ?_) (fun c18 => absurd c18 (ne_f (m_in_t (n := nr) (by show σ.1 7 - 1 = _; rw [hnr]) hsn (by omega))))
    refine lv_iload_n hx hb dX1_addSource_27 rfl (lv_at hl 2 rfl) ?_
    refine lv_iload_n hx hb dX1_addSource_28 rfl (lv_at hl 1 rfl) ?_
    refine lv_icmp_ge (tgt := 45) hx hb dX1_addSource_29 (by decide) (fun c29 => absurd c29 (nI_ge hsr (by omega))) (fun c29 => ?_)
    refine lv_aload_n hx hb dX1_addSource_32 rfl (lv_at hl 0 rfl) ?_
    refine mg_sources hx hb hts hin hown hK hP hl_sources dX1_addSource_33 ?_
    refine lv_iload_n hx hb dX1_addSource_36 rfl (lv_at hl 1 rfl) ?_
    refine mr_sources (j := r) hx hb hK hP (by omega) dX1_addSource_37 ?_
    refine lv_iload_n hx hb dX1_addSource_38 rfl (lv_at hl 2 rfl) ?_
    refine k_X1_has (σ.2 9 r) sr (by omega) ⟨hx, hb, hml, hown, hts⟩ gX1_addSource_X1_has ⟨Nat.le_of_ble_eq_true rfl, Nat.le_of_ble_eq_true rfl⟩ hl.1 ⟨Nat.zero_le _, Nat.zero_le _⟩ (Nat.le_of_ble_eq_true rfl) dX1_addSource_39 ?_
    refine lv_ifeq_b (tgt := 51) hx hb dX1_addSource_42 (by decide) (fun c42 => ?_) (fun c42 => absurd c42 (by first | exact ne_t hso | exact ne_f hso))
    refine lv_aload_n hx hb dX1_addSource_51 rfl (lv_at hl 0 rfl) ?_
    refine mg_sources hx hb hts hin hown hK hP hl_sources dX1_addSource_52 ?_
    refine lv_iload_n hx hb dX1_addSource_55 rfl (lv_at hl 1 rfl) ?_
    refine mr_sources (j := r) hx hb hK hP (by omega) dX1_addSource_56 ?_
    refine lv_if_eq (tgt := 78) hx hb dX1_addSource_57 (by decide) (fun c57 => ?_) (fun c57 => ?_)
    · refine lv_aload_n hx hb dX1_addSource_78 rfl (lv_at hl 0 rfl) ?_
      refine lv_iconst (v := 3) hx hb dX1_addSource_79 (by decide) ?_
      refine k_X1_fails D tI tZ tL h0 ad (s_set σ 0 0) 3 ⟨hx, hb, hml, hown, hts⟩ gX1_addSource_X1_fails ⟨Nat.le_of_ble_eq_true rfl, Nat.le_of_ble_eq_true rfl⟩ hl.1 ⟨Nat.zero_le _, Nat.zero_le _⟩ (Nat.le_of_ble_eq_true rfl) hn hK hP hS (fun q h => h) dX1_addSource_80 (fun H locs hP _ _ hS => ?_)
      exact u_iret hx hb hr hlocks hS (hP) (rfl) dX1_addSource_83
    · refine lv_aload_n hx hb dX1_addSource_60 rfl (lv_at hl 0 rfl) ?_
      refine mg_state hx hb hts hin hown hK hP hl_state dX1_addSource_61 ?_
      refine lv_iload_n hx hb dX1_addSource_64 rfl (lv_at hl 1 rfl) ?_
      refine mr_state (j := r) hx hb hK hP (by omega) dX1_addSource_65 ?_
      refine lv_if_ne (tgt := 78) hx hb dX1_addSource_66 (by decide) (fun c66 => ?_) (fun c66 => ?_)
      · refine lv_aload_n hx hb dX1_addSource_78 rfl (lv_at hl 0 rfl) ?_
        refine lv_iconst (v := 3) hx hb dX1_addSource_79 (by decide) ?_
        refine k_X1_fails D tI tZ tL h0 ad (s_set σ 0 0) 3 ⟨hx, hb, hml, hown, hts⟩ gX1_addSource_X1_fails ⟨Nat.le_of_ble_eq_true rfl, Nat.le_of_ble_eq_true rfl⟩ hl.1 ⟨Nat.zero_le _, Nat.zero_le _⟩ (Nat.le_of_ble_eq_true rfl) hn hK hP hS (fun q h => h) dX1_addSource_80 (fun H locs hP _ _ hS => ?_)
        exact u_iret hx hb hr hlocks hS (hP) (rfl) dX1_addSource_83
      · refine lv_aload_n hx hb dX1_addSource_69 rfl (lv_at hl 0 rfl) ?_
        refine mg_state hx hb hts hin hown hK hP hl_state dX1_addSource_70 ?_
        refine lv_iload_n hx hb dX1_addSource_73 rfl (lv_at hl 2 rfl) ?_
        refine mr_state (j := sr) hx hb hK hP (by omega) dX1_addSource_74 ?_
        refine lv_if_eq (tgt := 84) hx hb dX1_addSource_75 (by decide) (fun c75 => absurd c75 (hbad.elim (fun h => absurd h c57) (fun h => h.elim (fun h => absurd c66 h) (fun h => h)))) (fun c75 => ?_)
        refine lv_aload_n hx hb dX1_addSource_78 rfl (lv_at hl 0 rfl) ?_
        refine lv_iconst (v := 3) hx hb dX1_addSource_79 (by decide) ?_
        refine k_X1_fails D tI tZ tL h0 ad (s_set σ 0 0) 3 ⟨hx, hb, hml, hown, hts⟩ gX1_addSource_X1_fails ⟨Nat.le_of_ble_eq_true rfl, Nat.le_of_ble_eq_true rfl⟩ hl.1 ⟨Nat.zero_le _, Nat.zero_le _⟩ (Nat.le_of_ble_eq_true rfl) hn hK hP hS (fun q h => h) dX1_addSource_80 (fun H locs hP _ _ hS => ?_)
        exact u_iret hx hb hr hlocks hS (hP) (rfl) dX1_addSource_83
  exact key _ _ hP hS ls hl
theorem k_X1_addSource_h {p : Program} {l : Launch} {e : Env} {R : Room} {s : State} {m : MethodId} {args : Array Value} {below : List Frame} {meth : Method} {c : Code} {H : Heap} {locs : List Loc} {cells slots : Nat} {Q : State → Prop} {cc : ByteArray} {pc : Nat} {ls : Array Slot} {rest : List Value} {Ts : List Cond} (D : va_G) (tI tZ tL : ClassId) (h0 : Nat) (ad : Nat → Nat) (σ : ST) (r sr : Nat) (nr : Nat) (hnr : σ.1 7 = nI nr) (hn30 : nr ≤ 30) (hrn : r < nr) (hsn : sr < nr) (hsr : sr < r) (hso : bt (σ.2 9 r) sr = false) (hbad : σ.2 9 r = 0 ∨ ¬ σ.2 12 r = 0 ∨ ¬ σ.2 12 sr = 0) {A0 : Nat → Prop} {H0 : Heap} {own : String} {idx nL : Nat} (S : CallFix p m c cc nL s args Ts own) (hG : GoodIn Ts (wsV own idx RX1 yX1_addSource wsX1_addSource)) (hR : ({ frames := 2, cells := 0, slots := 0, locals := 43 } : Room).frames + 1 ≤ R.frames ∧ 8 + (3 + 11) + ({ frames := 2, cells := 0, slots := 0, locals := 43 } : Room).locals ≤ R.locals) (hsz : ls.size = nL) (hcap : cells ≤ R.cells ∧ slots ≤ R.slots) (hrm : (rest.map fun v => v.category).sum ≤ 8) (hn : (m_L h0 ad).Nodup) (hK : va_K D vwCl (kTY tI tZ tL) s) (hP : va_P D vwCl (m_W tI tZ h0 ad σ) H) (hS : va_S A0 H0 H locs) (hA : ∀ q, m_A h0 ad q → A0 q) (hdg : decode cc pc = .ok (.invokevirtual idx, 3)) (kk : ∀ (H1 : Heap) (locs1 : List Loc), va_P D vwCl (m_W tI tZ h0 ad (s_set (s_set σ 0 0) 0 3)) H1 → H.size ≤ H1.size → (∀ q : Nat, q < H.size → ¬ m_A h0 ad q → H1[q]? = H[q]?) → va_S A0 H0 H1 locs1 → W p l e R s m args below meth c H1 locs1 cells slots Q (F0 m (pc + 3) ls (.int 0 :: rest))) : W p l e R s m args below meth c H locs cells slots Q (F0 m pc ls (.int (nI sr) :: .int (nI r) :: .ref h0 :: rest)) :=
  u_call (va_runV (As := [.int (nI r), .int (nI sr)]) (rest := rest) S (c_X1_addSource_h l D tI tZ tL h0 ad σ r sr nr hnr hn30 hrn hsn hsr hso hbad hn) (cwV 2 S.2.2.2.2 hG rfl rfl rfl (by decide +kernel) hR) (m_pre hK hP) rfl rfl hsz rfl (lv_room hrm) hdg hcap) hS hA hA kk

set_option maxHeartbeats 4000000 in
set_option maxRecDepth 100000 in
theorem c_X1_addSource (l : Launch) (D : va_G) (tI tZ tL : ClassId) (h0 : Nat) (ad : Nat → Nat) (σ : ST) (r sr : Nat) (nr : Nat) (hnr : σ.1 7 = nI nr) (hn30 : nr ≤ 30) (hrn : r < nr) (hsn : sr < nr) (hsr : sr < r) (hso : bt (σ.2 9 r) sr = false) (hrt : ¬ σ.2 9 r = 0) (hp1 : σ.2 12 r = 0) (hp2 : σ.2 12 sr = 0) (hn : (m_L h0 ad).Nodup) : Met l yX1_addSource wsX1_addSource ({ frames := 3, cells := 0, slots := 0, locals := 68 } : Room) (va_Pc ([.ref h0, .int (nI r), .int (nI sr)] : List Value) (m_B D tI tZ tL h0 ad σ)) (u_Q (some (.int (m_size (m_subj (s_put (s_set σ 0 0) 9 r (σ.2 9 r ||| bI sr)).2 r) 30))) (m_P D tI tZ h0 ad (s_put (s_set σ 0 0) 9 r (σ.2 9 r ||| bI sr))) (m_A h0 ad)) 0 0 (m_A h0 ad) := by
  refine u_met (cc := cX1_addSource) (maxL := 3) (ret := (some .int)) (by decide) rfl (Nat.le_of_ble_eq_true rfl) ?_
  intro p e s m below meth c hx hb hml hr hts hown hlocks hB hS ls hl
  have hD : ∀ σ : ST, va_D (m_A h0 ad) (m_W tI tZ h0 ad σ) := fun σ => m_D σ hn (fun _ h => h)
  have hown : s.vm.findClass RX1 = some m.cls := hown
  obtain ⟨hP, hK⟩ := hB
  have hl : lv_has ls 3 [(0, .ref h0), (1, .int (nI r)), (2, .int (nI sr))] := hl
  have hin : ∀ w ∈ wsX10, w ∈ wsX1_addSource := in_X1_addSource
  have hl_sources : ml_sources ∈ wsX1_addSource := by decide +kernel
  have hl_state : ml_state ∈ wsX1_addSource := by decide +kernel
  have hl_thrown : ml_thrown ∈ wsX1_addSource := by decide +kernel
  have key : ∀ (H : Heap) (locs : List Loc), va_P D vwCl (m_W tI tZ h0 ad σ) H → va_S (m_A h0 ad) s.heap H locs → ∀ ls, lv_has ls 3 [(0, .ref h0), (1, .int (nI r)), (2, .int (nI sr))] → u_G p l e ({ frames := 3, cells := 0, slots := 0, locals := 68 } : Room) s m ([.ref h0, .int (nI r), .int (nI sr)] : List Value).toArray below meth c H locs (some (.int (m_size (m_subj (s_put (s_set σ 0 0) 9 r (σ.2 9 r ||| bI sr)).2 r) 30))) (m_P D tI tZ h0 ad (s_put (s_set σ 0 0) 9 r (σ.2 9 r ||| bI sr))) (m_A h0 ad) (F0 m 0 ls []) := by
    intro H locs hP hS ls hl
    refine lv_aload_n hx hb dX1_addSource_0 rfl (lv_at hl 0 rfl) ?_
    refine lv_iconst (v := 0) hx hb dX1_addSource_1 (by decide) ?_
    refine mp_thrown hx hb hts hin hown hK hP (hD _) hS hl_thrown dX1_addSource_2 (fun H locs hP hS => ?_)
    refine lv_aload_n hx hb dX1_addSource_5 rfl (lv_at hl 0 rfl) ?_
    refine lv_iload_n hx hb dX1_addSource_6 rfl (lv_at hl 1 rfl) ?_
    refine k_X1_isRecord D tI tZ tL h0 ad (s_set σ 0 0) (nI r) ⟨hx, hb, hml, hown, hts⟩ gX1_addSource_X1_isRecord ⟨Nat.le_of_ble_eq_true rfl, Nat.le_of_ble_eq_true rfl⟩ hl.1 ⟨Nat.zero_le _, Nat.zero_le _⟩ (Nat.le_of_ble_eq_true rfl) hK hP dX1_addSource_7 ?_
    refine lv_ifeq_b (tgt := 21) hx hb dX1_addSource_10 (by decide) (fun c10 => absurd c10 (ne_f (m_in_t (n := nr) (by show σ.1 7 - 1 = _; rw [hnr]) hrn (by omega)))) (fun c10 => ?_)
    refine lv_aload_n hx hb dX1_addSource_13 rfl (lv_at hl 0 rfl) ?_
    refine lv_iload_n hx hb dX1_addSource_14 rfl (lv_at hl 2 rfl) ?_
    refine k_X1_isRecord D tI tZ tL h0 ad (s_set σ 0 0) (nI sr) ⟨hx, hb, hml, hown, hts⟩ gX1_addSource_X1_isRecord ⟨Nat.le_of_ble_eq_true rfl, Nat.le_of_ble_eq_true rfl⟩ hl.1 ⟨Nat.zero_le _, Nat.zero_le _⟩ (Nat.le_of_ble_eq_true rfl) hK hP dX1_addSource_15 ?_
    refine lv_ifne_b (tgt := 27) hx hb dX1_addSource_18 (by decide) (fun c18 => ?_) (fun c18 => absurd c18 (ne_f (m_in_t (n := nr) (by show σ.1 7 - 1 = _; rw [hnr]) hsn (by omega))))
    refine lv_iload_n hx hb dX1_addSource_27 rfl (lv_at hl 2 rfl) ?_
    refine lv_iload_n hx hb dX1_addSource_28 rfl (lv_at hl 1 rfl) ?_
    refine lv_icmp_ge (tgt := 45) hx hb dX1_addSource_29 (by decide) (fun c29 => absurd c29 (nI_ge hsr (by omega))) (fun c29 => ?_)
    refine lv_aload_n hx hb dX1_addSource_32 rfl (lv_at hl 0 rfl) ?_
    refine mg_sources hx hb hts hin hown hK hP hl_sources dX1_addSource_33 ?_
    refine lv_iload_n hx hb dX1_addSource_36 rfl (lv_at hl 1 rfl) ?_
    refine mr_sources (j := r) hx hb hK hP (by omega) dX1_addSource_37 ?_
    refine lv_iload_n hx hb dX1_addSource_38 rfl (lv_at hl 2 rfl) ?_
    refine k_X1_has (σ.2 9 r) sr (by omega) ⟨hx, hb, hml, hown, hts⟩ gX1_addSource_X1_has ⟨Nat.le_of_ble_eq_true rfl, Nat.le_of_ble_eq_true rfl⟩ hl.1 ⟨Nat.zero_le _, Nat.zero_le _⟩ (Nat.le_of_ble_eq_true rfl) dX1_addSource_39 ?_
    refine lv_ifeq_b (tgt := 51) hx hb dX1_addSource_42 (by decide) (fun c42 => ?_) (fun c42 => absurd c42 (by first | exact ne_t hso | exact ne_f hso))
    refine lv_aload_n hx hb dX1_addSource_51 rfl (lv_at hl 0 rfl) ?_
    refine mg_sources hx hb hts hin hown hK hP hl_sources dX1_addSource_52 ?_
    refine lv_iload_n hx hb dX1_addSource_55 rfl (lv_at hl 1 rfl) ?_
    refine mr_sources (j := r) hx hb hK hP (by omega) dX1_addSource_56 ?_
    refine lv_if_eq (tgt := 78) hx hb dX1_addSource_57 (by decide) (fun c57 => absurd c57 hrt) (fun c57 => ?_)
    refine lv_aload_n hx hb dX1_addSource_60 rfl (lv_at hl 0 rfl) ?_
    refine mg_state hx hb hts hin hown hK hP hl_state dX1_addSource_61 ?_
    refine lv_iload_n hx hb dX1_addSource_64 rfl (lv_at hl 1 rfl) ?_
    refine mr_state (j := r) hx hb hK hP (by omega) dX1_addSource_65 ?_
    refine lv_if_ne (tgt := 78) hx hb dX1_addSource_66 (by decide) (fun c66 => absurd hp1 c66) (fun c66 => ?_)
    refine lv_aload_n hx hb dX1_addSource_69 rfl (lv_at hl 0 rfl) ?_
    refine mg_state hx hb hts hin hown hK hP hl_state dX1_addSource_70 ?_
    refine lv_iload_n hx hb dX1_addSource_73 rfl (lv_at hl 2 rfl) ?_
    refine mr_state (j := sr) hx hb hK hP (by omega) dX1_addSource_74 ?_
    refine lv_if_eq (tgt := 84) hx hb dX1_addSource_75 (by decide) (fun c75 => ?_) (fun c75 => absurd hp2 c75)
    refine lv_aload_n hx hb dX1_addSource_84 rfl (lv_at hl 0 rfl) ?_
    refine mg_sources hx hb hts hin hown hK hP hl_sources dX1_addSource_85 ?_
    refine lv_iload_n hx hb dX1_addSource_88 rfl (lv_at hl 1 rfl) ?_
    refine lv_dup2_11 hx hb dX1_addSource_89 rfl rfl ?_
    refine mr_sources (j := r) hx hb hK hP (by omega) dX1_addSource_90 ?_
    refine lv_iconst (v := 1) hx hb dX1_addSource_91 (by decide) ?_
    refine lv_iload_n hx hb dX1_addSource_92 rfl (lv_at hl 2 rfl) ?_
    refine lv_ishl hx hb dX1_addSource_93 ?_
    refine lv_ior hx hb dX1_addSource_94 ?_
    refine mw_sources (j := r) hx hb hK hP (hD _) hS (by omega) dX1_addSource_95 (fun H locs hP hS => ?_)
    refine lv_aload_n hx hb dX1_addSource_96 rfl (lv_at hl 0 rfl) ?_
    refine lv_iload_n hx hb dX1_addSource_97 rfl (lv_at hl 1 rfl) ?_
    refine k_X1_subjects D tI tZ tL h0 ad (s_put (s_set σ 0 0) 9 r ((σ.2 9 r) ||| (1 <<< ((nI sr) &&& 31)))) r (by omega) ⟨hx, hb, hml, hown, hts⟩ gX1_addSource_X1_subjects ⟨Nat.le_of_ble_eq_true rfl, Nat.le_of_ble_eq_true rfl⟩ hl.1 ⟨Nat.zero_le _, Nat.zero_le _⟩ (Nat.le_of_ble_eq_true rfl) hK hP dX1_addSource_98 ?_
    refine k_X1_sizeOf (m_subj (s_put (s_set σ 0 0) 9 r ((σ.2 9 r) ||| (1 <<< ((nI sr) &&& 31)))).2 r) ⟨hx, hb, hml, hown, hts⟩ gX1_addSource_X1_sizeOf ⟨Nat.le_of_ble_eq_true rfl, Nat.le_of_ble_eq_true rfl⟩ hl.1 ⟨Nat.zero_le _, Nat.zero_le _⟩ (Nat.le_of_ble_eq_true rfl) dX1_addSource_101 ?_
    exact u_iret hx hb hr hlocks hS (hP) (rfl) dX1_addSource_104
  exact key _ _ hP hS ls hl
theorem k_X1_addSource {p : Program} {l : Launch} {e : Env} {R : Room} {s : State} {m : MethodId} {args : Array Value} {below : List Frame} {meth : Method} {c : Code} {H : Heap} {locs : List Loc} {cells slots : Nat} {Q : State → Prop} {cc : ByteArray} {pc : Nat} {ls : Array Slot} {rest : List Value} {Ts : List Cond} (D : va_G) (tI tZ tL : ClassId) (h0 : Nat) (ad : Nat → Nat) (σ : ST) (r sr : Nat) (nr : Nat) (hnr : σ.1 7 = nI nr) (hn30 : nr ≤ 30) (hrn : r < nr) (hsn : sr < nr) (hsr : sr < r) (hso : bt (σ.2 9 r) sr = false) (hrt : ¬ σ.2 9 r = 0) (hp1 : σ.2 12 r = 0) (hp2 : σ.2 12 sr = 0) {A0 : Nat → Prop} {H0 : Heap} {own : String} {idx nL : Nat} (S : CallFix p m c cc nL s args Ts own) (hG : GoodIn Ts (wsV own idx RX1 yX1_addSource wsX1_addSource)) (hR : ({ frames := 3, cells := 0, slots := 0, locals := 68 } : Room).frames + 1 ≤ R.frames ∧ 8 + (3 + 11) + ({ frames := 3, cells := 0, slots := 0, locals := 68 } : Room).locals ≤ R.locals) (hsz : ls.size = nL) (hcap : cells ≤ R.cells ∧ slots ≤ R.slots) (hrm : (rest.map fun v => v.category).sum ≤ 8) (hn : (m_L h0 ad).Nodup) (hK : va_K D vwCl (kTY tI tZ tL) s) (hP : va_P D vwCl (m_W tI tZ h0 ad σ) H) (hS : va_S A0 H0 H locs) (hA : ∀ q, m_A h0 ad q → A0 q) (hdg : decode cc pc = .ok (.invokevirtual idx, 3)) (kk : ∀ (H1 : Heap) (locs1 : List Loc), va_P D vwCl (m_W tI tZ h0 ad (s_put (s_set σ 0 0) 9 r (σ.2 9 r ||| bI sr))) H1 → H.size ≤ H1.size → (∀ q : Nat, q < H.size → ¬ m_A h0 ad q → H1[q]? = H[q]?) → va_S A0 H0 H1 locs1 → W p l e R s m args below meth c H1 locs1 cells slots Q (F0 m (pc + 3) ls (.int (m_size (m_subj (s_put (s_set σ 0 0) 9 r (σ.2 9 r ||| bI sr)).2 r) 30) :: rest))) : W p l e R s m args below meth c H locs cells slots Q (F0 m pc ls (.int (nI sr) :: .int (nI r) :: .ref h0 :: rest)) :=
  u_call (va_runV (As := [.int (nI r), .int (nI sr)]) (rest := rest) S (c_X1_addSource l D tI tZ tL h0 ad σ r sr nr hnr hn30 hrn hsn hsr hso hrt hp1 hp2 hn) (cwV 2 S.2.2.2.2 hG rfl rfl rfl (by decide +kernel) hR) (m_pre hK hP) rfl rfl hsz rfl (lv_room hrm) hdg hcap) hS hA hA kk

set_option maxHeartbeats 4000000 in
set_option maxRecDepth 100000 in
theorem c_X1_passDays_f (l : Launch) (D : va_G) (tI tZ tL : ClassId) (h0 : Nat) (ad : Nat → Nat) (σ : ST) (v : Int32) (hbad : m_in v 1 1000 = false) (hn : (m_L h0 ad).Nodup) : Met l yX1_passDays wsX1_passDays ({ frames := 1, cells := 0, slots := 0, locals := 22 } : Room) (va_Pc ([.ref h0, .int v] : List Value) (m_B D tI tZ tL h0 ad σ)) (u_Q (some (.int 0)) (m_P D tI tZ h0 ad (s_set (s_set σ 0 0) 0 1)) (m_A h0 ad)) 0 0 (m_A h0 ad) := by
  refine u_met (cc := cX1_passDays) (maxL := 5) (ret := (some .int)) (by decide) rfl (Nat.le_of_ble_eq_true rfl) ?_
  intro p e s m below meth c hx hb hml hr hts hown hlocks hB hS ls hl
  have hD : ∀ σ : ST, va_D (m_A h0 ad) (m_W tI tZ h0 ad σ) := fun σ => m_D σ hn (fun _ h => h)
  have hown : s.vm.findClass RX1 = some m.cls := hown
  obtain ⟨hP, hK⟩ := hB
  have hl : lv_has ls 5 [(0, .ref h0), (1, .int v)] := hl
  have hin : ∀ w ∈ wsX10, w ∈ wsX1_passDays := in_X1_passDays
  have hl_thrown : ml_thrown ∈ wsX1_passDays := by decide +kernel
  have key : ∀ (H : Heap) (locs : List Loc), va_P D vwCl (m_W tI tZ h0 ad σ) H → va_S (m_A h0 ad) s.heap H locs → ∀ ls, lv_has ls 5 [(0, .ref h0), (1, .int v)] → u_G p l e ({ frames := 1, cells := 0, slots := 0, locals := 22 } : Room) s m ([.ref h0, .int v] : List Value).toArray below meth c H locs (some (.int 0)) (m_P D tI tZ h0 ad (s_set (s_set σ 0 0) 0 1)) (m_A h0 ad) (F0 m 0 ls []) := by
    intro H locs hP hS ls hl
    refine lv_aload_n hx hb dX1_passDays_0 rfl (lv_at hl 0 rfl) ?_
    refine lv_iconst (v := 0) hx hb dX1_passDays_1 (by decide) ?_
    refine mp_thrown hx hb hts hin hown hK hP (hD _) hS hl_thrown dX1_passDays_2 (fun H locs hP hS => ?_)
    refine lv_iload_n hx hb dX1_passDays_5 rfl (lv_at hl 1 rfl) ?_
    refine lv_iconst (v := 1) hx hb dX1_passDays_6 (by decide) ?_
    refine lv_sipush (v := 1000) hx hb dX1_passDays_7 (by decide) ?_
    refine k_X1_in v 1 1000 ⟨hx, hb, hml, hown, hts⟩ gX1_passDays_X1_in ⟨Nat.le_of_ble_eq_true rfl, Nat.le_of_ble_eq_true rfl⟩ hl.1 ⟨Nat.zero_le _, Nat.zero_le _⟩ (Nat.le_of_ble_eq_true rfl) dX1_passDays_10 ?_
    refine lv_ifne_b (tgt := 22) hx hb dX1_passDays_13 (by decide) (fun c13 => absurd c13 (by first | exact ne_t hbad | exact ne_f hbad)) (fun c13 => ?_)
    refine lv_aload_n hx hb dX1_passDays_16 rfl (lv_at hl 0 rfl) ?_
    refine lv_iconst (v := 1) hx hb dX1_passDays_17 (by decide) ?_
    refine k_X1_fails D tI tZ tL h0 ad (s_set σ 0 0) 1 ⟨hx, hb, hml, hown, hts⟩ gX1_passDays_X1_fails ⟨Nat.le_of_ble_eq_true rfl, Nat.le_of_ble_eq_true rfl⟩ hl.1 ⟨Nat.zero_le _, Nat.zero_le _⟩ (Nat.le_of_ble_eq_true rfl) hn hK hP hS (fun q h => h) dX1_passDays_18 (fun H locs hP _ _ hS => ?_)
    exact u_iret hx hb hr hlocks hS (hP) (rfl) dX1_passDays_21
  exact key _ _ hP hS ls hl
theorem k_X1_passDays_f {p : Program} {l : Launch} {e : Env} {R : Room} {s : State} {m : MethodId} {args : Array Value} {below : List Frame} {meth : Method} {c : Code} {H : Heap} {locs : List Loc} {cells slots : Nat} {Q : State → Prop} {cc : ByteArray} {pc : Nat} {ls : Array Slot} {rest : List Value} {Ts : List Cond} (D : va_G) (tI tZ tL : ClassId) (h0 : Nat) (ad : Nat → Nat) (σ : ST) (v : Int32) (hbad : m_in v 1 1000 = false) {A0 : Nat → Prop} {H0 : Heap} {own : String} {idx nL : Nat} (S : CallFix p m c cc nL s args Ts own) (hG : GoodIn Ts (wsV own idx RX1 yX1_passDays wsX1_passDays)) (hR : ({ frames := 1, cells := 0, slots := 0, locals := 22 } : Room).frames + 1 ≤ R.frames ∧ 8 + (5 + 11) + ({ frames := 1, cells := 0, slots := 0, locals := 22 } : Room).locals ≤ R.locals) (hsz : ls.size = nL) (hcap : cells ≤ R.cells ∧ slots ≤ R.slots) (hrm : (rest.map fun v => v.category).sum ≤ 8) (hn : (m_L h0 ad).Nodup) (hK : va_K D vwCl (kTY tI tZ tL) s) (hP : va_P D vwCl (m_W tI tZ h0 ad σ) H) (hS : va_S A0 H0 H locs) (hA : ∀ q, m_A h0 ad q → A0 q) (hdg : decode cc pc = .ok (.invokevirtual idx, 3)) (kk : ∀ (H1 : Heap) (locs1 : List Loc), va_P D vwCl (m_W tI tZ h0 ad (s_set (s_set σ 0 0) 0 1)) H1 → H.size ≤ H1.size → (∀ q : Nat, q < H.size → ¬ m_A h0 ad q → H1[q]? = H[q]?) → va_S A0 H0 H1 locs1 → W p l e R s m args below meth c H1 locs1 cells slots Q (F0 m (pc + 3) ls (.int 0 :: rest))) : W p l e R s m args below meth c H locs cells slots Q (F0 m pc ls (.int v :: .ref h0 :: rest)) :=
  u_call (va_runV (As := [.int v]) (rest := rest) S (c_X1_passDays_f l D tI tZ tL h0 ad σ v hbad hn) (cwV 1 S.2.2.2.2 hG rfl rfl rfl (by decide +kernel) hR) (m_pre hK hP) rfl rfl hsz rfl (lv_room hrm) hdg hcap) hS hA hA kk

set_option maxHeartbeats 4000000 in
set_option maxRecDepth 100000 in
theorem c_X1_passDays (l : Launch) (D : va_G) (tI tZ tL : ClassId) (h0 : Nat) (ad : Nat → Nat) (σ : ST) (dd : Int32) (hv : m_in dd 1 1000 = true) (np : Nat) (hnp : σ.1 2 = nI np) (hn8 : np ≤ 8) (nr : Nat) (hnr : σ.1 7 = nI nr) (hn30 : nr ≤ 30)  (hn : (m_L h0 ad).Nodup) : Met l yX1_passDays wsX1_passDays ({ frames := 5, cells := 0, slots := 0, locals := 113 } : Room) (va_Pc ([.ref h0, .int dd] : List Value) (m_B D tI tZ tL h0 ad σ)) (u_Q (some (.int (m_paC nr (m_due (m_pdS (s_set σ 0 0) dd 96).2 (σ.1 1 + dd) np nr) (s_set (m_pdS (s_set σ 0 0) dd 96) 1 (σ.1 1 + dd)) nr))) (m_P D tI tZ h0 ad (m_paS nr (m_due (m_pdS (s_set σ 0 0) dd 96).2 (σ.1 1 + dd) np nr) (s_set (m_pdS (s_set σ 0 0) dd 96) 1 (σ.1 1 + dd)) nr)) (m_A h0 ad)) 0 0 (m_A h0 ad) := by
  refine u_met (cc := cX1_passDays) (maxL := 5) (ret := (some .int)) (by decide) rfl (Nat.le_of_ble_eq_true rfl) ?_
  intro p e s m below meth c hx hb hml hr hts hown hlocks hB hS ls hl
  have hD : ∀ σ : ST, va_D (m_A h0 ad) (m_W tI tZ h0 ad σ) := fun σ => m_D σ hn (fun _ h => h)
  have hown : s.vm.findClass RX1 = some m.cls := hown
  obtain ⟨hP, hK⟩ := hB
  have hl : lv_has ls 5 [(0, .ref h0), (1, .int dd)] := hl
  have hin : ∀ w ∈ wsX10, w ∈ wsX1_passDays := in_X1_passDays
  have hl_consented : ml_consented ∈ wsX1_passDays := by decide +kernel
  have hl_days : ml_days ∈ wsX1_passDays := by decide +kernel
  have hl_many : ml_many ∈ wsX1_passDays := by decide +kernel
  have hl_thrown : ml_thrown ∈ wsX1_passDays := by decide +kernel
  have hl_today : ml_today ∈ wsX1_passDays := by decide +kernel
  have key : ∀ (H : Heap) (locs : List Loc), va_P D vwCl (m_W tI tZ h0 ad σ) H → va_S (m_A h0 ad) s.heap H locs → ∀ ls, lv_has ls 5 [(0, .ref h0), (1, .int dd)] → u_G p l e ({ frames := 5, cells := 0, slots := 0, locals := 113 } : Room) s m ([.ref h0, .int dd] : List Value).toArray below meth c H locs (some (.int (m_paC nr (m_due (m_pdS (s_set σ 0 0) dd 96).2 (σ.1 1 + dd) np nr) (s_set (m_pdS (s_set σ 0 0) dd 96) 1 (σ.1 1 + dd)) nr))) (m_P D tI tZ h0 ad (m_paS nr (m_due (m_pdS (s_set σ 0 0) dd 96).2 (σ.1 1 + dd) np nr) (s_set (m_pdS (s_set σ 0 0) dd 96) 1 (σ.1 1 + dd)) nr)) (m_A h0 ad) (F0 m 0 ls []) := by
    intro H locs hP hS ls hl
    refine lv_aload_n hx hb dX1_passDays_0 rfl (lv_at hl 0 rfl) ?_
    refine lv_iconst (v := 0) hx hb dX1_passDays_1 (by decide) ?_
    refine mp_thrown hx hb hts hin hown hK hP (hD _) hS hl_thrown dX1_passDays_2 (fun H locs hP hS => ?_)
    refine lv_iload_n hx hb dX1_passDays_5 rfl (lv_at hl 1 rfl) ?_
    refine lv_iconst (v := 1) hx hb dX1_passDays_6 (by decide) ?_
    refine lv_sipush (v := 1000) hx hb dX1_passDays_7 (by decide) ?_
    refine k_X1_in dd 1 1000 ⟨hx, hb, hml, hown, hts⟩ gX1_passDays_X1_in ⟨Nat.le_of_ble_eq_true rfl, Nat.le_of_ble_eq_true rfl⟩ hl.1 ⟨Nat.zero_le _, Nat.zero_le _⟩ (Nat.le_of_ble_eq_true rfl) dX1_passDays_10 ?_
    refine lv_ifne_b (tgt := 22) hx hb dX1_passDays_13 (by decide) (fun c13 => ?_) (fun c13 => absurd c13 (by first | exact ne_t hv | exact ne_f hv))
    refine lv_iconst (v := 0) hx hb dX1_passDays_22 (by decide) ?_
    refine lv_istore_n (lv' := [(2, .int 0), (0, .ref h0), (1, .int dd)]) hx hb dX1_passDays_23 rfl hl (by decide) rfl (fun ls hl => ?_)
    have loop24 : ∀ (n k : Nat), k ≤ 96 → 96 + 1 ≤ k + n → ∀ (H : Heap) (locs : List Loc), va_P D vwCl (m_W tI tZ h0 ad (m_pdS (s_set σ 0 0) dd k)) H → va_S (m_A h0 ad) s.heap H locs → ∀ ls, lv_has ls 5 [(0, .ref h0), (1, .int dd), (2, .int (nI k))] → u_G p l e ({ frames := 5, cells := 0, slots := 0, locals := 113 } : Room) s m ([.ref h0, .int dd] : List Value).toArray below meth c H locs (some (.int (m_paC nr (m_due (m_pdS (s_set σ 0 0) dd 96).2 (σ.1 1 + dd) np nr) (s_set (m_pdS (s_set σ 0 0) dd 96) 1 (σ.1 1 + dd)) nr))) (m_P D tI tZ h0 ad (m_paS nr (m_due (m_pdS (s_set σ 0 0) dd 96).2 (σ.1 1 + dd) np nr) (s_set (m_pdS (s_set σ 0 0) dd 96) 1 (σ.1 1 + dd)) nr)) (m_A h0 ad) (F0 m 24 ls []) := by
      intro n
      induction n with
      | zero => intro k h1 h2; omega
      | succ n ihk =>
        intro k hk_k hn_k   H locs hP hS ls hl
        refine lv_iload_n hx hb dX1_passDays_24 rfl (lv_at hl 2 rfl) ?_
        refine lv_bipush (v := 96) hx hb dX1_passDays_25 (by decide) ?_
        refine lv_icmp_ge (tgt := 69) hx hb dX1_passDays_27 (by decide) (fun c27 => ?_) (fun c27 => ?_)
        · have hkn : k = 96 := Nat.le_antisymm hk_k (ge_t (n := 96) rfl (by omega) (by omega) c27)
          refine lv_aload_n hx hb dX1_passDays_69 rfl (lv_at hl 0 rfl) ?_
          refine lv_dup hx hb dX1_passDays_70 rfl ?_
          refine mg_today hx hb hts hin hown hK hP hl_today dX1_passDays_71 ?_
          refine lv_iload_n hx hb dX1_passDays_74 rfl (lv_at hl 1 rfl) ?_
          refine lv_iadd hx hb dX1_passDays_75 ?_
          refine mp_today hx hb hts hin hown hK hP (hD _) hS hl_today dX1_passDays_76 (fun H locs hP hS => ?_)
          refine lv_iconst (v := 0) hx hb dX1_passDays_79 (by decide) ?_
          refine lv_istore_n (lv' := [(2, .int 0), (0, .ref h0), (1, .int dd)]) hx hb dX1_passDays_80 rfl hl (by decide) rfl (fun ls hl => ?_)
          refine lv_aload_n hx hb dX1_passDays_81 rfl (lv_at hl 1 rfl) ?_
          refine k_X1_dueSet D tI tZ tL h0 ad (s_set (m_pdS (s_set σ 0 0) dd k) 1 (((m_pdS (s_set σ 0 0) dd k).1 1) + dd)) np hnp hn8 nr hnr hn30 ⟨hx, hb, hml, hown, hts⟩ gX1_passDays_X1_dueSet ⟨Nat.le_of_ble_eq_true rfl, Nat.le_of_ble_eq_true rfl⟩ hl.1 ⟨Nat.zero_le _, Nat.zero_le _⟩ (Nat.le_of_ble_eq_true rfl) hK hP dX1_passDays_82 ?_
          refine lv_istore_n (lv' := [(3, .int (m_due (m_pdS (s_set σ 0 0) dd k).2 ((((m_pdS (s_set σ 0 0) dd k).1 1) + dd)) np nr)), (2, .int 0), (0, .ref h0), (1, .int dd)]) hx hb dX1_passDays_85 rfl hl (by decide) rfl (fun ls hl => ?_)
          refine lv_iconst (v := 0) hx hb dX1_passDays_86 (by decide) ?_
          refine lv_istore (lv' := [(4, .int 0), (3, .int (m_due (m_pdS (s_set σ 0 0) dd k).2 ((((m_pdS (s_set σ 0 0) dd k).1 1) + dd)) np nr)), (2, .int 0), (0, .ref h0), (1, .int dd)]) hx hb dX1_passDays_87 hl (by decide) rfl (fun ls hl => ?_)
          have loop89 : ∀ (n i : Nat), i ≤ nr → nr + 1 ≤ i + n → ∀ (H : Heap) (locs : List Loc), va_P D vwCl (m_W tI tZ h0 ad (m_paS nr (m_due (m_pdS (s_set σ 0 0) dd 96).2 (σ.1 1 + dd) np nr) (s_set (m_pdS (s_set σ 0 0) dd 96) 1 (σ.1 1 + dd)) i)) H → va_S (m_A h0 ad) s.heap H locs → ∀ ls, lv_has ls 5 [(0, .ref h0), (2, .int (m_paC nr (m_due (m_pdS (s_set σ 0 0) dd 96).2 (σ.1 1 + dd) np nr) (s_set (m_pdS (s_set σ 0 0) dd 96) 1 (σ.1 1 + dd)) i)), (3, .int (m_due (m_pdS (s_set σ 0 0) dd 96).2 (σ.1 1 + dd) np nr)), (4, .int (nI i))] → u_G p l e ({ frames := 5, cells := 0, slots := 0, locals := 113 } : Room) s m ([.ref h0, .int dd] : List Value).toArray below meth c H locs (some (.int (m_paC nr (m_due (m_pdS (s_set σ 0 0) dd 96).2 (σ.1 1 + dd) np nr) (s_set (m_pdS (s_set σ 0 0) dd 96) 1 (σ.1 1 + dd)) nr))) (m_P D tI tZ h0 ad (m_paS nr (m_due (m_pdS (s_set σ 0 0) dd 96).2 (σ.1 1 + dd) np nr) (s_set (m_pdS (s_set σ 0 0) dd 96) 1 (σ.1 1 + dd)) nr)) (m_A h0 ad) (F0 m 89 ls []) := by
            intro n
            induction n with
            | zero => intro i h1 h2; omega
            | succ n ihi =>
              intro i hk_i hn_i   H locs hP hS ls hl
              have hnrk : (m_paS nr (m_due (m_pdS (s_set σ 0 0) dd 96).2 (σ.1 1 + dd) np nr) (s_set (m_pdS (s_set σ 0 0) dd 96) 1 (σ.1 1 + dd)) i).1 7 = nI nr := by rw [m_pa_1]; exact hnr
              refine lv_iload hx hb dX1_passDays_89 (lv_at hl 3 rfl) ?_
              refine lv_aload_n hx hb dX1_passDays_91 rfl (lv_at hl 0 rfl) ?_
              refine mg_many hx hb hts hin hown hK hP hl_many dX1_passDays_92 ?_
              refine lv_icmp_ge (tgt := 126) hx hb dX1_passDays_95 (by decide) (fun c95 => ?_) (fun c95 => ?_)
              · have hki : i = nr := Nat.le_antisymm hk_i (ge_t hnrk (by omega) (by omega) c95)
                refine lv_iload_n hx hb dX1_passDays_126 rfl (lv_at hl 1 rfl) ?_
                exact u_iret hx hb hr hlocks hS (by rw [hki] at hP; exact hP) (by rw [hki]) dX1_passDays_127
              · have hki : i < nr := ge_f hnrk (by omega) c95
                refine lv_iload_n hx hb dX1_passDays_98 rfl (lv_at hl 1 rfl) ?_
                refine lv_iload_n hx hb dX1_passDays_99 rfl (lv_at hl 2 rfl) ?_
                refine lv_iload hx hb dX1_passDays_100 (lv_at hl 3 rfl) ?_
                refine k_X1_has (m_due (m_pdS (s_set σ 0 0) dd 96).2 (σ.1 1 + dd) np nr) i (by omega) ⟨hx, hb, hml, hown, hts⟩ gX1_passDays_X1_has ⟨Nat.le_of_ble_eq_true rfl, Nat.le_of_ble_eq_true rfl⟩ hl.1 ⟨Nat.zero_le _, Nat.zero_le _⟩ (Nat.le_of_ble_eq_true rfl) dX1_passDays_102 ?_
                refine lv_ifeq_b (tgt := 117) hx hb dX1_passDays_105 (by decide) (fun c105 => ?_) (fun c105 => ?_)
                · refine lv_iconst (v := 0) hx hb dX1_passDays_117 (by decide) ?_
                  refine lv_iadd hx hb dX1_passDays_118 ?_
                  refine lv_istore_n (lv' := [(2, .int ((m_paC nr (m_due (m_pdS (s_set σ 0 0) dd 96).2 (σ.1 1 + dd) np nr) (s_set (m_pdS (s_set σ 0 0) dd 96) 1 (σ.1 1 + dd)) i) + 0)), (0, .ref h0), (3, .int (m_due (m_pdS (s_set σ 0 0) dd 96).2 (σ.1 1 + dd) np nr)), (4, .int (nI i))]) hx hb dX1_passDays_119 rfl hl (by decide) rfl (fun ls hl => ?_)
                  refine lv_iinc (v := (nI i) + 1) (lv' := [(4, .int ((nI i) + 1)), (2, .int ((m_paC nr (m_due (m_pdS (s_set σ 0 0) dd 96).2 (σ.1 1 + dd) np nr) (s_set (m_pdS (s_set σ 0 0) dd 96) 1 (σ.1 1 + dd)) i) + 0)), (0, .ref h0), (3, .int (m_due (m_pdS (s_set σ 0 0) dd 96).2 (σ.1 1 + dd) np nr))]) hx hb dX1_passDays_120 hl (k := 3) rfl rfl (by decide) rfl (fun ls hl => ?_)
                  refine lv_goto (tgt := 89) hx hb dX1_passDays_123 (by decide) ?_
                  exact ihi (i + 1) (by omega) (by omega)   _ _ (by rw [m_paS, if_neg (by rw [c105]; decide)]; exact hP) hS _ (lv_to (L := [(0, .ref h0), (2, .int ((m_paC nr (m_due (m_pdS (s_set σ 0 0) dd 96).2 (σ.1 1 + dd) np nr) (s_set (m_pdS (s_set σ 0 0) dd 96) 1 (σ.1 1 + dd)) i) + 0)), (3, .int (m_due (m_pdS (s_set σ 0 0) dd 96).2 (σ.1 1 + dd) np nr)), (4, .int ((nI i) + 1))]) (lv_sub hl [2, 1, 3, 0] rfl) (lv_cr (lv_ci (by rw [add0, m_paC, if_neg (by rw [c105]; decide)]) (lv_cr (lv_ci (nI_1 i) rfl)))))
                · refine lv_aload_n hx hb dX1_passDays_108 rfl (lv_at hl 0 rfl) ?_
                  refine lv_iload hx hb dX1_passDays_109 (lv_at hl 3 rfl) ?_
                  refine k_X1_asks D tI tZ tL h0 ad (m_paS nr (m_due (m_pdS (s_set σ 0 0) dd 96).2 (σ.1 1 + dd) np nr) (s_set (m_pdS (s_set σ 0 0) dd 96) 1 (σ.1 1 + dd)) i) i nr (hnrk) hn30 (by omega) ⟨hx, hb, hml, hown, hts⟩ gX1_passDays_X1_asks ⟨Nat.le_of_ble_eq_true rfl, Nat.le_of_ble_eq_true rfl⟩ hl.1 ⟨Nat.zero_le _, Nat.zero_le _⟩ (Nat.le_of_ble_eq_true rfl) hn hK hP hS (fun q h => h) dX1_passDays_111 (fun H locs hP _ _ hS => ?_)
                  refine lv_goto (tgt := 118) hx hb dX1_passDays_114 (by decide) ?_
                  refine lv_iadd hx hb dX1_passDays_118 ?_
                  refine lv_istore_n (lv' := [(2, .int ((m_paC nr (m_due (m_pdS (s_set σ 0 0) dd 96).2 (σ.1 1 + dd) np nr) (s_set (m_pdS (s_set σ 0 0) dd 96) 1 (σ.1 1 + dd)) i) + (m_asC (m_paS nr (m_due (m_pdS (s_set σ 0 0) dd 96).2 (σ.1 1 + dd) np nr) (s_set (m_pdS (s_set σ 0 0) dd 96) 1 (σ.1 1 + dd)) i).2 nr i))), (0, .ref h0), (3, .int (m_due (m_pdS (s_set σ 0 0) dd 96).2 (σ.1 1 + dd) np nr)), (4, .int (nI i))]) hx hb dX1_passDays_119 rfl hl (by decide) rfl (fun ls hl => ?_)
                  refine lv_iinc (v := (nI i) + 1) (lv' := [(4, .int ((nI i) + 1)), (2, .int ((m_paC nr (m_due (m_pdS (s_set σ 0 0) dd 96).2 (σ.1 1 + dd) np nr) (s_set (m_pdS (s_set σ 0 0) dd 96) 1 (σ.1 1 + dd)) i) + (m_asC (m_paS nr (m_due (m_pdS (s_set σ 0 0) dd 96).2 (σ.1 1 + dd) np nr) (s_set (m_pdS (s_set σ 0 0) dd 96) 1 (σ.1 1 + dd)) i).2 nr i))), (0, .ref h0), (3, .int (m_due (m_pdS (s_set σ 0 0) dd 96).2 (σ.1 1 + dd) np nr))]) hx hb dX1_passDays_120 hl (k := 3) rfl rfl (by decide) rfl (fun ls hl => ?_)
                  refine lv_goto (tgt := 89) hx hb dX1_passDays_123 (by decide) ?_
                  exact ihi (i + 1) (by omega) (by omega)   _ _ (by rw [m_paS, if_pos c105]; exact hP) hS _ (lv_to (L := [(0, .ref h0), (2, .int ((m_paC nr (m_due (m_pdS (s_set σ 0 0) dd 96).2 (σ.1 1 + dd) np nr) (s_set (m_pdS (s_set σ 0 0) dd 96) 1 (σ.1 1 + dd)) i) + (m_asC (m_paS nr (m_due (m_pdS (s_set σ 0 0) dd 96).2 (σ.1 1 + dd) np nr) (s_set (m_pdS (s_set σ 0 0) dd 96) 1 (σ.1 1 + dd)) i).2 nr i))), (3, .int (m_due (m_pdS (s_set σ 0 0) dd 96).2 (σ.1 1 + dd) np nr)), (4, .int ((nI i) + 1))]) (lv_sub hl [2, 1, 3, 0] rfl) (lv_cr (lv_ci (by rw [m_paC, if_pos c105]) (lv_cr (lv_ci (nI_1 i) rfl)))))
          exact loop89 (nr + 1) 0 (by omega) (by omega)   _ _ (by rw [hkn] at hP; exact hP) hS _ (lv_to (L := [(0, .ref h0), (2, .int 0), (3, .int (m_due (m_pdS (s_set σ 0 0) dd k).2 ((((m_pdS (s_set σ 0 0) dd k).1 1) + dd)) np nr)), (4, .int 0)]) (lv_sub hl [3, 2, 1, 0] rfl) (lv_cr (lv_ci (rfl) (lv_ci (by rw [hkn]; rfl) (lv_ci (rfl) rfl)))))
        · have hkn : k < 96 := ge_f (n := 96) rfl (by omega) c27
          refine lv_aload_n hx hb dX1_passDays_30 rfl (lv_at hl 0 rfl) ?_
          refine mg_days hx hb hts hin hown hK hP hl_days dX1_passDays_31 ?_
          refine lv_iload_n hx hb dX1_passDays_34 rfl (lv_at hl 2 rfl) ?_
          refine lv_dup2_11 hx hb dX1_passDays_35 rfl rfl ?_
          refine mr_days (j := k) hx hb hK hP (by omega) dX1_passDays_36 ?_
          refine lv_aload_n hx hb dX1_passDays_37 rfl (lv_at hl 0 rfl) ?_
          refine mg_consented hx hb hts hin hown hK hP hl_consented dX1_passDays_38 ?_
          refine lv_iload_n hx hb dX1_passDays_41 rfl (lv_at hl 2 rfl) ?_
          refine lv_bipush (v := 8) hx hb dX1_passDays_42 (by decide) ?_
          refine lv_idiv hx hb dX1_passDays_44 (by decide) ?_
          refine lv_topc (y := nI (k / 8)) (by rw [show (8 : Int32) = nI 8 from rfl]; exact pk_div (by omega) (by decide) (by decide)) ?_
          refine mr_consented (j := k / 8) hx hb hK hP (by omega) dX1_passDays_45 ?_
          refine lv_iload_n hx hb dX1_passDays_46 rfl (lv_at hl 2 rfl) ?_
          refine lv_bipush (v := 8) hx hb dX1_passDays_47 (by decide) ?_
          refine lv_irem hx hb dX1_passDays_49 (by decide) ?_
          refine lv_topc (y := nI (k % 8)) (by rw [show (8 : Int32) = nI 8 from rfl]; exact pk_rem (by omega) (by decide) (by decide)) ?_
          refine k_X1_has ((m_pdS (s_set σ 0 0) dd k).2 5 (k / 8)) (k % 8) (by omega) ⟨hx, hb, hml, hown, hts⟩ gX1_passDays_X1_has ⟨Nat.le_of_ble_eq_true rfl, Nat.le_of_ble_eq_true rfl⟩ hl.1 ⟨Nat.zero_le _, Nat.zero_le _⟩ (Nat.le_of_ble_eq_true rfl) dX1_passDays_50 ?_
          refine lv_ifeq_b (tgt := 60) hx hb dX1_passDays_53 (by decide) (fun c53 => ?_) (fun c53 => ?_)
          · refine lv_iconst (v := 0) hx hb dX1_passDays_60 (by decide) ?_
            refine lv_iadd hx hb dX1_passDays_61 ?_
            refine mw_days (j := k) hx hb hK hP (hD _) hS (by omega) dX1_passDays_62 (fun H locs hP hS => ?_)
            refine lv_iinc (v := (nI k) + 1) (lv' := [(2, .int ((nI k) + 1)), (0, .ref h0), (1, .int dd)]) hx hb dX1_passDays_63 hl (k := 2) rfl rfl (by decide) rfl (fun ls hl => ?_)
            refine lv_goto (tgt := 24) hx hb dX1_passDays_66 (by decide) ?_
            exact ihk (k + 1) (by omega) (by omega)   _ _ (by rw [← m_pd_f (σ := s_set σ 0 0) c53]; exact hP) hS _ (lv_to (L := [(0, .ref h0), (1, .int dd), (2, .int ((nI k) + 1))]) (lv_sub hl [1, 2, 0] rfl) (lv_cr (lv_cr (lv_ci (nI_1 k) rfl))))
          · refine lv_iload_n hx hb dX1_passDays_56 rfl (lv_at hl 1 rfl) ?_
            refine lv_goto (tgt := 61) hx hb dX1_passDays_57 (by decide) ?_
            refine lv_iadd hx hb dX1_passDays_61 ?_
            refine mw_days (j := k) hx hb hK hP (hD _) hS (by omega) dX1_passDays_62 (fun H locs hP hS => ?_)
            refine lv_iinc (v := (nI k) + 1) (lv' := [(2, .int ((nI k) + 1)), (0, .ref h0), (1, .int dd)]) hx hb dX1_passDays_63 hl (k := 2) rfl rfl (by decide) rfl (fun ls hl => ?_)
            refine lv_goto (tgt := 24) hx hb dX1_passDays_66 (by decide) ?_
            exact ihk (k + 1) (by omega) (by omega)   _ _ (by rw [← m_pd_t (σ := s_set σ 0 0) c53]; exact hP) hS _ (lv_to (L := [(0, .ref h0), (1, .int dd), (2, .int ((nI k) + 1))]) (lv_sub hl [1, 2, 0] rfl) (lv_cr (lv_cr (lv_ci (nI_1 k) rfl))))
    exact loop24 (96 + 1) 0 (by omega) (by omega)   _ _ (by rw [m_pd_0]; exact hP) hS _ (lv_to (L := [(0, .ref h0), (1, .int dd), (2, .int 0)]) (lv_sub hl [1, 2, 0] rfl) (lv_cr (lv_cr (lv_ci (rfl) rfl))))
  exact key _ _ hP hS ls hl
theorem k_X1_passDays {p : Program} {l : Launch} {e : Env} {R : Room} {s : State} {m : MethodId} {args : Array Value} {below : List Frame} {meth : Method} {c : Code} {H : Heap} {locs : List Loc} {cells slots : Nat} {Q : State → Prop} {cc : ByteArray} {pc : Nat} {ls : Array Slot} {rest : List Value} {Ts : List Cond} (D : va_G) (tI tZ tL : ClassId) (h0 : Nat) (ad : Nat → Nat) (σ : ST) (dd : Int32) (hv : m_in dd 1 1000 = true) (np : Nat) (hnp : σ.1 2 = nI np) (hn8 : np ≤ 8) (nr : Nat) (hnr : σ.1 7 = nI nr) (hn30 : nr ≤ 30)  {A0 : Nat → Prop} {H0 : Heap} {own : String} {idx nL : Nat} (S : CallFix p m c cc nL s args Ts own) (hG : GoodIn Ts (wsV own idx RX1 yX1_passDays wsX1_passDays)) (hR : ({ frames := 5, cells := 0, slots := 0, locals := 113 } : Room).frames + 1 ≤ R.frames ∧ 8 + (5 + 11) + ({ frames := 5, cells := 0, slots := 0, locals := 113 } : Room).locals ≤ R.locals) (hsz : ls.size = nL) (hcap : cells ≤ R.cells ∧ slots ≤ R.slots) (hrm : (rest.map fun v => v.category).sum ≤ 8) (hn : (m_L h0 ad).Nodup) (hK : va_K D vwCl (kTY tI tZ tL) s) (hP : va_P D vwCl (m_W tI tZ h0 ad σ) H) (hS : va_S A0 H0 H locs) (hA : ∀ q, m_A h0 ad q → A0 q) (hdg : decode cc pc = .ok (.invokevirtual idx, 3)) (kk : ∀ (H1 : Heap) (locs1 : List Loc), va_P D vwCl (m_W tI tZ h0 ad (m_paS nr (m_due (m_pdS (s_set σ 0 0) dd 96).2 (σ.1 1 + dd) np nr) (s_set (m_pdS (s_set σ 0 0) dd 96) 1 (σ.1 1 + dd)) nr)) H1 → H.size ≤ H1.size → (∀ q : Nat, q < H.size → ¬ m_A h0 ad q → H1[q]? = H[q]?) → va_S A0 H0 H1 locs1 → W p l e R s m args below meth c H1 locs1 cells slots Q (F0 m (pc + 3) ls (.int (m_paC nr (m_due (m_pdS (s_set σ 0 0) dd 96).2 (σ.1 1 + dd) np nr) (s_set (m_pdS (s_set σ 0 0) dd 96) 1 (σ.1 1 + dd)) nr) :: rest))) : W p l e R s m args below meth c H locs cells slots Q (F0 m pc ls (.int dd :: .ref h0 :: rest)) :=
  u_call (va_runV (As := [.int dd]) (rest := rest) S (c_X1_passDays l D tI tZ tL h0 ad σ dd hv np hnp hn8 nr hnr hn30 hn) (cwV 1 S.2.2.2.2 hG rfl rfl rfl (by decide +kernel) hR) (m_pre hK hP) rfl rfl hsz rfl (lv_room hrm) hdg hcap) hS hA hA kk

set_option maxHeartbeats 4000000 in
set_option maxRecDepth 100000 in
theorem c_X1_nextEnd (l : Launch) (D : va_G) (tI tZ tL : ClassId) (h0 : Nat) (ad : Nat → Nat) (σ : ST) (np : Nat) (hnp : σ.1 2 = nI np) (hn8 : np ≤ 8) (nr : Nat) (hnr : σ.1 7 = nI nr) (hn30 : nr ≤ 30)  (hn : (m_L h0 ad).Nodup) : Met l yX1_nextEnd wsX1_nextEnd ({ frames := 4, cells := 0, slots := 0, locals := 91 } : Room) (va_Pc ([.ref h0] : List Value) (m_B D tI tZ tL h0 ad σ)) (u_Q (some (.int (m_nend σ.2 np nr))) (m_P D tI tZ h0 ad (s_set σ 0 0)) (m_A h0 ad)) 0 0 (m_A h0 ad) := by
  refine u_met (cc := cX1_nextEnd) (maxL := 3) (ret := (some .int)) (by decide) rfl (Nat.le_of_ble_eq_true rfl) ?_
  intro p e s m below meth c hx hb hml hr hts hown hlocks hB hS ls hl
  have hD : ∀ σ : ST, va_D (m_A h0 ad) (m_W tI tZ h0 ad σ) := fun σ => m_D σ hn (fun _ h => h)
  have hown : s.vm.findClass RX1 = some m.cls := hown
  obtain ⟨hP, hK⟩ := hB
  have hl : lv_has ls 3 [(0, .ref h0)] := hl
  have hin : ∀ w ∈ wsX10, w ∈ wsX1_nextEnd := in_X1_nextEnd
  have hl_many : ml_many ∈ wsX1_nextEnd := by decide +kernel
  have hl_state : ml_state ∈ wsX1_nextEnd := by decide +kernel
  have hl_thrown : ml_thrown ∈ wsX1_nextEnd := by decide +kernel
  have key : ∀ (H : Heap) (locs : List Loc), va_P D vwCl (m_W tI tZ h0 ad σ) H → va_S (m_A h0 ad) s.heap H locs → ∀ ls, lv_has ls 3 [(0, .ref h0)] → u_G p l e ({ frames := 4, cells := 0, slots := 0, locals := 91 } : Room) s m ([.ref h0] : List Value).toArray below meth c H locs (some (.int (m_nend σ.2 np nr))) (m_P D tI tZ h0 ad (s_set σ 0 0)) (m_A h0 ad) (F0 m 0 ls []) := by
    intro H locs hP hS ls hl
    refine lv_aload_n hx hb dX1_nextEnd_0 rfl (lv_at hl 0 rfl) ?_
    refine lv_iconst (v := 0) hx hb dX1_nextEnd_1 (by decide) ?_
    refine mp_thrown hx hb hts hin hown hK hP (hD _) hS hl_thrown dX1_nextEnd_2 (fun H locs hP hS => ?_)
    refine lv_iconst (v := (-1)) hx hb dX1_nextEnd_5 (by decide) ?_
    refine lv_istore_n (lv' := [(1, .int (-1)), (0, .ref h0)]) hx hb dX1_nextEnd_6 rfl hl (by decide) rfl (fun ls hl => ?_)
    refine lv_iconst (v := 0) hx hb dX1_nextEnd_7 (by decide) ?_
    refine lv_istore_n (lv' := [(2, .int 0), (1, .int (-1)), (0, .ref h0)]) hx hb dX1_nextEnd_8 rfl hl (by decide) rfl (fun ls hl => ?_)
    have loop9 : ∀ (n k : Nat), k ≤ nr → nr + 1 ≤ k + n → ∀ (H : Heap) (locs : List Loc), va_P D vwCl (m_W tI tZ h0 ad (s_set σ 0 0)) H → va_S (m_A h0 ad) s.heap H locs → ∀ ls, lv_has ls 3 [(0, .ref h0), (1, .int (m_nend σ.2 np k)), (2, .int (nI k))] → u_G p l e ({ frames := 4, cells := 0, slots := 0, locals := 91 } : Room) s m ([.ref h0] : List Value).toArray below meth c H locs (some (.int (m_nend σ.2 np nr))) (m_P D tI tZ h0 ad (s_set σ 0 0)) (m_A h0 ad) (F0 m 9 ls []) := by
      intro n
      induction n with
      | zero => intro k h1 h2; omega
      | succ n ihk =>
        intro k hk_k hn_k   H locs hP hS ls hl
        refine lv_iload_n hx hb dX1_nextEnd_9 rfl (lv_at hl 2 rfl) ?_
        refine lv_aload_n hx hb dX1_nextEnd_10 rfl (lv_at hl 0 rfl) ?_
        refine mg_many hx hb hts hin hown hK hP hl_many dX1_nextEnd_11 ?_
        refine lv_icmp_ge (tgt := 56) hx hb dX1_nextEnd_14 (by decide) (fun c14 => ?_) (fun c14 => ?_)
        · have hkn : k = nr := Nat.le_antisymm hk_k (ge_t hnr (by omega) (by omega) c14)
          refine lv_iload_n hx hb dX1_nextEnd_56 rfl (lv_at hl 1 rfl) ?_
          exact u_iret hx hb hr hlocks hS (hP) (by rw [hkn]) dX1_nextEnd_57
        · have hkn : k < nr := ge_f hnr (by omega) c14
          refine lv_aload_n hx hb dX1_nextEnd_17 rfl (lv_at hl 0 rfl) ?_
          refine mg_state hx hb hts hin hown hK hP hl_state dX1_nextEnd_18 ?_
          refine lv_iload_n hx hb dX1_nextEnd_21 rfl (lv_at hl 2 rfl) ?_
          refine mr_state (j := k) hx hb hK hP (by omega) dX1_nextEnd_22 ?_
          refine lv_if_ne (tgt := 48) hx hb dX1_nextEnd_23 (by decide) (fun c23 => ?_) (fun c23 => ?_)
          · refine lv_iload_n hx hb dX1_nextEnd_48 rfl (lv_at hl 1 rfl) ?_
            refine lv_istore_n (lv' := [(1, .int (m_nend σ.2 np k)), (0, .ref h0), (2, .int (nI k))]) hx hb dX1_nextEnd_49 rfl hl (by decide) rfl (fun ls hl => ?_)
            refine lv_iinc (v := (nI k) + 1) (lv' := [(2, .int ((nI k) + 1)), (1, .int (m_nend σ.2 np k)), (0, .ref h0)]) hx hb dX1_nextEnd_50 hl (k := 2) rfl rfl (by decide) rfl (fun ls hl => ?_)
            refine lv_goto (tgt := 9) hx hb dX1_nextEnd_53 (by decide) ?_
            exact ihk (k + 1) (by omega) (by omega)   _ _ (hP) hS _ (lv_to (L := [(0, .ref h0), (1, .int (m_nend σ.2 np k)), (2, .int ((nI k) + 1))]) (lv_sub hl [2, 1, 0] rfl) (lv_cr (lv_ci (by rw [m_nend, if_neg (fun h => c23 h.1)]) (lv_ci (nI_1 k) rfl))))
          · refine lv_iload_n hx hb dX1_nextEnd_26 rfl (lv_at hl 1 rfl) ?_
            refine lv_iconst (v := (-1)) hx hb dX1_nextEnd_27 (by decide) ?_
            refine lv_icmp_eq (tgt := 40) hx hb dX1_nextEnd_28 (by decide) (fun c28 => ?_) (fun c28 => ?_)
            · refine lv_aload_n hx hb dX1_nextEnd_40 rfl (lv_at hl 0 rfl) ?_
              refine lv_iload_n hx hb dX1_nextEnd_41 rfl (lv_at hl 2 rfl) ?_
              refine k_X1_end D tI tZ tL h0 ad (s_set σ 0 0) k (by omega) np hnp hn8 ⟨hx, hb, hml, hown, hts⟩ gX1_nextEnd_X1_end ⟨Nat.le_of_ble_eq_true rfl, Nat.le_of_ble_eq_true rfl⟩ hl.1 ⟨Nat.zero_le _, Nat.zero_le _⟩ (Nat.le_of_ble_eq_true rfl) hK hP dX1_nextEnd_42 ?_
              refine lv_goto (tgt := 49) hx hb dX1_nextEnd_45 (by decide) ?_
              refine lv_istore_n (lv' := [(1, .int (m_end σ.2 np k)), (0, .ref h0), (2, .int (nI k))]) hx hb dX1_nextEnd_49 rfl hl (by decide) rfl (fun ls hl => ?_)
              refine lv_iinc (v := (nI k) + 1) (lv' := [(2, .int ((nI k) + 1)), (1, .int (m_end σ.2 np k)), (0, .ref h0)]) hx hb dX1_nextEnd_50 hl (k := 2) rfl rfl (by decide) rfl (fun ls hl => ?_)
              refine lv_goto (tgt := 9) hx hb dX1_nextEnd_53 (by decide) ?_
              exact ihk (k + 1) (by omega) (by omega)   _ _ (hP) hS _ (lv_to (L := [(0, .ref h0), (1, .int (m_end σ.2 np k)), (2, .int ((nI k) + 1))]) (lv_sub hl [2, 1, 0] rfl) (lv_cr (lv_ci (by rw [m_nend, if_pos ⟨c23, Or.inl c28⟩]) (lv_ci (nI_1 k) rfl))))
            · refine lv_aload_n hx hb dX1_nextEnd_31 rfl (lv_at hl 0 rfl) ?_
              refine lv_iload_n hx hb dX1_nextEnd_32 rfl (lv_at hl 2 rfl) ?_
              refine k_X1_end D tI tZ tL h0 ad (s_set σ 0 0) k (by omega) np hnp hn8 ⟨hx, hb, hml, hown, hts⟩ gX1_nextEnd_X1_end ⟨Nat.le_of_ble_eq_true rfl, Nat.le_of_ble_eq_true rfl⟩ hl.1 ⟨Nat.zero_le _, Nat.zero_le _⟩ (Nat.le_of_ble_eq_true rfl) hK hP dX1_nextEnd_33 ?_
              refine lv_iload_n hx hb dX1_nextEnd_36 rfl (lv_at hl 1 rfl) ?_
              refine lv_icmp_ge (tgt := 48) hx hb dX1_nextEnd_37 (by decide) (fun c37 => ?_) (fun c37 => ?_)
              · refine lv_iload_n hx hb dX1_nextEnd_48 rfl (lv_at hl 1 rfl) ?_
                refine lv_istore_n (lv' := [(1, .int (m_nend σ.2 np k)), (0, .ref h0), (2, .int (nI k))]) hx hb dX1_nextEnd_49 rfl hl (by decide) rfl (fun ls hl => ?_)
                refine lv_iinc (v := (nI k) + 1) (lv' := [(2, .int ((nI k) + 1)), (1, .int (m_nend σ.2 np k)), (0, .ref h0)]) hx hb dX1_nextEnd_50 hl (k := 2) rfl rfl (by decide) rfl (fun ls hl => ?_)
                refine lv_goto (tgt := 9) hx hb dX1_nextEnd_53 (by decide) ?_
                exact ihk (k + 1) (by omega) (by omega)   _ _ (hP) hS _ (lv_to (L := [(0, .ref h0), (1, .int (m_nend σ.2 np k)), (2, .int ((nI k) + 1))]) (lv_sub hl [2, 1, 0] rfl) (lv_cr (lv_ci (by rw [m_nend, if_neg (fun h => h.2.elim (fun h => c28 h) (fun h => absurd h (Int32.not_lt.mpr c37)))]) (lv_ci (nI_1 k) rfl))))
              · refine lv_aload_n hx hb dX1_nextEnd_40 rfl (lv_at hl 0 rfl) ?_
                refine lv_iload_n hx hb dX1_nextEnd_41 rfl (lv_at hl 2 rfl) ?_
                refine k_X1_end D tI tZ tL h0 ad (s_set σ 0 0) k (by omega) np hnp hn8 ⟨hx, hb, hml, hown, hts⟩ gX1_nextEnd_X1_end ⟨Nat.le_of_ble_eq_true rfl, Nat.le_of_ble_eq_true rfl⟩ hl.1 ⟨Nat.zero_le _, Nat.zero_le _⟩ (Nat.le_of_ble_eq_true rfl) hK hP dX1_nextEnd_42 ?_
                refine lv_goto (tgt := 49) hx hb dX1_nextEnd_45 (by decide) ?_
                refine lv_istore_n (lv' := [(1, .int (m_end σ.2 np k)), (0, .ref h0), (2, .int (nI k))]) hx hb dX1_nextEnd_49 rfl hl (by decide) rfl (fun ls hl => ?_)
                refine lv_iinc (v := (nI k) + 1) (lv' := [(2, .int ((nI k) + 1)), (1, .int (m_end σ.2 np k)), (0, .ref h0)]) hx hb dX1_nextEnd_50 hl (k := 2) rfl rfl (by decide) rfl (fun ls hl => ?_)
                refine lv_goto (tgt := 9) hx hb dX1_nextEnd_53 (by decide) ?_
                exact ihk (k + 1) (by omega) (by omega)   _ _ (hP) hS _ (lv_to (L := [(0, .ref h0), (1, .int (m_end σ.2 np k)), (2, .int ((nI k) + 1))]) (lv_sub hl [2, 1, 0] rfl) (lv_cr (lv_ci (by rw [m_nend, if_pos ⟨c23, Or.inr (Int32.not_le.mp c37)⟩]) (lv_ci (nI_1 k) rfl))))
    exact loop9 (nr + 1) 0 (by omega) (by omega)   _ _ (hP) hS _ (lv_to (L := [(0, .ref h0), (1, .int (-1)), (2, .int 0)]) (lv_sub hl [2, 1, 0] rfl) (lv_cr (lv_ci (rfl) (lv_ci (rfl) rfl))))
  exact key _ _ hP hS ls hl
theorem k_X1_nextEnd {p : Program} {l : Launch} {e : Env} {R : Room} {s : State} {m : MethodId} {args : Array Value} {below : List Frame} {meth : Method} {c : Code} {H : Heap} {locs : List Loc} {cells slots : Nat} {Q : State → Prop} {cc : ByteArray} {pc : Nat} {ls : Array Slot} {rest : List Value} {Ts : List Cond} (D : va_G) (tI tZ tL : ClassId) (h0 : Nat) (ad : Nat → Nat) (σ : ST) (np : Nat) (hnp : σ.1 2 = nI np) (hn8 : np ≤ 8) (nr : Nat) (hnr : σ.1 7 = nI nr) (hn30 : nr ≤ 30)  {A0 : Nat → Prop} {H0 : Heap} {own : String} {idx nL : Nat} (S : CallFix p m c cc nL s args Ts own) (hG : GoodIn Ts (wsV own idx RX1 yX1_nextEnd wsX1_nextEnd)) (hR : ({ frames := 4, cells := 0, slots := 0, locals := 91 } : Room).frames + 1 ≤ R.frames ∧ 8 + (3 + 11) + ({ frames := 4, cells := 0, slots := 0, locals := 91 } : Room).locals ≤ R.locals) (hsz : ls.size = nL) (hcap : cells ≤ R.cells ∧ slots ≤ R.slots) (hrm : (rest.map fun v => v.category).sum ≤ 8) (hn : (m_L h0 ad).Nodup) (hK : va_K D vwCl (kTY tI tZ tL) s) (hP : va_P D vwCl (m_W tI tZ h0 ad σ) H) (hS : va_S A0 H0 H locs) (hA : ∀ q, m_A h0 ad q → A0 q) (hdg : decode cc pc = .ok (.invokevirtual idx, 3)) (kk : ∀ (H1 : Heap) (locs1 : List Loc), va_P D vwCl (m_W tI tZ h0 ad (s_set σ 0 0)) H1 → H.size ≤ H1.size → (∀ q : Nat, q < H.size → ¬ m_A h0 ad q → H1[q]? = H[q]?) → va_S A0 H0 H1 locs1 → W p l e R s m args below meth c H1 locs1 cells slots Q (F0 m (pc + 3) ls (.int (m_nend σ.2 np nr) :: rest))) : W p l e R s m args below meth c H locs cells slots Q (F0 m pc ls (.ref h0 :: rest)) :=
  u_call (va_runV (As := []) (rest := rest) S (c_X1_nextEnd l D tI tZ tL h0 ad σ np hnp hn8 nr hnr hn30 hn) (cwV 0 S.2.2.2.2 hG rfl rfl rfl (by decide +kernel) hR) (m_pre hK hP) rfl rfl hsz rfl (lv_room hrm) hdg hcap) hS hA hA kk

set_option maxHeartbeats 4000000 in
set_option maxRecDepth 100000 in
theorem c_X1_hold_f (l : Launch) (D : va_G) (tI tZ tL : ClassId) (h0 : Nat) (ad : Nat → Nat) (σ : ST) (v w : Int32) (hbad : m_in v 0 5 = false ∨ m_in w 0 (σ.1 7 - 1) = false) (hn : (m_L h0 ad).Nodup) : Met l yX1_hold wsX1_hold ({ frames := 2, cells := 0, slots := 0, locals := 43 } : Room) (va_Pc ([.ref h0, .int v, .int w] : List Value) (m_B D tI tZ tL h0 ad σ)) (u_Q (some (.int 0)) (m_P D tI tZ h0 ad (s_set (s_set σ 0 0) 0 1)) (m_A h0 ad)) 0 0 (m_A h0 ad) := by
  refine u_met (cc := cX1_hold) (maxL := 3) (ret := (some .int)) (by decide) rfl (Nat.le_of_ble_eq_true rfl) ?_
  intro p e s m below meth c hx hb hml hr hts hown hlocks hB hS ls hl
  have hD : ∀ σ : ST, va_D (m_A h0 ad) (m_W tI tZ h0 ad σ) := fun σ => m_D σ hn (fun _ h => h)
  have hown : s.vm.findClass RX1 = some m.cls := hown
  obtain ⟨hP, hK⟩ := hB
  have hl : lv_has ls 3 [(0, .ref h0), (1, .int v), (2, .int w)] := hl
  have hin : ∀ w ∈ wsX10, w ∈ wsX1_hold := in_X1_hold
  have hl_thrown : ml_thrown ∈ wsX1_hold := by decide +kernel
  have key : ∀ (H : Heap) (locs : List Loc), va_P D vwCl (m_W tI tZ h0 ad σ) H → va_S (m_A h0 ad) s.heap H locs → ∀ ls, lv_has ls 3 [(0, .ref h0), (1, .int v), (2, .int w)] → u_G p l e ({ frames := 2, cells := 0, slots := 0, locals := 43 } : Room) s m ([.ref h0, .int v, .int w] : List Value).toArray below meth c H locs (some (.int 0)) (m_P D tI tZ h0 ad (s_set (s_set σ 0 0) 0 1)) (m_A h0 ad) (F0 m 0 ls []) := by
    intro H locs hP hS ls hl
    refine lv_aload_n hx hb dX1_hold_0 rfl (lv_at hl 0 rfl) ?_
    refine lv_iconst (v := 0) hx hb dX1_hold_1 (by decide) ?_
    refine mp_thrown hx hb hts hin hown hK hP (hD _) hS hl_thrown dX1_hold_2 (fun H locs hP hS => ?_)
    refine lv_iload_n hx hb dX1_hold_5 rfl (lv_at hl 1 rfl) ?_
    refine lv_iconst (v := 0) hx hb dX1_hold_6 (by decide) ?_
    refine lv_iconst (v := 5) hx hb dX1_hold_7 (by decide) ?_
    refine k_X1_in v 0 5 ⟨hx, hb, hml, hown, hts⟩ gX1_hold_X1_in ⟨Nat.le_of_ble_eq_true rfl, Nat.le_of_ble_eq_true rfl⟩ hl.1 ⟨Nat.zero_le _, Nat.zero_le _⟩ (Nat.le_of_ble_eq_true rfl) dX1_hold_8 ?_
    refine lv_ifeq_b (tgt := 22) hx hb dX1_hold_11 (by decide) (fun c11 => ?_) (fun c11 => ?_)
    · refine lv_aload_n hx hb dX1_hold_22 rfl (lv_at hl 0 rfl) ?_
      refine lv_iconst (v := 1) hx hb dX1_hold_23 (by decide) ?_
      refine k_X1_fails D tI tZ tL h0 ad (s_set σ 0 0) 1 ⟨hx, hb, hml, hown, hts⟩ gX1_hold_X1_fails ⟨Nat.le_of_ble_eq_true rfl, Nat.le_of_ble_eq_true rfl⟩ hl.1 ⟨Nat.zero_le _, Nat.zero_le _⟩ (Nat.le_of_ble_eq_true rfl) hn hK hP hS (fun q h => h) dX1_hold_24 (fun H locs hP _ _ hS => ?_)
      exact u_iret hx hb hr hlocks hS (hP) (rfl) dX1_hold_27
    · refine lv_aload_n hx hb dX1_hold_14 rfl (lv_at hl 0 rfl) ?_
      refine lv_iload_n hx hb dX1_hold_15 rfl (lv_at hl 2 rfl) ?_
      refine k_X1_isRecord D tI tZ tL h0 ad (s_set σ 0 0) w ⟨hx, hb, hml, hown, hts⟩ gX1_hold_X1_isRecord ⟨Nat.le_of_ble_eq_true rfl, Nat.le_of_ble_eq_true rfl⟩ hl.1 ⟨Nat.zero_le _, Nat.zero_le _⟩ (Nat.le_of_ble_eq_true rfl) hK hP dX1_hold_16 ?_
      refine lv_ifne_b (tgt := 28) hx hb dX1_hold_19 (by decide) (fun c19 => absurd c19 (hbad.elim (fun h => absurd c11 (ne_t h)) (fun h => by first | exact ne_t h | exact ne_f h))) (fun c19 => ?_)
      refine lv_aload_n hx hb dX1_hold_22 rfl (lv_at hl 0 rfl) ?_
      refine lv_iconst (v := 1) hx hb dX1_hold_23 (by decide) ?_
      refine k_X1_fails D tI tZ tL h0 ad (s_set σ 0 0) 1 ⟨hx, hb, hml, hown, hts⟩ gX1_hold_X1_fails ⟨Nat.le_of_ble_eq_true rfl, Nat.le_of_ble_eq_true rfl⟩ hl.1 ⟨Nat.zero_le _, Nat.zero_le _⟩ (Nat.le_of_ble_eq_true rfl) hn hK hP hS (fun q h => h) dX1_hold_24 (fun H locs hP _ _ hS => ?_)
      exact u_iret hx hb hr hlocks hS (hP) (rfl) dX1_hold_27
  exact key _ _ hP hS ls hl
theorem k_X1_hold_f {p : Program} {l : Launch} {e : Env} {R : Room} {s : State} {m : MethodId} {args : Array Value} {below : List Frame} {meth : Method} {c : Code} {H : Heap} {locs : List Loc} {cells slots : Nat} {Q : State → Prop} {cc : ByteArray} {pc : Nat} {ls : Array Slot} {rest : List Value} {Ts : List Cond} (D : va_G) (tI tZ tL : ClassId) (h0 : Nat) (ad : Nat → Nat) (σ : ST) (v w : Int32) (hbad : m_in v 0 5 = false ∨ m_in w 0 (σ.1 7 - 1) = false) {A0 : Nat → Prop} {H0 : Heap} {own : String} {idx nL : Nat} (S : CallFix p m c cc nL s args Ts own) (hG : GoodIn Ts (wsV own idx RX1 yX1_hold wsX1_hold)) (hR : ({ frames := 2, cells := 0, slots := 0, locals := 43 } : Room).frames + 1 ≤ R.frames ∧ 8 + (3 + 11) + ({ frames := 2, cells := 0, slots := 0, locals := 43 } : Room).locals ≤ R.locals) (hsz : ls.size = nL) (hcap : cells ≤ R.cells ∧ slots ≤ R.slots) (hrm : (rest.map fun v => v.category).sum ≤ 8) (hn : (m_L h0 ad).Nodup) (hK : va_K D vwCl (kTY tI tZ tL) s) (hP : va_P D vwCl (m_W tI tZ h0 ad σ) H) (hS : va_S A0 H0 H locs) (hA : ∀ q, m_A h0 ad q → A0 q) (hdg : decode cc pc = .ok (.invokevirtual idx, 3)) (kk : ∀ (H1 : Heap) (locs1 : List Loc), va_P D vwCl (m_W tI tZ h0 ad (s_set (s_set σ 0 0) 0 1)) H1 → H.size ≤ H1.size → (∀ q : Nat, q < H.size → ¬ m_A h0 ad q → H1[q]? = H[q]?) → va_S A0 H0 H1 locs1 → W p l e R s m args below meth c H1 locs1 cells slots Q (F0 m (pc + 3) ls (.int 0 :: rest))) : W p l e R s m args below meth c H locs cells slots Q (F0 m pc ls (.int w :: .int v :: .ref h0 :: rest)) :=
  u_call (va_runV (As := [.int v, .int w]) (rest := rest) S (c_X1_hold_f l D tI tZ tL h0 ad σ v w hbad hn) (cwV 2 S.2.2.2.2 hG rfl rfl rfl (by decide +kernel) hR) (m_pre hK hP) rfl rfl hsz rfl (lv_room hrm) hdg hcap) hS hA hA kk

set_option maxHeartbeats 4000000 in
set_option maxRecDepth 100000 in
theorem c_X1_hold_g (l : Launch) (D : va_G) (tI tZ tL : ClassId) (h0 : Nat) (ad : Nat → Nat) (σ : ST) (i r : Nat) (nr : Nat) (hnr : σ.1 7 = nI nr) (hn30 : nr ≤ 30) (hrn : r < nr) (hi6 : i < 6) (hbad : σ.2 12 r = 2 ∨ bt (σ.2 14 i) r = true) (hn : (m_L h0 ad).Nodup) : Met l yX1_hold wsX1_hold ({ frames := 2, cells := 0, slots := 0, locals := 43 } : Room) (va_Pc ([.ref h0, .int (nI i), .int (nI r)] : List Value) (m_B D tI tZ tL h0 ad σ)) (u_Q (some (.int 0)) (m_P D tI tZ h0 ad (s_set (s_set σ 0 0) 0 2)) (m_A h0 ad)) 0 0 (m_A h0 ad) := by
  refine u_met (cc := cX1_hold) (maxL := 3) (ret := (some .int)) (by decide) rfl (Nat.le_of_ble_eq_true rfl) ?_
  intro p e s m below meth c hx hb hml hr hts hown hlocks hB hS ls hl
  have hD : ∀ σ : ST, va_D (m_A h0 ad) (m_W tI tZ h0 ad σ) := fun σ => m_D σ hn (fun _ h => h)
  have hown : s.vm.findClass RX1 = some m.cls := hown
  obtain ⟨hP, hK⟩ := hB
  have hl : lv_has ls 3 [(0, .ref h0), (1, .int (nI i)), (2, .int (nI r))] := hl
  have hin : ∀ w ∈ wsX10, w ∈ wsX1_hold := in_X1_hold
  have hl_holds : ml_holds ∈ wsX1_hold := by decide +kernel
  have hl_state : ml_state ∈ wsX1_hold := by decide +kernel
  have hl_thrown : ml_thrown ∈ wsX1_hold := by decide +kernel
  have key : ∀ (H : Heap) (locs : List Loc), va_P D vwCl (m_W tI tZ h0 ad σ) H → va_S (m_A h0 ad) s.heap H locs → ∀ ls, lv_has ls 3 [(0, .ref h0), (1, .int (nI i)), (2, .int (nI r))] → u_G p l e ({ frames := 2, cells := 0, slots := 0, locals := 43 } : Room) s m ([.ref h0, .int (nI i), .int (nI r)] : List Value).toArray below meth c H locs (some (.int 0)) (m_P D tI tZ h0 ad (s_set (s_set σ 0 0) 0 2)) (m_A h0 ad) (F0 m 0 ls []) := by
    intro H locs hP hS ls hl
    refine lv_aload_n hx hb dX1_hold_0 rfl (lv_at hl 0 rfl) ?_
    refine lv_iconst (v := 0) hx hb dX1_hold_1 (by decide) ?_
    refine mp_thrown hx hb hts hin hown hK hP (hD _) hS hl_thrown dX1_hold_2 (fun H locs hP hS => ?_)
    refine lv_iload_n hx hb dX1_hold_5 rfl (lv_at hl 1 rfl) ?_
    refine lv_iconst (v := 0) hx hb dX1_hold_6 (by decide) ?_
    refine lv_iconst (v := 5) hx hb dX1_hold_7 (by decide) ?_
    refine k_X1_in (nI i) 0 5 ⟨hx, hb, hml, hown, hts⟩ gX1_hold_X1_in ⟨Nat.le_of_ble_eq_true rfl, Nat.le_of_ble_eq_true rfl⟩ hl.1 ⟨Nat.zero_le _, Nat.zero_le _⟩ (Nat.le_of_ble_eq_true rfl) dX1_hold_8 ?_
    refine lv_ifeq_b (tgt := 22) hx hb dX1_hold_11 (by decide) (fun c11 => absurd c11 (ne_f (m_in_t (n := 6) (by decide) hi6 (by decide)))) (fun c11 => ?_)
    refine lv_aload_n hx hb dX1_hold_14 rfl (lv_at hl 0 rfl) ?_
    refine lv_iload_n hx hb dX1_hold_15 rfl (lv_at hl 2 rfl) ?_
    refine k_X1_isRecord D tI tZ tL h0 ad (s_set σ 0 0) (nI r) ⟨hx, hb, hml, hown, hts⟩ gX1_hold_X1_isRecord ⟨Nat.le_of_ble_eq_true rfl, Nat.le_of_ble_eq_true rfl⟩ hl.1 ⟨Nat.zero_le _, Nat.zero_le _⟩ (Nat.le_of_ble_eq_true rfl) hK hP dX1_hold_16 ?_
    refine lv_ifne_b (tgt := 28) hx hb dX1_hold_19 (by decide) (fun c19 => ?_) (fun c19 => absurd c19 (ne_f (m_in_t (n := nr) (by show σ.1 7 - 1 = _; rw [hnr]) hrn (by omega))))
    refine lv_aload_n hx hb dX1_hold_28 rfl (lv_at hl 0 rfl) ?_
    refine mg_state hx hb hts hin hown hK hP hl_state dX1_hold_29 ?_
    refine lv_iload_n hx hb dX1_hold_32 rfl (lv_at hl 2 rfl) ?_
    refine mr_state (j := r) hx hb hK hP (by omega) dX1_hold_33 ?_
    refine lv_iconst (v := 2) hx hb dX1_hold_34 (by decide) ?_
    refine lv_icmp_eq (tgt := 51) hx hb dX1_hold_35 (by decide) (fun c35 => ?_) (fun c35 => ?_)
    · refine lv_aload_n hx hb dX1_hold_51 rfl (lv_at hl 0 rfl) ?_
      refine lv_iconst (v := 2) hx hb dX1_hold_52 (by decide) ?_
      refine k_X1_fails D tI tZ tL h0 ad (s_set σ 0 0) 2 ⟨hx, hb, hml, hown, hts⟩ gX1_hold_X1_fails ⟨Nat.le_of_ble_eq_true rfl, Nat.le_of_ble_eq_true rfl⟩ hl.1 ⟨Nat.zero_le _, Nat.zero_le _⟩ (Nat.le_of_ble_eq_true rfl) hn hK hP hS (fun q h => h) dX1_hold_53 (fun H locs hP _ _ hS => ?_)
      exact u_iret hx hb hr hlocks hS (hP) (rfl) dX1_hold_56
    · refine lv_aload_n hx hb dX1_hold_38 rfl (lv_at hl 0 rfl) ?_
      refine mg_holds hx hb hts hin hown hK hP hl_holds dX1_hold_39 ?_
      refine lv_iload_n hx hb dX1_hold_42 rfl (lv_at hl 1 rfl) ?_
      refine mr_holds (j := i) hx hb hK hP (by omega) dX1_hold_43 ?_
      refine lv_iload_n hx hb dX1_hold_44 rfl (lv_at hl 2 rfl) ?_
      refine k_X1_has (σ.2 14 i) r (by omega) ⟨hx, hb, hml, hown, hts⟩ gX1_hold_X1_has ⟨Nat.le_of_ble_eq_true rfl, Nat.le_of_ble_eq_true rfl⟩ hl.1 ⟨Nat.zero_le _, Nat.zero_le _⟩ (Nat.le_of_ble_eq_true rfl) dX1_hold_45 ?_
      refine lv_ifeq_b (tgt := 57) hx hb dX1_hold_48 (by decide) (fun c48 => absurd c48 (hbad.elim (fun h => absurd h c35) (fun h => by rw [h]; decide))) (fun c48 => ?_)
      refine lv_aload_n hx hb dX1_hold_51 rfl (lv_at hl 0 rfl) ?_
      refine lv_iconst (v := 2) hx hb dX1_hold_52 (by decide) ?_
      refine k_X1_fails D tI tZ tL h0 ad (s_set σ 0 0) 2 ⟨hx, hb, hml, hown, hts⟩ gX1_hold_X1_fails ⟨Nat.le_of_ble_eq_true rfl, Nat.le_of_ble_eq_true rfl⟩ hl.1 ⟨Nat.zero_le _, Nat.zero_le _⟩ (Nat.le_of_ble_eq_true rfl) hn hK hP hS (fun q h => h) dX1_hold_53 (fun H locs hP _ _ hS => ?_)
      exact u_iret hx hb hr hlocks hS (hP) (rfl) dX1_hold_56
  exact key _ _ hP hS ls hl
theorem k_X1_hold_g {p : Program} {l : Launch} {e : Env} {R : Room} {s : State} {m : MethodId} {args : Array Value} {below : List Frame} {meth : Method} {c : Code} {H : Heap} {locs : List Loc} {cells slots : Nat} {Q : State → Prop} {cc : ByteArray} {pc : Nat} {ls : Array Slot} {rest : List Value} {Ts : List Cond} (D : va_G) (tI tZ tL : ClassId) (h0 : Nat) (ad : Nat → Nat) (σ : ST) (i r : Nat) (nr : Nat) (hnr : σ.1 7 = nI nr) (hn30 : nr ≤ 30) (hrn : r < nr) (hi6 : i < 6) (hbad : σ.2 12 r = 2 ∨ bt (σ.2 14 i) r = true) {A0 : Nat → Prop} {H0 : Heap} {own : String} {idx nL : Nat} (S : CallFix p m c cc nL s args Ts own) (hG : GoodIn Ts (wsV own idx RX1 yX1_hold wsX1_hold)) (hR : ({ frames := 2, cells := 0, slots := 0, locals := 43 } : Room).frames + 1 ≤ R.frames ∧ 8 + (3 + 11) + ({ frames := 2, cells := 0, slots := 0, locals := 43 } : Room).locals ≤ R.locals) (hsz : ls.size = nL) (hcap : cells ≤ R.cells ∧ slots ≤ R.slots) (hrm : (rest.map fun v => v.category).sum ≤ 8) (hn : (m_L h0 ad).Nodup) (hK : va_K D vwCl (kTY tI tZ tL) s) (hP : va_P D vwCl (m_W tI tZ h0 ad σ) H) (hS : va_S A0 H0 H locs) (hA : ∀ q, m_A h0 ad q → A0 q) (hdg : decode cc pc = .ok (.invokevirtual idx, 3)) (kk : ∀ (H1 : Heap) (locs1 : List Loc), va_P D vwCl (m_W tI tZ h0 ad (s_set (s_set σ 0 0) 0 2)) H1 → H.size ≤ H1.size → (∀ q : Nat, q < H.size → ¬ m_A h0 ad q → H1[q]? = H[q]?) → va_S A0 H0 H1 locs1 → W p l e R s m args below meth c H1 locs1 cells slots Q (F0 m (pc + 3) ls (.int 0 :: rest))) : W p l e R s m args below meth c H locs cells slots Q (F0 m pc ls (.int (nI r) :: .int (nI i) :: .ref h0 :: rest)) :=
  u_call (va_runV (As := [.int (nI i), .int (nI r)]) (rest := rest) S (c_X1_hold_g l D tI tZ tL h0 ad σ i r nr hnr hn30 hrn hi6 hbad hn) (cwV 2 S.2.2.2.2 hG rfl rfl rfl (by decide +kernel) hR) (m_pre hK hP) rfl rfl hsz rfl (lv_room hrm) hdg hcap) hS hA hA kk

set_option maxHeartbeats 4000000 in
set_option maxRecDepth 100000 in
theorem c_X1_hold (l : Launch) (D : va_G) (tI tZ tL : ClassId) (h0 : Nat) (ad : Nat → Nat) (σ : ST) (i r : Nat) (nr : Nat) (hnr : σ.1 7 = nI nr) (hn30 : nr ≤ 30) (hrn : r < nr) (hi6 : i < 6) (her : ¬ σ.2 12 r = 2) (hho : bt (σ.2 14 i) r = false) (hn : (m_L h0 ad).Nodup) : Met l yX1_hold wsX1_hold ({ frames := 2, cells := 0, slots := 0, locals := 43 } : Room) (va_Pc ([.ref h0, .int (nI i), .int (nI r)] : List Value) (m_B D tI tZ tL h0 ad σ)) (u_Q (some (.int (m_size (σ.2 14 i ||| bI r) 30))) (m_P D tI tZ h0 ad (s_put (s_set σ 0 0) 14 i (σ.2 14 i ||| bI r))) (m_A h0 ad)) 0 0 (m_A h0 ad) := by
  refine u_met (cc := cX1_hold) (maxL := 3) (ret := (some .int)) (by decide) rfl (Nat.le_of_ble_eq_true rfl) ?_
  intro p e s m below meth c hx hb hml hr hts hown hlocks hB hS ls hl
  have hD : ∀ σ : ST, va_D (m_A h0 ad) (m_W tI tZ h0 ad σ) := fun σ => m_D σ hn (fun _ h => h)
  have hown : s.vm.findClass RX1 = some m.cls := hown
  obtain ⟨hP, hK⟩ := hB
  have hl : lv_has ls 3 [(0, .ref h0), (1, .int (nI i)), (2, .int (nI r))] := hl
  have hin : ∀ w ∈ wsX10, w ∈ wsX1_hold := in_X1_hold
  have hl_holds : ml_holds ∈ wsX1_hold := by decide +kernel
  have hl_state : ml_state ∈ wsX1_hold := by decide +kernel
  have hl_thrown : ml_thrown ∈ wsX1_hold := by decide +kernel
  have key : ∀ (H : Heap) (locs : List Loc), va_P D vwCl (m_W tI tZ h0 ad σ) H → va_S (m_A h0 ad) s.heap H locs → ∀ ls, lv_has ls 3 [(0, .ref h0), (1, .int (nI i)), (2, .int (nI r))] → u_G p l e ({ frames := 2, cells := 0, slots := 0, locals := 43 } : Room) s m ([.ref h0, .int (nI i), .int (nI r)] : List Value).toArray below meth c H locs (some (.int (m_size (σ.2 14 i ||| bI r) 30))) (m_P D tI tZ h0 ad (s_put (s_set σ 0 0) 14 i (σ.2 14 i ||| bI r))) (m_A h0 ad) (F0 m 0 ls []) := by
    intro H locs hP hS ls hl
    refine lv_aload_n hx hb dX1_hold_0 rfl (lv_at hl 0 rfl) ?_
    refine lv_iconst (v := 0) hx hb dX1_hold_1 (by decide) ?_
    refine mp_thrown hx hb hts hin hown hK hP (hD _) hS hl_thrown dX1_hold_2 (fun H locs hP hS => ?_)
    refine lv_iload_n hx hb dX1_hold_5 rfl (lv_at hl 1 rfl) ?_
    refine lv_iconst (v := 0) hx hb dX1_hold_6 (by decide) ?_
    refine lv_iconst (v := 5) hx hb dX1_hold_7 (by decide) ?_
    refine k_X1_in (nI i) 0 5 ⟨hx, hb, hml, hown, hts⟩ gX1_hold_X1_in ⟨Nat.le_of_ble_eq_true rfl, Nat.le_of_ble_eq_true rfl⟩ hl.1 ⟨Nat.zero_le _, Nat.zero_le _⟩ (Nat.le_of_ble_eq_true rfl) dX1_hold_8 ?_
    refine lv_ifeq_b (tgt := 22) hx hb dX1_hold_11 (by decide) (fun c11 => absurd c11 (ne_f (m_in_t (n := 6) (by decide) hi6 (by decide)))) (fun c11 => ?_)
    refine lv_aload_n hx hb dX1_hold_14 rfl (lv_at hl 0 rfl) ?_
    refine lv_iload_n hx hb dX1_hold_15 rfl (lv_at hl 2 rfl) ?_
    refine k_X1_isRecord D tI tZ tL h0 ad (s_set σ 0 0) (nI r) ⟨hx, hb, hml, hown, hts⟩ gX1_hold_X1_isRecord ⟨Nat.le_of_ble_eq_true rfl, Nat.le_of_ble_eq_true rfl⟩ hl.1 ⟨Nat.zero_le _, Nat.zero_le _⟩ (Nat.le_of_ble_eq_true rfl) hK hP dX1_hold_16 ?_
    refine lv_ifne_b (tgt := 28) hx hb dX1_hold_19 (by decide) (fun c19 => ?_) (fun c19 => absurd c19 (ne_f (m_in_t (n := nr) (by show σ.1 7 - 1 = _; rw [hnr]) hrn (by omega))))
    refine lv_aload_n hx hb dX1_hold_28 rfl (lv_at hl 0 rfl) ?_
    refine mg_state hx hb hts hin hown hK hP hl_state dX1_hold_29 ?_
    refine lv_iload_n hx hb dX1_hold_32 rfl (lv_at hl 2 rfl) ?_
    refine mr_state (j := r) hx hb hK hP (by omega) dX1_hold_33 ?_
    refine lv_iconst (v := 2) hx hb dX1_hold_34 (by decide) ?_
    refine lv_icmp_eq (tgt := 51) hx hb dX1_hold_35 (by decide) (fun c35 => absurd c35 her) (fun c35 => ?_)
    refine lv_aload_n hx hb dX1_hold_38 rfl (lv_at hl 0 rfl) ?_
    refine mg_holds hx hb hts hin hown hK hP hl_holds dX1_hold_39 ?_
    refine lv_iload_n hx hb dX1_hold_42 rfl (lv_at hl 1 rfl) ?_
    refine mr_holds (j := i) hx hb hK hP (by omega) dX1_hold_43 ?_
    refine lv_iload_n hx hb dX1_hold_44 rfl (lv_at hl 2 rfl) ?_
    refine k_X1_has (σ.2 14 i) r (by omega) ⟨hx, hb, hml, hown, hts⟩ gX1_hold_X1_has ⟨Nat.le_of_ble_eq_true rfl, Nat.le_of_ble_eq_true rfl⟩ hl.1 ⟨Nat.zero_le _, Nat.zero_le _⟩ (Nat.le_of_ble_eq_true rfl) dX1_hold_45 ?_
    refine lv_ifeq_b (tgt := 57) hx hb dX1_hold_48 (by decide) (fun c48 => ?_) (fun c48 => absurd c48 (by first | exact ne_t hho | exact ne_f hho))
    refine lv_aload_n hx hb dX1_hold_57 rfl (lv_at hl 0 rfl) ?_
    refine mg_holds hx hb hts hin hown hK hP hl_holds dX1_hold_58 ?_
    refine lv_iload_n hx hb dX1_hold_61 rfl (lv_at hl 1 rfl) ?_
    refine lv_dup2_11 hx hb dX1_hold_62 rfl rfl ?_
    refine mr_holds (j := i) hx hb hK hP (by omega) dX1_hold_63 ?_
    refine lv_iconst (v := 1) hx hb dX1_hold_64 (by decide) ?_
    refine lv_iload_n hx hb dX1_hold_65 rfl (lv_at hl 2 rfl) ?_
    refine lv_ishl hx hb dX1_hold_66 ?_
    refine lv_ior hx hb dX1_hold_67 ?_
    refine mw_holds (j := i) hx hb hK hP (hD _) hS (by omega) dX1_hold_68 (fun H locs hP hS => ?_)
    refine lv_aload_n hx hb dX1_hold_69 rfl (lv_at hl 0 rfl) ?_
    refine mg_holds hx hb hts hin hown hK hP hl_holds dX1_hold_70 ?_
    refine lv_iload_n hx hb dX1_hold_73 rfl (lv_at hl 1 rfl) ?_
    refine mr_holds (j := i) hx hb hK hP (by omega) dX1_hold_74 ?_
    refine lv_topc (y := σ.2 14 i ||| bI r) (s_put_self) ?_
    refine k_X1_sizeOf (σ.2 14 i ||| bI r) ⟨hx, hb, hml, hown, hts⟩ gX1_hold_X1_sizeOf ⟨Nat.le_of_ble_eq_true rfl, Nat.le_of_ble_eq_true rfl⟩ hl.1 ⟨Nat.zero_le _, Nat.zero_le _⟩ (Nat.le_of_ble_eq_true rfl) dX1_hold_75 ?_
    exact u_iret hx hb hr hlocks hS (hP) (rfl) dX1_hold_78
  exact key _ _ hP hS ls hl
theorem k_X1_hold {p : Program} {l : Launch} {e : Env} {R : Room} {s : State} {m : MethodId} {args : Array Value} {below : List Frame} {meth : Method} {c : Code} {H : Heap} {locs : List Loc} {cells slots : Nat} {Q : State → Prop} {cc : ByteArray} {pc : Nat} {ls : Array Slot} {rest : List Value} {Ts : List Cond} (D : va_G) (tI tZ tL : ClassId) (h0 : Nat) (ad : Nat → Nat) (σ : ST) (i r : Nat) (nr : Nat) (hnr : σ.1 7 = nI nr) (hn30 : nr ≤ 30) (hrn : r < nr) (hi6 : i < 6) (her : ¬ σ.2 12 r = 2) (hho : bt (σ.2 14 i) r = false) {A0 : Nat → Prop} {H0 : Heap} {own : String} {idx nL : Nat} (S : CallFix p m c cc nL s args Ts own) (hG : GoodIn Ts (wsV own idx RX1 yX1_hold wsX1_hold)) (hR : ({ frames := 2, cells := 0, slots := 0, locals := 43 } : Room).frames + 1 ≤ R.frames ∧ 8 + (3 + 11) + ({ frames := 2, cells := 0, slots := 0, locals := 43 } : Room).locals ≤ R.locals) (hsz : ls.size = nL) (hcap : cells ≤ R.cells ∧ slots ≤ R.slots) (hrm : (rest.map fun v => v.category).sum ≤ 8) (hn : (m_L h0 ad).Nodup) (hK : va_K D vwCl (kTY tI tZ tL) s) (hP : va_P D vwCl (m_W tI tZ h0 ad σ) H) (hS : va_S A0 H0 H locs) (hA : ∀ q, m_A h0 ad q → A0 q) (hdg : decode cc pc = .ok (.invokevirtual idx, 3)) (kk : ∀ (H1 : Heap) (locs1 : List Loc), va_P D vwCl (m_W tI tZ h0 ad (s_put (s_set σ 0 0) 14 i (σ.2 14 i ||| bI r))) H1 → H.size ≤ H1.size → (∀ q : Nat, q < H.size → ¬ m_A h0 ad q → H1[q]? = H[q]?) → va_S A0 H0 H1 locs1 → W p l e R s m args below meth c H1 locs1 cells slots Q (F0 m (pc + 3) ls (.int (m_size (σ.2 14 i ||| bI r) 30) :: rest))) : W p l e R s m args below meth c H locs cells slots Q (F0 m pc ls (.int (nI r) :: .int (nI i) :: .ref h0 :: rest)) :=
  u_call (va_runV (As := [.int (nI i), .int (nI r)]) (rest := rest) S (c_X1_hold l D tI tZ tL h0 ad σ i r nr hnr hn30 hrn hi6 her hho hn) (cwV 2 S.2.2.2.2 hG rfl rfl rfl (by decide +kernel) hR) (m_pre hK hP) rfl rfl hsz rfl (lv_room hrm) hdg hcap) hS hA hA kk

set_option maxHeartbeats 4000000 in
set_option maxRecDepth 100000 in
theorem c_X1_close_f (l : Launch) (D : va_G) (tI tZ tL : ClassId) (h0 : Nat) (ad : Nat → Nat) (σ : ST) (v : Int32) (hbad : m_in v 0 5 = false) (hn : (m_L h0 ad).Nodup) : Met l yX1_close wsX1_close ({ frames := 1, cells := 0, slots := 0, locals := 22 } : Room) (va_Pc ([.ref h0, .int v] : List Value) (m_B D tI tZ tL h0 ad σ)) (u_Q (some (.int 0)) (m_P D tI tZ h0 ad (s_set (s_set σ 0 0) 0 1)) (m_A h0 ad)) 0 0 (m_A h0 ad) := by
  refine u_met (cc := cX1_close) (maxL := 3) (ret := (some .int)) (by decide) rfl (Nat.le_of_ble_eq_true rfl) ?_
  intro p e s m below meth c hx hb hml hr hts hown hlocks hB hS ls hl
  have hD : ∀ σ : ST, va_D (m_A h0 ad) (m_W tI tZ h0 ad σ) := fun σ => m_D σ hn (fun _ h => h)
  have hown : s.vm.findClass RX1 = some m.cls := hown
  obtain ⟨hP, hK⟩ := hB
  have hl : lv_has ls 3 [(0, .ref h0), (1, .int v)] := hl
  have hin : ∀ w ∈ wsX10, w ∈ wsX1_close := in_X1_close
  have hl_thrown : ml_thrown ∈ wsX1_close := by decide +kernel
  have key : ∀ (H : Heap) (locs : List Loc), va_P D vwCl (m_W tI tZ h0 ad σ) H → va_S (m_A h0 ad) s.heap H locs → ∀ ls, lv_has ls 3 [(0, .ref h0), (1, .int v)] → u_G p l e ({ frames := 1, cells := 0, slots := 0, locals := 22 } : Room) s m ([.ref h0, .int v] : List Value).toArray below meth c H locs (some (.int 0)) (m_P D tI tZ h0 ad (s_set (s_set σ 0 0) 0 1)) (m_A h0 ad) (F0 m 0 ls []) := by
    intro H locs hP hS ls hl
    refine lv_aload_n hx hb dX1_close_0 rfl (lv_at hl 0 rfl) ?_
    refine lv_iconst (v := 0) hx hb dX1_close_1 (by decide) ?_
    refine mp_thrown hx hb hts hin hown hK hP (hD _) hS hl_thrown dX1_close_2 (fun H locs hP hS => ?_)
    refine lv_iload_n hx hb dX1_close_5 rfl (lv_at hl 1 rfl) ?_
    refine lv_iconst (v := 0) hx hb dX1_close_6 (by decide) ?_
    refine lv_iconst (v := 5) hx hb dX1_close_7 (by decide) ?_
    refine k_X1_in v 0 5 ⟨hx, hb, hml, hown, hts⟩ gX1_close_X1_in ⟨Nat.le_of_ble_eq_true rfl, Nat.le_of_ble_eq_true rfl⟩ hl.1 ⟨Nat.zero_le _, Nat.zero_le _⟩ (Nat.le_of_ble_eq_true rfl) dX1_close_8 ?_
    refine lv_ifne_b (tgt := 20) hx hb dX1_close_11 (by decide) (fun c11 => absurd c11 (by first | exact ne_t hbad | exact ne_f hbad)) (fun c11 => ?_)
    refine lv_aload_n hx hb dX1_close_14 rfl (lv_at hl 0 rfl) ?_
    refine lv_iconst (v := 1) hx hb dX1_close_15 (by decide) ?_
    refine k_X1_fails D tI tZ tL h0 ad (s_set σ 0 0) 1 ⟨hx, hb, hml, hown, hts⟩ gX1_close_X1_fails ⟨Nat.le_of_ble_eq_true rfl, Nat.le_of_ble_eq_true rfl⟩ hl.1 ⟨Nat.zero_le _, Nat.zero_le _⟩ (Nat.le_of_ble_eq_true rfl) hn hK hP hS (fun q h => h) dX1_close_16 (fun H locs hP _ _ hS => ?_)
    exact u_iret hx hb hr hlocks hS (hP) (rfl) dX1_close_19
  exact key _ _ hP hS ls hl
theorem k_X1_close_f {p : Program} {l : Launch} {e : Env} {R : Room} {s : State} {m : MethodId} {args : Array Value} {below : List Frame} {meth : Method} {c : Code} {H : Heap} {locs : List Loc} {cells slots : Nat} {Q : State → Prop} {cc : ByteArray} {pc : Nat} {ls : Array Slot} {rest : List Value} {Ts : List Cond} (D : va_G) (tI tZ tL : ClassId) (h0 : Nat) (ad : Nat → Nat) (σ : ST) (v : Int32) (hbad : m_in v 0 5 = false) {A0 : Nat → Prop} {H0 : Heap} {own : String} {idx nL : Nat} (S : CallFix p m c cc nL s args Ts own) (hG : GoodIn Ts (wsV own idx RX1 yX1_close wsX1_close)) (hR : ({ frames := 1, cells := 0, slots := 0, locals := 22 } : Room).frames + 1 ≤ R.frames ∧ 8 + (3 + 11) + ({ frames := 1, cells := 0, slots := 0, locals := 22 } : Room).locals ≤ R.locals) (hsz : ls.size = nL) (hcap : cells ≤ R.cells ∧ slots ≤ R.slots) (hrm : (rest.map fun v => v.category).sum ≤ 8) (hn : (m_L h0 ad).Nodup) (hK : va_K D vwCl (kTY tI tZ tL) s) (hP : va_P D vwCl (m_W tI tZ h0 ad σ) H) (hS : va_S A0 H0 H locs) (hA : ∀ q, m_A h0 ad q → A0 q) (hdg : decode cc pc = .ok (.invokevirtual idx, 3)) (kk : ∀ (H1 : Heap) (locs1 : List Loc), va_P D vwCl (m_W tI tZ h0 ad (s_set (s_set σ 0 0) 0 1)) H1 → H.size ≤ H1.size → (∀ q : Nat, q < H.size → ¬ m_A h0 ad q → H1[q]? = H[q]?) → va_S A0 H0 H1 locs1 → W p l e R s m args below meth c H1 locs1 cells slots Q (F0 m (pc + 3) ls (.int 0 :: rest))) : W p l e R s m args below meth c H locs cells slots Q (F0 m pc ls (.int v :: .ref h0 :: rest)) :=
  u_call (va_runV (As := [.int v]) (rest := rest) S (c_X1_close_f l D tI tZ tL h0 ad σ v hbad hn) (cwV 1 S.2.2.2.2 hG rfl rfl rfl (by decide +kernel) hR) (m_pre hK hP) rfl rfl hsz rfl (lv_room hrm) hdg hcap) hS hA hA kk

set_option maxHeartbeats 4000000 in
set_option maxRecDepth 100000 in
theorem c_X1_close (l : Launch) (D : va_G) (tI tZ tL : ClassId) (h0 : Nat) (ad : Nat → Nat) (σ : ST) (i : Nat) (hi6 : i < 6) (hn : (m_L h0 ad).Nodup) : Met l yX1_close wsX1_close ({ frames := 1, cells := 0, slots := 0, locals := 22 } : Room) (va_Pc ([.ref h0, .int (nI i)] : List Value) (m_B D tI tZ tL h0 ad σ)) (u_Q (some (.int (m_size (x_held (σ.2 14) 6) 30 - m_size (x_held ((s_put (s_set σ 0 0) 14 i 0).2 14) 6) 30))) (m_P D tI tZ h0 ad (s_put (s_set σ 0 0) 14 i 0)) (m_A h0 ad)) 0 0 (m_A h0 ad) := by
  refine u_met (cc := cX1_close) (maxL := 3) (ret := (some .int)) (by decide) rfl (Nat.le_of_ble_eq_true rfl) ?_
  intro p e s m below meth c hx hb hml hr hts hown hlocks hB hS ls hl
  have hD : ∀ σ : ST, va_D (m_A h0 ad) (m_W tI tZ h0 ad σ) := fun σ => m_D σ hn (fun _ h => h)
  have hown : s.vm.findClass RX1 = some m.cls := hown
  obtain ⟨hP, hK⟩ := hB
  have hl : lv_has ls 3 [(0, .ref h0), (1, .int (nI i))] := hl
  have hin : ∀ w ∈ wsX10, w ∈ wsX1_close := in_X1_close
  have hl_holds : ml_holds ∈ wsX1_close := by decide +kernel
  have hl_thrown : ml_thrown ∈ wsX1_close := by decide +kernel
  have key : ∀ (H : Heap) (locs : List Loc), va_P D vwCl (m_W tI tZ h0 ad σ) H → va_S (m_A h0 ad) s.heap H locs → ∀ ls, lv_has ls 3 [(0, .ref h0), (1, .int (nI i))] → u_G p l e ({ frames := 1, cells := 0, slots := 0, locals := 22 } : Room) s m ([.ref h0, .int (nI i)] : List Value).toArray below meth c H locs (some (.int (m_size (x_held (σ.2 14) 6) 30 - m_size (x_held ((s_put (s_set σ 0 0) 14 i 0).2 14) 6) 30))) (m_P D tI tZ h0 ad (s_put (s_set σ 0 0) 14 i 0)) (m_A h0 ad) (F0 m 0 ls []) := by
    intro H locs hP hS ls hl
    refine lv_aload_n hx hb dX1_close_0 rfl (lv_at hl 0 rfl) ?_
    refine lv_iconst (v := 0) hx hb dX1_close_1 (by decide) ?_
    refine mp_thrown hx hb hts hin hown hK hP (hD _) hS hl_thrown dX1_close_2 (fun H locs hP hS => ?_)
    refine lv_iload_n hx hb dX1_close_5 rfl (lv_at hl 1 rfl) ?_
    refine lv_iconst (v := 0) hx hb dX1_close_6 (by decide) ?_
    refine lv_iconst (v := 5) hx hb dX1_close_7 (by decide) ?_
    refine k_X1_in (nI i) 0 5 ⟨hx, hb, hml, hown, hts⟩ gX1_close_X1_in ⟨Nat.le_of_ble_eq_true rfl, Nat.le_of_ble_eq_true rfl⟩ hl.1 ⟨Nat.zero_le _, Nat.zero_le _⟩ (Nat.le_of_ble_eq_true rfl) dX1_close_8 ?_
    refine lv_ifne_b (tgt := 20) hx hb dX1_close_11 (by decide) (fun c11 => ?_) (fun c11 => absurd c11 (ne_f (m_in_t (n := 6) (by decide) hi6 (by decide))))
    refine lv_aload_n hx hb dX1_close_20 rfl (lv_at hl 0 rfl) ?_
    refine k_X1_heldSet D tI tZ tL h0 ad (s_set σ 0 0)  ⟨hx, hb, hml, hown, hts⟩ gX1_close_X1_heldSet ⟨Nat.le_of_ble_eq_true rfl, Nat.le_of_ble_eq_true rfl⟩ hl.1 ⟨Nat.zero_le _, Nat.zero_le _⟩ (Nat.le_of_ble_eq_true rfl) hK hP dX1_close_21 ?_
    refine k_X1_sizeOf (x_held (σ.2 14) 6) ⟨hx, hb, hml, hown, hts⟩ gX1_close_X1_sizeOf ⟨Nat.le_of_ble_eq_true rfl, Nat.le_of_ble_eq_true rfl⟩ hl.1 ⟨Nat.zero_le _, Nat.zero_le _⟩ (Nat.le_of_ble_eq_true rfl) dX1_close_24 ?_
    refine lv_istore_n (lv' := [(2, .int (m_size (x_held (σ.2 14) 6) 30)), (0, .ref h0), (1, .int (nI i))]) hx hb dX1_close_27 rfl hl (by decide) rfl (fun ls hl => ?_)
    refine lv_aload_n hx hb dX1_close_28 rfl (lv_at hl 1 rfl) ?_
    refine mg_holds hx hb hts hin hown hK hP hl_holds dX1_close_29 ?_
    refine lv_iload_n hx hb dX1_close_32 rfl (lv_at hl 2 rfl) ?_
    refine lv_iconst (v := 0) hx hb dX1_close_33 (by decide) ?_
    refine mw_holds (j := i) hx hb hK hP (hD _) hS (by omega) dX1_close_34 (fun H locs hP hS => ?_)
    refine lv_iload_n hx hb dX1_close_35 rfl (lv_at hl 0 rfl) ?_
    refine lv_aload_n hx hb dX1_close_36 rfl (lv_at hl 1 rfl) ?_
    refine k_X1_heldSet D tI tZ tL h0 ad (s_put (s_set σ 0 0) 14 i 0)  ⟨hx, hb, hml, hown, hts⟩ gX1_close_X1_heldSet ⟨Nat.le_of_ble_eq_true rfl, Nat.le_of_ble_eq_true rfl⟩ hl.1 ⟨Nat.zero_le _, Nat.zero_le _⟩ (Nat.le_of_ble_eq_true rfl) hK hP dX1_close_37 ?_
    refine k_X1_sizeOf (x_held ((s_put (s_set σ 0 0) 14 i 0).2 14) 6) ⟨hx, hb, hml, hown, hts⟩ gX1_close_X1_sizeOf ⟨Nat.le_of_ble_eq_true rfl, Nat.le_of_ble_eq_true rfl⟩ hl.1 ⟨Nat.zero_le _, Nat.zero_le _⟩ (Nat.le_of_ble_eq_true rfl) dX1_close_40 ?_
    refine lv_isub hx hb dX1_close_43 ?_
    exact u_iret hx hb hr hlocks hS (hP) (rfl) dX1_close_44
  exact key _ _ hP hS ls hl
theorem k_X1_close {p : Program} {l : Launch} {e : Env} {R : Room} {s : State} {m : MethodId} {args : Array Value} {below : List Frame} {meth : Method} {c : Code} {H : Heap} {locs : List Loc} {cells slots : Nat} {Q : State → Prop} {cc : ByteArray} {pc : Nat} {ls : Array Slot} {rest : List Value} {Ts : List Cond} (D : va_G) (tI tZ tL : ClassId) (h0 : Nat) (ad : Nat → Nat) (σ : ST) (i : Nat) (hi6 : i < 6) {A0 : Nat → Prop} {H0 : Heap} {own : String} {idx nL : Nat} (S : CallFix p m c cc nL s args Ts own) (hG : GoodIn Ts (wsV own idx RX1 yX1_close wsX1_close)) (hR : ({ frames := 1, cells := 0, slots := 0, locals := 22 } : Room).frames + 1 ≤ R.frames ∧ 8 + (3 + 11) + ({ frames := 1, cells := 0, slots := 0, locals := 22 } : Room).locals ≤ R.locals) (hsz : ls.size = nL) (hcap : cells ≤ R.cells ∧ slots ≤ R.slots) (hrm : (rest.map fun v => v.category).sum ≤ 8) (hn : (m_L h0 ad).Nodup) (hK : va_K D vwCl (kTY tI tZ tL) s) (hP : va_P D vwCl (m_W tI tZ h0 ad σ) H) (hS : va_S A0 H0 H locs) (hA : ∀ q, m_A h0 ad q → A0 q) (hdg : decode cc pc = .ok (.invokevirtual idx, 3)) (kk : ∀ (H1 : Heap) (locs1 : List Loc), va_P D vwCl (m_W tI tZ h0 ad (s_put (s_set σ 0 0) 14 i 0)) H1 → H.size ≤ H1.size → (∀ q : Nat, q < H.size → ¬ m_A h0 ad q → H1[q]? = H[q]?) → va_S A0 H0 H1 locs1 → W p l e R s m args below meth c H1 locs1 cells slots Q (F0 m (pc + 3) ls (.int (m_size (x_held (σ.2 14) 6) 30 - m_size (x_held ((s_put (s_set σ 0 0) 14 i 0).2 14) 6) 30) :: rest))) : W p l e R s m args below meth c H locs cells slots Q (F0 m pc ls (.int (nI i) :: .ref h0 :: rest)) :=
  u_call (va_runV (As := [.int (nI i)]) (rest := rest) S (c_X1_close l D tI tZ tL h0 ad σ i hi6 hn) (cwV 1 S.2.2.2.2 hG rfl rfl rfl (by decide +kernel) hR) (m_pre hK hP) rfl rfl hsz rfl (lv_room hrm) hdg hcap) hS hA hA kk

set_option maxHeartbeats 4000000 in
set_option maxRecDepth 100000 in
theorem c_X1_erase_n (l : Launch) (D : va_G) (tI tZ tL : ClassId) (h0 : Nat) (ad : Nat → Nat) (σ : ST) (nr : Nat) (hnr : σ.1 7 = nI nr) (hn30 : nr ≤ 30) (hno : m_fo σ.2 nr nr = none) (hn : (m_L h0 ad).Nodup) : Met l yX1_erase wsX1_erase ({ frames := 4, cells := 0, slots := 0, locals := 90 } : Room) (va_Pc ([.ref h0] : List Value) (m_B D tI tZ tL h0 ad σ)) (u_Q (some (.int (-1))) (m_P D tI tZ h0 ad (s_set σ 0 0)) (m_A h0 ad)) 0 0 (m_A h0 ad) := by
  refine u_met (cc := cX1_erase) (maxL := 1) (ret := (some .int)) (by decide) rfl (Nat.le_of_ble_eq_true rfl) ?_
  intro p e s m below meth c hx hb hml hr hts hown hlocks hB hS ls hl
  have hD : ∀ σ : ST, va_D (m_A h0 ad) (m_W tI tZ h0 ad σ) := fun σ => m_D σ hn (fun _ h => h)
  have hown : s.vm.findClass RX1 = some m.cls := hown
  obtain ⟨hP, hK⟩ := hB
  have hl : lv_has ls 1 [(0, .ref h0)] := hl
  have hin : ∀ w ∈ wsX10, w ∈ wsX1_erase := in_X1_erase
  have hl_thrown : ml_thrown ∈ wsX1_erase := by decide +kernel
  have key : ∀ (H : Heap) (locs : List Loc), va_P D vwCl (m_W tI tZ h0 ad σ) H → va_S (m_A h0 ad) s.heap H locs → ∀ ls, lv_has ls 1 [(0, .ref h0)] → u_G p l e ({ frames := 4, cells := 0, slots := 0, locals := 90 } : Room) s m ([.ref h0] : List Value).toArray below meth c H locs (some (.int (-1))) (m_P D tI tZ h0 ad (s_set σ 0 0)) (m_A h0 ad) (F0 m 0 ls []) := by
    intro H locs hP hS ls hl
    refine lv_aload_n hx hb dX1_erase_0 rfl (lv_at hl 0 rfl) ?_
    refine lv_iconst (v := 0) hx hb dX1_erase_1 (by decide) ?_
    refine mp_thrown hx hb hts hin hown hK hP (hD _) hS hl_thrown dX1_erase_2 (fun H locs hP hS => ?_)
    refine lv_aload_n hx hb dX1_erase_5 rfl (lv_at hl 0 rfl) ?_
    refine k_X1_eraseOne_n D tI tZ tL h0 ad (s_set σ 0 0) nr hnr hn30 (hno) ⟨hx, hb, hml, hown, hts⟩ gX1_erase_X1_eraseOne ⟨Nat.le_of_ble_eq_true rfl, Nat.le_of_ble_eq_true rfl⟩ hl.1 ⟨Nat.zero_le _, Nat.zero_le _⟩ (Nat.le_of_ble_eq_true rfl) hn hK hP hS (fun q h => h) dX1_erase_6 (fun H locs hP _ _ hS => ?_)
    exact u_iret hx hb hr hlocks hS (hP) (rfl) dX1_erase_9
  exact key _ _ hP hS ls hl
theorem k_X1_erase_n {p : Program} {l : Launch} {e : Env} {R : Room} {s : State} {m : MethodId} {args : Array Value} {below : List Frame} {meth : Method} {c : Code} {H : Heap} {locs : List Loc} {cells slots : Nat} {Q : State → Prop} {cc : ByteArray} {pc : Nat} {ls : Array Slot} {rest : List Value} {Ts : List Cond} (D : va_G) (tI tZ tL : ClassId) (h0 : Nat) (ad : Nat → Nat) (σ : ST) (nr : Nat) (hnr : σ.1 7 = nI nr) (hn30 : nr ≤ 30) (hno : m_fo σ.2 nr nr = none) {A0 : Nat → Prop} {H0 : Heap} {own : String} {idx nL : Nat} (S : CallFix p m c cc nL s args Ts own) (hG : GoodIn Ts (wsV own idx RX1 yX1_erase wsX1_erase)) (hR : ({ frames := 4, cells := 0, slots := 0, locals := 90 } : Room).frames + 1 ≤ R.frames ∧ 8 + (1 + 11) + ({ frames := 4, cells := 0, slots := 0, locals := 90 } : Room).locals ≤ R.locals) (hsz : ls.size = nL) (hcap : cells ≤ R.cells ∧ slots ≤ R.slots) (hrm : (rest.map fun v => v.category).sum ≤ 8) (hn : (m_L h0 ad).Nodup) (hK : va_K D vwCl (kTY tI tZ tL) s) (hP : va_P D vwCl (m_W tI tZ h0 ad σ) H) (hS : va_S A0 H0 H locs) (hA : ∀ q, m_A h0 ad q → A0 q) (hdg : decode cc pc = .ok (.invokevirtual idx, 3)) (kk : ∀ (H1 : Heap) (locs1 : List Loc), va_P D vwCl (m_W tI tZ h0 ad (s_set σ 0 0)) H1 → H.size ≤ H1.size → (∀ q : Nat, q < H.size → ¬ m_A h0 ad q → H1[q]? = H[q]?) → va_S A0 H0 H1 locs1 → W p l e R s m args below meth c H1 locs1 cells slots Q (F0 m (pc + 3) ls (.int (-1) :: rest))) : W p l e R s m args below meth c H locs cells slots Q (F0 m pc ls (.ref h0 :: rest)) :=
  u_call (va_runV (As := []) (rest := rest) S (c_X1_erase_n l D tI tZ tL h0 ad σ nr hnr hn30 hno hn) (cwV 0 S.2.2.2.2 hG rfl rfl rfl (by decide +kernel) hR) (m_pre hK hP) rfl rfl hsz rfl (lv_room hrm) hdg hcap) hS hA hA kk

set_option maxHeartbeats 4000000 in
set_option maxRecDepth 100000 in
theorem c_X1_erase_s (l : Launch) (D : va_G) (tI tZ tL : ClassId) (h0 : Nat) (ad : Nat → Nat) (σ : ST) (nr : Nat) (hnr : σ.1 7 = nI nr) (hn30 : nr ≤ 30) (j : Nat) (hso : m_fo σ.2 nr nr = some j) (hn : (m_L h0 ad).Nodup) : Met l yX1_erase wsX1_erase ({ frames := 4, cells := 0, slots := 0, locals := 90 } : Room) (va_Pc ([.ref h0] : List Value) (m_B D tI tZ tL h0 ad σ)) (u_Q (some (.int (nI j))) (m_P D tI tZ h0 ad (s_put (s_set σ 0 0) 12 j 2)) (m_A h0 ad)) 0 0 (m_A h0 ad) := by
  refine u_met (cc := cX1_erase) (maxL := 1) (ret := (some .int)) (by decide) rfl (Nat.le_of_ble_eq_true rfl) ?_
  intro p e s m below meth c hx hb hml hr hts hown hlocks hB hS ls hl
  have hD : ∀ σ : ST, va_D (m_A h0 ad) (m_W tI tZ h0 ad σ) := fun σ => m_D σ hn (fun _ h => h)
  have hown : s.vm.findClass RX1 = some m.cls := hown
  obtain ⟨hP, hK⟩ := hB
  have hl : lv_has ls 1 [(0, .ref h0)] := hl
  have hin : ∀ w ∈ wsX10, w ∈ wsX1_erase := in_X1_erase
  have hl_thrown : ml_thrown ∈ wsX1_erase := by decide +kernel
  have key : ∀ (H : Heap) (locs : List Loc), va_P D vwCl (m_W tI tZ h0 ad σ) H → va_S (m_A h0 ad) s.heap H locs → ∀ ls, lv_has ls 1 [(0, .ref h0)] → u_G p l e ({ frames := 4, cells := 0, slots := 0, locals := 90 } : Room) s m ([.ref h0] : List Value).toArray below meth c H locs (some (.int (nI j))) (m_P D tI tZ h0 ad (s_put (s_set σ 0 0) 12 j 2)) (m_A h0 ad) (F0 m 0 ls []) := by
    intro H locs hP hS ls hl
    refine lv_aload_n hx hb dX1_erase_0 rfl (lv_at hl 0 rfl) ?_
    refine lv_iconst (v := 0) hx hb dX1_erase_1 (by decide) ?_
    refine mp_thrown hx hb hts hin hown hK hP (hD _) hS hl_thrown dX1_erase_2 (fun H locs hP hS => ?_)
    refine lv_aload_n hx hb dX1_erase_5 rfl (lv_at hl 0 rfl) ?_
    refine k_X1_eraseOne_s D tI tZ tL h0 ad (s_set σ 0 0) nr hnr hn30 j hso ⟨hx, hb, hml, hown, hts⟩ gX1_erase_X1_eraseOne ⟨Nat.le_of_ble_eq_true rfl, Nat.le_of_ble_eq_true rfl⟩ hl.1 ⟨Nat.zero_le _, Nat.zero_le _⟩ (Nat.le_of_ble_eq_true rfl) hn hK hP hS (fun q h => h) dX1_erase_6 (fun H locs hP _ _ hS => ?_)
    exact u_iret hx hb hr hlocks hS (hP) (rfl) dX1_erase_9
  exact key _ _ hP hS ls hl
theorem k_X1_erase_s {p : Program} {l : Launch} {e : Env} {R : Room} {s : State} {m : MethodId} {args : Array Value} {below : List Frame} {meth : Method} {c : Code} {H : Heap} {locs : List Loc} {cells slots : Nat} {Q : State → Prop} {cc : ByteArray} {pc : Nat} {ls : Array Slot} {rest : List Value} {Ts : List Cond} (D : va_G) (tI tZ tL : ClassId) (h0 : Nat) (ad : Nat → Nat) (σ : ST) (nr : Nat) (hnr : σ.1 7 = nI nr) (hn30 : nr ≤ 30) (j : Nat) (hso : m_fo σ.2 nr nr = some j) {A0 : Nat → Prop} {H0 : Heap} {own : String} {idx nL : Nat} (S : CallFix p m c cc nL s args Ts own) (hG : GoodIn Ts (wsV own idx RX1 yX1_erase wsX1_erase)) (hR : ({ frames := 4, cells := 0, slots := 0, locals := 90 } : Room).frames + 1 ≤ R.frames ∧ 8 + (1 + 11) + ({ frames := 4, cells := 0, slots := 0, locals := 90 } : Room).locals ≤ R.locals) (hsz : ls.size = nL) (hcap : cells ≤ R.cells ∧ slots ≤ R.slots) (hrm : (rest.map fun v => v.category).sum ≤ 8) (hn : (m_L h0 ad).Nodup) (hK : va_K D vwCl (kTY tI tZ tL) s) (hP : va_P D vwCl (m_W tI tZ h0 ad σ) H) (hS : va_S A0 H0 H locs) (hA : ∀ q, m_A h0 ad q → A0 q) (hdg : decode cc pc = .ok (.invokevirtual idx, 3)) (kk : ∀ (H1 : Heap) (locs1 : List Loc), va_P D vwCl (m_W tI tZ h0 ad (s_put (s_set σ 0 0) 12 j 2)) H1 → H.size ≤ H1.size → (∀ q : Nat, q < H.size → ¬ m_A h0 ad q → H1[q]? = H[q]?) → va_S A0 H0 H1 locs1 → W p l e R s m args below meth c H1 locs1 cells slots Q (F0 m (pc + 3) ls (.int (nI j) :: rest))) : W p l e R s m args below meth c H locs cells slots Q (F0 m pc ls (.ref h0 :: rest)) :=
  u_call (va_runV (As := []) (rest := rest) S (c_X1_erase_s l D tI tZ tL h0 ad σ nr hnr hn30 j hso hn) (cwV 0 S.2.2.2.2 hG rfl rfl rfl (by decide +kernel) hR) (m_pre hK hP) rfl rfl hsz rfl (lv_room hrm) hdg hcap) hS hA hA kk


set_option maxHeartbeats 4000000 in
set_option maxRecDepth 100000 in
theorem c_X1_eraseAll (l : Launch) (D : va_G) (tI tZ tL : ClassId) (h0 : Nat) (ad : Nat → Nat) (σ : ST) (nr : Nat) (hnr : σ.1 7 = nI nr) (hn30 : nr ≤ 30) (fuel : Nat) (σ' : ST) (cnt' : Int32) (hrun : m_eaR nr fuel (s_set σ 0 0) 0 = some (σ', cnt')) (hn : (m_L h0 ad).Nodup) : Met l yX1_eraseAll wsX1_eraseAll ({ frames := 4, cells := 0, slots := 0, locals := 90 } : Room) (va_Pc ([.ref h0] : List Value) (m_B D tI tZ tL h0 ad σ)) (u_Q (some (.int cnt')) (m_P D tI tZ h0 ad σ') (m_A h0 ad)) 0 0 (m_A h0 ad) := by
  refine u_met (cc := cX1_eraseAll) (maxL := 2) (ret := (some .int)) (by decide) rfl (Nat.le_of_ble_eq_true rfl) ?_
  intro p e s m below meth c hx hb hml hr hts hown hlocks hB hS ls hl
  have hD : ∀ σ : ST, va_D (m_A h0 ad) (m_W tI tZ h0 ad σ) := fun σ => m_D σ hn (fun _ h => h)
  have hown : s.vm.findClass RX1 = some m.cls := hown
  obtain ⟨hP, hK⟩ := hB
  have hl : lv_has ls 2 [(0, .ref h0)] := hl
  have hin : ∀ w ∈ wsX10, w ∈ wsX1_eraseAll := in_X1_eraseAll
  have hl_thrown : ml_thrown ∈ wsX1_eraseAll := by decide +kernel
  have loop7 : ∀ (n : Nat) (σ1 : ST) (cnt : Int32), σ1.1 7 = nI nr → m_eaR nr n σ1 cnt = some (σ', cnt') → ∀ (H : Heap) (locs : List Loc), va_P D vwCl (m_W tI tZ h0 ad σ1) H → va_S (m_A h0 ad) s.heap H locs → ∀ ls, lv_has ls 2 [(0, .ref h0), (1, .int cnt)] → u_G p l e ({ frames := 4, cells := 0, slots := 0, locals := 90 } : Room) s m ([.ref h0] : List Value).toArray below meth c H locs (some (.int cnt')) (m_P D tI tZ h0 ad σ') (m_A h0 ad) (F0 m 7 ls []) := by
    intro n
    induction n with
    | zero => intro σ1 cnt hnr1 hrun; cases hrun
    | succ n ih =>
      intro σ1 cnt hnr1 hrun H locs hP hS ls hl
      rw [m_eaR] at hrun
      refine lv_aload_n hx hb dX1_eraseAll_7 rfl (lv_at hl 0 rfl) ?_
      cases hfo : m_fo σ1.2 nr nr with
      | none =>
        rw [hfo] at hrun
        obtain ⟨e1, e2⟩ := Prod.mk.inj (Option.some.inj hrun)
        subst e1; subst e2
        refine k_X1_eraseOne_n D tI tZ tL h0 ad σ1 nr hnr1 hn30 hfo ⟨hx, hb, hml, hown, hts⟩ gX1_eraseAll_X1_eraseOne ⟨Nat.le_of_ble_eq_true rfl, Nat.le_of_ble_eq_true rfl⟩ hl.1 ⟨Nat.zero_le _, Nat.zero_le _⟩ (Nat.le_of_ble_eq_true rfl) hn hK hP hS (fun q h => h) dX1_eraseAll_8 (fun H locs hP _ _ hS => ?_)
        refine lv_iconst (v := (-1)) hx hb dX1_eraseAll_11 (by decide) ?_
        refine lv_icmp_eq (tgt := 21) hx hb dX1_eraseAll_12 (by decide) (fun c12 => ?_) (fun c12 => absurd rfl c12)
        refine lv_iload_n hx hb dX1_eraseAll_21 rfl (lv_at hl 1 rfl) ?_
        exact u_iret hx hb hr hlocks hS hP rfl dX1_eraseAll_22
      | some j =>
        rw [hfo] at hrun
        refine k_X1_eraseOne_s D tI tZ tL h0 ad σ1 nr hnr1 hn30 j hfo ⟨hx, hb, hml, hown, hts⟩ gX1_eraseAll_X1_eraseOne ⟨Nat.le_of_ble_eq_true rfl, Nat.le_of_ble_eq_true rfl⟩ hl.1 ⟨Nat.zero_le _, Nat.zero_le _⟩ (Nat.le_of_ble_eq_true rfl) hn hK hP hS (fun q h => h) dX1_eraseAll_8 (fun H locs hP _ _ hS => ?_)
        refine lv_iconst (v := (-1)) hx hb dX1_eraseAll_11 (by decide) ?_
        refine lv_icmp_eq (tgt := 21) hx hb dX1_eraseAll_12 (by decide) (fun c12 => absurd c12 (nI_ne_m1 (by have := m_fo_lt nr hfo; omega))) (fun c12 => ?_)
        refine lv_iinc (v := cnt + 1) (lv' := [(1, .int (cnt + 1)), (0, .ref h0)]) hx hb dX1_eraseAll_15 hl (k := 1) rfl rfl (by decide) rfl (fun ls hl => ?_)
        refine lv_goto (tgt := 7) hx hb dX1_eraseAll_18 (by decide) ?_
        exact ih (s_put σ1 12 j 2) (cnt + 1) hnr1 hrun H locs hP hS _ (lv_sub hl [1, 0] rfl)
  have key : ∀ (H : Heap) (locs : List Loc), va_P D vwCl (m_W tI tZ h0 ad σ) H → va_S (m_A h0 ad) s.heap H locs → u_G p l e ({ frames := 4, cells := 0, slots := 0, locals := 90 } : Room) s m ([.ref h0] : List Value).toArray below meth c H locs (some (.int cnt')) (m_P D tI tZ h0 ad σ') (m_A h0 ad) (F0 m 0 ls []) := by
    intro H locs hP hS
    refine lv_aload_n hx hb dX1_eraseAll_0 rfl (lv_at hl 0 rfl) ?_
    refine lv_iconst (v := 0) hx hb dX1_eraseAll_1 (by decide) ?_
    refine mp_thrown hx hb hts hin hown hK hP (hD _) hS hl_thrown dX1_eraseAll_2 (fun H locs hP hS => ?_)
    refine lv_iconst (v := 0) hx hb dX1_eraseAll_5 (by decide) ?_
    refine lv_istore_n (lv' := [(1, .int 0), (0, .ref h0)]) hx hb dX1_eraseAll_6 rfl hl (by decide) rfl (fun ls hl => ?_)
    exact loop7 fuel (s_set σ 0 0) 0 hnr hrun H locs hP hS _ (lv_sub hl [1, 0] rfl)
  exact key _ _ hP hS
theorem k_X1_eraseAll {p : Program} {l : Launch} {e : Env} {R : Room} {s : State} {m : MethodId} {args : Array Value} {below : List Frame} {meth : Method} {c : Code} {H : Heap} {locs : List Loc} {cells slots : Nat} {Q : State → Prop} {cc : ByteArray} {pc : Nat} {ls : Array Slot} {rest : List Value} {Ts : List Cond} (D : va_G) (tI tZ tL : ClassId) (h0 : Nat) (ad : Nat → Nat) (σ : ST) (nr : Nat) (hnr : σ.1 7 = nI nr) (hn30 : nr ≤ 30) (fuel : Nat) (σ' : ST) (cnt' : Int32) (hrun : m_eaR nr fuel (s_set σ 0 0) 0 = some (σ', cnt')) {A0 : Nat → Prop} {H0 : Heap} {own : String} {idx nL : Nat} (S : CallFix p m c cc nL s args Ts own) (hG : GoodIn Ts (wsV own idx RX1 yX1_eraseAll wsX1_eraseAll)) (hR : ({ frames := 4, cells := 0, slots := 0, locals := 90 } : Room).frames + 1 ≤ R.frames ∧ 8 + (2 + 11) + ({ frames := 4, cells := 0, slots := 0, locals := 90 } : Room).locals ≤ R.locals) (hsz : ls.size = nL) (hcap : cells ≤ R.cells ∧ slots ≤ R.slots) (hrm : (rest.map fun v => v.category).sum ≤ 8) (hn : (m_L h0 ad).Nodup) (hK : va_K D vwCl (kTY tI tZ tL) s) (hP : va_P D vwCl (m_W tI tZ h0 ad σ) H) (hS : va_S A0 H0 H locs) (hA : ∀ q, m_A h0 ad q → A0 q) (hdg : decode cc pc = .ok (.invokevirtual idx, 3)) (kk : ∀ (H1 : Heap) (locs1 : List Loc), va_P D vwCl (m_W tI tZ h0 ad σ') H1 → H.size ≤ H1.size → (∀ q : Nat, q < H.size → ¬ m_A h0 ad q → H1[q]? = H[q]?) → va_S A0 H0 H1 locs1 → W p l e R s m args below meth c H1 locs1 cells slots Q (F0 m (pc + 3) ls (.int cnt' :: rest))) : W p l e R s m args below meth c H locs cells slots Q (F0 m pc ls (.ref h0 :: rest)) :=
  u_call (va_runV (As := []) (rest := rest) S (c_X1_eraseAll l D tI tZ tL h0 ad σ nr hnr hn30 fuel σ' cnt' hrun hn) (cwV 0 S.2.2.2.2 hG rfl rfl rfl (by decide +kernel) hR) (m_pre hK hP) rfl rfl hsz rfl (lv_room hrm) hdg hcap) hS hA hA kk

