set_option maxHeartbeats 4000000 in
set_option maxRecDepth 100000 in
theorem c_X0_records (l : Launch) (D : va_G) (tI tZ tL : ClassId) (h0 : Nat) (ad : Nat → Nat) (σ : ST)  : Met l yX0_records wsX0_records ({ frames := 0, cells := 0, slots := 0, locals := 0 } : Room) (va_Pc ([.ref h0] : List Value) (x_B D tI tZ tL h0 ad σ)) (q_Q (some (.int (σ.1 6)))) 0 0 q_no := by
  refine q_met (cc := cX0_records) (maxL := 1) (ret := (some .int)) (by decide) rfl (Nat.le_of_ble_eq_true rfl) ?_
  intro p e s m below meth c hx hb hml hr hts hown hlocks hB ls hl
  have hown : s.vm.findClass RX0 = some m.cls := hown
  obtain ⟨hP, hK⟩ := hB
  have hl : lv_has ls 1 [(0, .ref h0)] := hl
  have hin : ∀ w ∈ wsX00, w ∈ wsX0_records := in_X0_records
  have hl_recordCount : xl_recordCount ∈ wsX0_records := by decide +kernel
  refine lv_aload_n hx hb dX0_records_0 rfl (lv_at hl 0 rfl) ?_
  refine xg_recordCount hx hb hts hin hown hK hP hl_recordCount dX0_records_1 ?_
  exact q_iret hx hb hr hlocks (rfl) dX0_records_4
theorem k_X0_records {p : Program} {l : Launch} {e : Env} {R : Room} {s : State} {m : MethodId} {args : Array Value} {below : List Frame} {meth : Method} {c : Code} {H : Heap} {locs : List Loc} {cells slots : Nat} {Q : State → Prop} {cc : ByteArray} {pc : Nat} {ls : Array Slot} {rest : List Value} {Ts : List Cond} (D : va_G) (tI tZ tL : ClassId) (h0 : Nat) (ad : Nat → Nat) (σ : ST)  {own : String} {idx nL : Nat} (S : CallFix p m c cc nL s args Ts own) (hG : GoodIn Ts (wsV own idx RX0 yX0_records wsX0_records)) (hR : ({ frames := 0, cells := 0, slots := 0, locals := 0 } : Room).frames + 1 ≤ R.frames ∧ 8 + (1 + 11) + ({ frames := 0, cells := 0, slots := 0, locals := 0 } : Room).locals ≤ R.locals) (hsz : ls.size = nL) (hcap : cells ≤ R.cells ∧ slots ≤ R.slots) (hrm : (rest.map fun v => v.category).sum ≤ 8) (hK : va_K D vwCl (kTY tI tZ tL) s) (hP : va_P D vwCl (x_W tI tZ h0 ad σ) H) (hdg : decode cc pc = .ok (.invokevirtual idx, 3)) (kk : W p l e R s m args below meth c H locs cells slots Q (F0 m (pc + 3) ls (.int (σ.1 6) :: rest))) : W p l e R s m args below meth c H locs cells slots Q (F0 m pc ls (.ref h0 :: rest)) :=
  q_call (va_runV (As := []) (rest := rest) S (c_X0_records l D tI tZ tL h0 ad σ ) (cwV 0 S.2.2.2.2 hG rfl rfl rfl (by decide +kernel) hR) (x_pre hK hP) rfl rfl hsz rfl (lv_room hrm) hdg hcap) kk

set_option maxHeartbeats 4000000 in
set_option maxRecDepth 100000 in
theorem c_X0_day (l : Launch) (D : va_G) (tI tZ tL : ClassId) (h0 : Nat) (ad : Nat → Nat) (σ : ST)  : Met l yX0_day wsX0_day ({ frames := 0, cells := 0, slots := 0, locals := 0 } : Room) (va_Pc ([.ref h0] : List Value) (x_B D tI tZ tL h0 ad σ)) (q_Q (some (.int (σ.1 0)))) 0 0 q_no := by
  refine q_met (cc := cX0_day) (maxL := 1) (ret := (some .int)) (by decide) rfl (Nat.le_of_ble_eq_true rfl) ?_
  intro p e s m below meth c hx hb hml hr hts hown hlocks hB ls hl
  have hown : s.vm.findClass RX0 = some m.cls := hown
  obtain ⟨hP, hK⟩ := hB
  have hl : lv_has ls 1 [(0, .ref h0)] := hl
  have hin : ∀ w ∈ wsX00, w ∈ wsX0_day := in_X0_day
  have hl_today : xl_today ∈ wsX0_day := by decide +kernel
  refine lv_aload_n hx hb dX0_day_0 rfl (lv_at hl 0 rfl) ?_
  refine xg_today hx hb hts hin hown hK hP hl_today dX0_day_1 ?_
  exact q_iret hx hb hr hlocks (rfl) dX0_day_4
theorem k_X0_day {p : Program} {l : Launch} {e : Env} {R : Room} {s : State} {m : MethodId} {args : Array Value} {below : List Frame} {meth : Method} {c : Code} {H : Heap} {locs : List Loc} {cells slots : Nat} {Q : State → Prop} {cc : ByteArray} {pc : Nat} {ls : Array Slot} {rest : List Value} {Ts : List Cond} (D : va_G) (tI tZ tL : ClassId) (h0 : Nat) (ad : Nat → Nat) (σ : ST)  {own : String} {idx nL : Nat} (S : CallFix p m c cc nL s args Ts own) (hG : GoodIn Ts (wsV own idx RX0 yX0_day wsX0_day)) (hR : ({ frames := 0, cells := 0, slots := 0, locals := 0 } : Room).frames + 1 ≤ R.frames ∧ 8 + (1 + 11) + ({ frames := 0, cells := 0, slots := 0, locals := 0 } : Room).locals ≤ R.locals) (hsz : ls.size = nL) (hcap : cells ≤ R.cells ∧ slots ≤ R.slots) (hrm : (rest.map fun v => v.category).sum ≤ 8) (hK : va_K D vwCl (kTY tI tZ tL) s) (hP : va_P D vwCl (x_W tI tZ h0 ad σ) H) (hdg : decode cc pc = .ok (.invokevirtual idx, 3)) (kk : W p l e R s m args below meth c H locs cells slots Q (F0 m (pc + 3) ls (.int (σ.1 0) :: rest))) : W p l e R s m args below meth c H locs cells slots Q (F0 m pc ls (.ref h0 :: rest)) :=
  q_call (va_runV (As := []) (rest := rest) S (c_X0_day l D tI tZ tL h0 ad σ ) (cwV 0 S.2.2.2.2 hG rfl rfl rfl (by decide +kernel) hR) (x_pre hK hP) rfl rfl hsz rfl (lv_room hrm) hdg hcap) kk

set_option maxHeartbeats 4000000 in
set_option maxRecDepth 100000 in
theorem c_X0_held (l : Launch) (D : va_G) (tI tZ tL : ClassId) (h0 : Nat) (ad : Nat → Nat) (σ : ST)  : Met l yX0_held wsX0_held ({ frames := 1, cells := 0, slots := 0, locals := 22 } : Room) (va_Pc ([.ref h0] : List Value) (x_B D tI tZ tL h0 ad σ)) (q_Q (some (.int (x_held (σ.2 15) 6)))) 0 0 q_no := by
  refine q_met (cc := cX0_held) (maxL := 1) (ret := (some .int)) (by decide) rfl (Nat.le_of_ble_eq_true rfl) ?_
  intro p e s m below meth c hx hb hml hr hts hown hlocks hB ls hl
  have hown : s.vm.findClass RX0 = some m.cls := hown
  obtain ⟨hP, hK⟩ := hB
  have hl : lv_has ls 1 [(0, .ref h0)] := hl
  refine lv_aload_n hx hb dX0_held_0 rfl (lv_at hl 0 rfl) ?_
  refine k_X0_heldRecords D tI tZ tL h0 ad σ  ⟨hx, hb, hml, hown, hts⟩ gX0_held_X0_heldRecords ⟨Nat.le_of_ble_eq_true rfl, Nat.le_of_ble_eq_true rfl⟩ hl.1 ⟨Nat.zero_le _, Nat.zero_le _⟩ (Nat.le_of_ble_eq_true rfl) hK hP dX0_held_1 ?_
  exact q_iret hx hb hr hlocks (rfl) dX0_held_4
theorem k_X0_held {p : Program} {l : Launch} {e : Env} {R : Room} {s : State} {m : MethodId} {args : Array Value} {below : List Frame} {meth : Method} {c : Code} {H : Heap} {locs : List Loc} {cells slots : Nat} {Q : State → Prop} {cc : ByteArray} {pc : Nat} {ls : Array Slot} {rest : List Value} {Ts : List Cond} (D : va_G) (tI tZ tL : ClassId) (h0 : Nat) (ad : Nat → Nat) (σ : ST)  {own : String} {idx nL : Nat} (S : CallFix p m c cc nL s args Ts own) (hG : GoodIn Ts (wsV own idx RX0 yX0_held wsX0_held)) (hR : ({ frames := 1, cells := 0, slots := 0, locals := 22 } : Room).frames + 1 ≤ R.frames ∧ 8 + (1 + 11) + ({ frames := 1, cells := 0, slots := 0, locals := 22 } : Room).locals ≤ R.locals) (hsz : ls.size = nL) (hcap : cells ≤ R.cells ∧ slots ≤ R.slots) (hrm : (rest.map fun v => v.category).sum ≤ 8) (hK : va_K D vwCl (kTY tI tZ tL) s) (hP : va_P D vwCl (x_W tI tZ h0 ad σ) H) (hdg : decode cc pc = .ok (.invokevirtual idx, 3)) (kk : W p l e R s m args below meth c H locs cells slots Q (F0 m (pc + 3) ls (.int (x_held (σ.2 15) 6) :: rest))) : W p l e R s m args below meth c H locs cells slots Q (F0 m pc ls (.ref h0 :: rest)) :=
  q_call (va_runV (As := []) (rest := rest) S (c_X0_held l D tI tZ tL h0 ad σ ) (cwV 0 S.2.2.2.2 hG rfl rfl rfl (by decide +kernel) hR) (x_pre hK hP) rfl rfl hsz rfl (lv_room hrm) hdg hcap) kk

set_option maxHeartbeats 4000000 in
set_option maxRecDepth 100000 in
theorem c_X0_due (l : Launch) (D : va_G) (tI tZ tL : ClassId) (h0 : Nat) (ad : Nat → Nat) (σ : ST) (np : Nat) (hnp : σ.1 1 = nI np) (hn8 : np ≤ 8) (nr : Nat) (hnr : σ.1 6 = nI nr) (hn30 : nr ≤ 30) : Met l yX0_due wsX0_due ({ frames := 5, cells := 0, slots := 0, locals := 111 } : Room) (va_Pc ([.ref h0] : List Value) (x_B D tI tZ tL h0 ad σ)) (q_Q (some (.int (x_due σ np nr)))) 0 0 q_no := by
  refine q_met (cc := cX0_due) (maxL := 1) (ret := (some .int)) (by decide) rfl (Nat.le_of_ble_eq_true rfl) ?_
  intro p e s m below meth c hx hb hml hr hts hown hlocks hB ls hl
  have hown : s.vm.findClass RX0 = some m.cls := hown
  obtain ⟨hP, hK⟩ := hB
  have hl : lv_has ls 1 [(0, .ref h0)] := hl
  refine lv_aload_n hx hb dX0_due_0 rfl (lv_at hl 0 rfl) ?_
  refine k_X0_dueRecords D tI tZ tL h0 ad σ np hnp hn8 nr hnr hn30 ⟨hx, hb, hml, hown, hts⟩ gX0_due_X0_dueRecords ⟨Nat.le_of_ble_eq_true rfl, Nat.le_of_ble_eq_true rfl⟩ hl.1 ⟨Nat.zero_le _, Nat.zero_le _⟩ (Nat.le_of_ble_eq_true rfl) hK hP dX0_due_1 ?_
  exact q_iret hx hb hr hlocks (rfl) dX0_due_4
theorem k_X0_due {p : Program} {l : Launch} {e : Env} {R : Room} {s : State} {m : MethodId} {args : Array Value} {below : List Frame} {meth : Method} {c : Code} {H : Heap} {locs : List Loc} {cells slots : Nat} {Q : State → Prop} {cc : ByteArray} {pc : Nat} {ls : Array Slot} {rest : List Value} {Ts : List Cond} (D : va_G) (tI tZ tL : ClassId) (h0 : Nat) (ad : Nat → Nat) (σ : ST) (np : Nat) (hnp : σ.1 1 = nI np) (hn8 : np ≤ 8) (nr : Nat) (hnr : σ.1 6 = nI nr) (hn30 : nr ≤ 30) {own : String} {idx nL : Nat} (S : CallFix p m c cc nL s args Ts own) (hG : GoodIn Ts (wsV own idx RX0 yX0_due wsX0_due)) (hR : ({ frames := 5, cells := 0, slots := 0, locals := 111 } : Room).frames + 1 ≤ R.frames ∧ 8 + (1 + 11) + ({ frames := 5, cells := 0, slots := 0, locals := 111 } : Room).locals ≤ R.locals) (hsz : ls.size = nL) (hcap : cells ≤ R.cells ∧ slots ≤ R.slots) (hrm : (rest.map fun v => v.category).sum ≤ 8) (hK : va_K D vwCl (kTY tI tZ tL) s) (hP : va_P D vwCl (x_W tI tZ h0 ad σ) H) (hdg : decode cc pc = .ok (.invokevirtual idx, 3)) (kk : W p l e R s m args below meth c H locs cells slots Q (F0 m (pc + 3) ls (.int (x_due σ np nr) :: rest))) : W p l e R s m args below meth c H locs cells slots Q (F0 m pc ls (.ref h0 :: rest)) :=
  q_call (va_runV (As := []) (rest := rest) S (c_X0_due l D tI tZ tL h0 ad σ np hnp hn8 nr hnr hn30) (cwV 0 S.2.2.2.2 hG rfl rfl rfl (by decide +kernel) hR) (x_pre hK hP) rfl rfl hsz rfl (lv_room hrm) hdg hcap) kk

set_option maxHeartbeats 4000000 in
set_option maxRecDepth 100000 in
theorem c_X0_consents (l : Launch) (D : va_G) (tI tZ tL : ClassId) (h0 : Nat) (ad : Nat → Nat) (σ : ST) (j : Nat) (hj12 : j < 12)  : Met l yX0_consents wsX0_consents ({ frames := 1, cells := 0, slots := 0, locals := 21 } : Room) (va_Pc ([.ref h0, .int (nI j)] : List Value) (x_B D tI tZ tL h0 ad σ)) (q_Q (some (.int (σ.2 4 j)))) 0 0 q_no := by
  refine q_met (cc := cX0_consents) (maxL := 2) (ret := (some .int)) (by decide) rfl (Nat.le_of_ble_eq_true rfl) ?_
  intro p e s m below meth c hx hb hml hr hts hown hlocks hB ls hl
  have hown : s.vm.findClass RX0 = some m.cls := hown
  obtain ⟨hP, hK⟩ := hB
  have hl : lv_has ls 2 [(0, .ref h0), (1, .int (nI j))] := hl
  have hin : ∀ w ∈ wsX00, w ∈ wsX0_consents := in_X0_consents
  have hl_consentsOfSubject : xl_consentsOfSubject ∈ wsX0_consents := by decide +kernel
  refine lv_aload_n hx hb dX0_consents_0 rfl (lv_at hl 0 rfl) ?_
  refine lv_iload_n hx hb dX0_consents_1 rfl (lv_at hl 1 rfl) ?_
  refine k_X0_checkSubject D tI tZ tL h0 ad σ j hj12 ⟨hx, hb, hml, hown, hts⟩ gX0_consents_X0_checkSubject ⟨Nat.le_of_ble_eq_true rfl, Nat.le_of_ble_eq_true rfl⟩ hl.1 ⟨Nat.zero_le _, Nat.zero_le _⟩ (Nat.le_of_ble_eq_true rfl) hK hP dX0_consents_2 ?_
  refine lv_aload_n hx hb dX0_consents_5 rfl (lv_at hl 0 rfl) ?_
  refine xg_consentsOfSubject hx hb hts hin hown hK hP hl_consentsOfSubject dX0_consents_6 ?_
  refine lv_iload_n hx hb dX0_consents_9 rfl (lv_at hl 1 rfl) ?_
  refine xr_consentsOfSubject (j := j) hx hb hK hP (by omega) dX0_consents_10 ?_
  exact q_iret hx hb hr hlocks (rfl) dX0_consents_11
theorem k_X0_consents {p : Program} {l : Launch} {e : Env} {R : Room} {s : State} {m : MethodId} {args : Array Value} {below : List Frame} {meth : Method} {c : Code} {H : Heap} {locs : List Loc} {cells slots : Nat} {Q : State → Prop} {cc : ByteArray} {pc : Nat} {ls : Array Slot} {rest : List Value} {Ts : List Cond} (D : va_G) (tI tZ tL : ClassId) (h0 : Nat) (ad : Nat → Nat) (σ : ST) (j : Nat) (hj12 : j < 12)  {own : String} {idx nL : Nat} (S : CallFix p m c cc nL s args Ts own) (hG : GoodIn Ts (wsV own idx RX0 yX0_consents wsX0_consents)) (hR : ({ frames := 1, cells := 0, slots := 0, locals := 21 } : Room).frames + 1 ≤ R.frames ∧ 8 + (2 + 11) + ({ frames := 1, cells := 0, slots := 0, locals := 21 } : Room).locals ≤ R.locals) (hsz : ls.size = nL) (hcap : cells ≤ R.cells ∧ slots ≤ R.slots) (hrm : (rest.map fun v => v.category).sum ≤ 8) (hK : va_K D vwCl (kTY tI tZ tL) s) (hP : va_P D vwCl (x_W tI tZ h0 ad σ) H) (hdg : decode cc pc = .ok (.invokevirtual idx, 3)) (kk : W p l e R s m args below meth c H locs cells slots Q (F0 m (pc + 3) ls (.int (σ.2 4 j) :: rest))) : W p l e R s m args below meth c H locs cells slots Q (F0 m pc ls (.int (nI j) :: .ref h0 :: rest)) :=
  q_call (va_runV (As := [.int (nI j)]) (rest := rest) S (c_X0_consents l D tI tZ tL h0 ad σ j hj12) (cwV 1 S.2.2.2.2 hG rfl rfl rfl (by decide +kernel) hR) (x_pre hK hP) rfl rfl hsz rfl (lv_room hrm) hdg hcap) kk

set_option maxHeartbeats 4000000 in
set_option maxRecDepth 100000 in
theorem c_X0_daysWithConsent (l : Launch) (D : va_G) (tI tZ tL : ClassId) (h0 : Nat) (ad : Nat → Nat) (σ : ST) (j : Nat) (hj12 : j < 12) (q : Nat) (np : Nat) (hnp : σ.1 1 = nI np) (hn8 : np ≤ 8) (hq : q < np) : Met l yX0_daysWithConsent wsX0_daysWithConsent ({ frames := 1, cells := 0, slots := 0, locals := 21 } : Room) (va_Pc ([.ref h0, .int (nI j), .int (nI q)] : List Value) (x_B D tI tZ tL h0 ad σ)) (q_Q (some (.int (σ.2 5 (j * 8 + q))))) 0 0 q_no := by
  refine q_met (cc := cX0_daysWithConsent) (maxL := 3) (ret := (some .int)) (by decide) rfl (Nat.le_of_ble_eq_true rfl) ?_
  intro p e s m below meth c hx hb hml hr hts hown hlocks hB ls hl
  have hown : s.vm.findClass RX0 = some m.cls := hown
  obtain ⟨hP, hK⟩ := hB
  have hl : lv_has ls 3 [(0, .ref h0), (1, .int (nI j)), (2, .int (nI q))] := hl
  have hin : ∀ w ∈ wsX00, w ∈ wsX0_daysWithConsent := in_X0_daysWithConsent
  have hl_consentDays : xl_consentDays ∈ wsX0_daysWithConsent := by decide +kernel
  refine lv_aload_n hx hb dX0_daysWithConsent_0 rfl (lv_at hl 0 rfl) ?_
  refine lv_iload_n hx hb dX0_daysWithConsent_1 rfl (lv_at hl 1 rfl) ?_
  refine k_X0_checkSubject D tI tZ tL h0 ad σ j hj12 ⟨hx, hb, hml, hown, hts⟩ gX0_daysWithConsent_X0_checkSubject ⟨Nat.le_of_ble_eq_true rfl, Nat.le_of_ble_eq_true rfl⟩ hl.1 ⟨Nat.zero_le _, Nat.zero_le _⟩ (Nat.le_of_ble_eq_true rfl) hK hP dX0_daysWithConsent_2 ?_
  refine lv_aload_n hx hb dX0_daysWithConsent_5 rfl (lv_at hl 0 rfl) ?_
  refine lv_iload_n hx hb dX0_daysWithConsent_6 rfl (lv_at hl 2 rfl) ?_
  refine k_X0_checkPurpose D tI tZ tL h0 ad σ q np hnp hn8 hq ⟨hx, hb, hml, hown, hts⟩ gX0_daysWithConsent_X0_checkPurpose ⟨Nat.le_of_ble_eq_true rfl, Nat.le_of_ble_eq_true rfl⟩ hl.1 ⟨Nat.zero_le _, Nat.zero_le _⟩ (Nat.le_of_ble_eq_true rfl) hK hP dX0_daysWithConsent_7 ?_
  refine lv_aload_n hx hb dX0_daysWithConsent_10 rfl (lv_at hl 0 rfl) ?_
  refine xg_consentDays hx hb hts hin hown hK hP hl_consentDays dX0_daysWithConsent_11 ?_
  refine lv_iload_n hx hb dX0_daysWithConsent_14 rfl (lv_at hl 1 rfl) ?_
  refine lv_iload_n hx hb dX0_daysWithConsent_15 rfl (lv_at hl 2 rfl) ?_
  refine k_X0_consentIndex j q ⟨hx, hb, hml, hown, hts⟩ gX0_daysWithConsent_X0_consentIndex ⟨Nat.le_of_ble_eq_true rfl, Nat.le_of_ble_eq_true rfl⟩ hl.1 ⟨Nat.zero_le _, Nat.zero_le _⟩ (Nat.le_of_ble_eq_true rfl) dX0_daysWithConsent_16 ?_
  refine xr_consentDays (j := j * 8 + q) hx hb hK hP (by omega) dX0_daysWithConsent_19 ?_
  exact q_iret hx hb hr hlocks (rfl) dX0_daysWithConsent_20
theorem k_X0_daysWithConsent {p : Program} {l : Launch} {e : Env} {R : Room} {s : State} {m : MethodId} {args : Array Value} {below : List Frame} {meth : Method} {c : Code} {H : Heap} {locs : List Loc} {cells slots : Nat} {Q : State → Prop} {cc : ByteArray} {pc : Nat} {ls : Array Slot} {rest : List Value} {Ts : List Cond} (D : va_G) (tI tZ tL : ClassId) (h0 : Nat) (ad : Nat → Nat) (σ : ST) (j : Nat) (hj12 : j < 12) (q : Nat) (np : Nat) (hnp : σ.1 1 = nI np) (hn8 : np ≤ 8) (hq : q < np) {own : String} {idx nL : Nat} (S : CallFix p m c cc nL s args Ts own) (hG : GoodIn Ts (wsV own idx RX0 yX0_daysWithConsent wsX0_daysWithConsent)) (hR : ({ frames := 1, cells := 0, slots := 0, locals := 21 } : Room).frames + 1 ≤ R.frames ∧ 8 + (3 + 11) + ({ frames := 1, cells := 0, slots := 0, locals := 21 } : Room).locals ≤ R.locals) (hsz : ls.size = nL) (hcap : cells ≤ R.cells ∧ slots ≤ R.slots) (hrm : (rest.map fun v => v.category).sum ≤ 8) (hK : va_K D vwCl (kTY tI tZ tL) s) (hP : va_P D vwCl (x_W tI tZ h0 ad σ) H) (hdg : decode cc pc = .ok (.invokevirtual idx, 3)) (kk : W p l e R s m args below meth c H locs cells slots Q (F0 m (pc + 3) ls (.int (σ.2 5 (j * 8 + q)) :: rest))) : W p l e R s m args below meth c H locs cells slots Q (F0 m pc ls (.int (nI q) :: .int (nI j) :: .ref h0 :: rest)) :=
  q_call (va_runV (As := [.int (nI j), .int (nI q)]) (rest := rest) S (c_X0_daysWithConsent l D tI tZ tL h0 ad σ j hj12 q np hnp hn8 hq) (cwV 2 S.2.2.2.2 hG rfl rfl rfl (by decide +kernel) hR) (x_pre hK hP) rfl rfl hsz rfl (lv_room hrm) hdg hcap) kk

set_option maxHeartbeats 4000000 in
set_option maxRecDepth 100000 in
theorem c_X0_stateOf (l : Launch) (D : va_G) (tI tZ tL : ClassId) (h0 : Nat) (ad : Nat → Nat) (σ : ST) (r : Nat) (nr : Nat) (hnr : σ.1 6 = nI nr) (hn30 : nr ≤ 30) (hrn : r < nr)  : Met l yX0_stateOf wsX0_stateOf ({ frames := 2, cells := 0, slots := 0, locals := 41 } : Room) (va_Pc ([.ref h0, .int (nI r)] : List Value) (x_B D tI tZ tL h0 ad σ)) (q_Q (some (.int (x_state σ r)))) 0 0 q_no := by
  refine q_met (cc := cX0_stateOf) (maxL := 2) (ret := (some .int)) (by decide) rfl (Nat.le_of_ble_eq_true rfl) ?_
  intro p e s m below meth c hx hb hml hr hts hown hlocks hB ls hl
  have hown : s.vm.findClass RX0 = some m.cls := hown
  obtain ⟨hP, hK⟩ := hB
  have hl : lv_has ls 2 [(0, .ref h0), (1, .int (nI r))] := hl
  have hin : ∀ w ∈ wsX00, w ∈ wsX0_stateOf := in_X0_stateOf
  have hl_erasedRecords : xl_erasedRecords ∈ wsX0_stateOf := by decide +kernel
  have hl_requestedRecords : xl_requestedRecords ∈ wsX0_stateOf := by decide +kernel
  refine lv_aload_n hx hb dX0_stateOf_0 rfl (lv_at hl 0 rfl) ?_
  refine lv_iload_n hx hb dX0_stateOf_1 rfl (lv_at hl 1 rfl) ?_
  refine k_X0_checkRecord D tI tZ tL h0 ad σ r nr hnr hn30 hrn ⟨hx, hb, hml, hown, hts⟩ gX0_stateOf_X0_checkRecord ⟨Nat.le_of_ble_eq_true rfl, Nat.le_of_ble_eq_true rfl⟩ hl.1 ⟨Nat.zero_le _, Nat.zero_le _⟩ (Nat.le_of_ble_eq_true rfl) hK hP dX0_stateOf_2 ?_
  refine lv_aload_n hx hb dX0_stateOf_5 rfl (lv_at hl 0 rfl) ?_
  refine xg_erasedRecords hx hb hts hin hown hK hP hl_erasedRecords dX0_stateOf_6 ?_
  refine lv_iload_n hx hb dX0_stateOf_9 rfl (lv_at hl 1 rfl) ?_
  refine k_X0_has (σ.1 14) r (by omega) ⟨hx, hb, hml, hown, hts⟩ gX0_stateOf_X0_has ⟨Nat.le_of_ble_eq_true rfl, Nat.le_of_ble_eq_true rfl⟩ hl.1 ⟨Nat.zero_le _, Nat.zero_le _⟩ (Nat.le_of_ble_eq_true rfl) dX0_stateOf_10 ?_
  refine lv_ifeq_b (tgt := 18) hx hb dX0_stateOf_13 (by decide) (fun c13 => ?_) (fun c13 => ?_)
  · refine lv_aload_n hx hb dX0_stateOf_18 rfl (lv_at hl 0 rfl) ?_
    refine xg_requestedRecords hx hb hts hin hown hK hP hl_requestedRecords dX0_stateOf_19 ?_
    refine lv_iload_n hx hb dX0_stateOf_22 rfl (lv_at hl 1 rfl) ?_
    refine k_X0_has (σ.1 13) r (by omega) ⟨hx, hb, hml, hown, hts⟩ gX0_stateOf_X0_has ⟨Nat.le_of_ble_eq_true rfl, Nat.le_of_ble_eq_true rfl⟩ hl.1 ⟨Nat.zero_le _, Nat.zero_le _⟩ (Nat.le_of_ble_eq_true rfl) dX0_stateOf_23 ?_
    refine lv_ifeq_b (tgt := 33) hx hb dX0_stateOf_26 (by decide) (fun c26 => ?_) (fun c26 => ?_)
    · refine lv_iconst (v := 0) hx hb dX0_stateOf_33 (by decide) ?_
      exact q_iret hx hb hr hlocks (by rw [x_state, if_neg (by rw [c13]; decide), if_neg (by rw [c26]; decide)]) dX0_stateOf_34
    · refine lv_iconst (v := 1) hx hb dX0_stateOf_29 (by decide) ?_
      refine lv_goto (tgt := 34) hx hb dX0_stateOf_30 (by decide) ?_
      exact q_iret hx hb hr hlocks (by rw [x_state, if_neg (by rw [c13]; decide), if_pos c26]) dX0_stateOf_34
  · refine lv_iconst (v := 2) hx hb dX0_stateOf_16 (by decide) ?_
    exact q_iret hx hb hr hlocks (by rw [x_state, if_pos c13]) dX0_stateOf_17
theorem k_X0_stateOf {p : Program} {l : Launch} {e : Env} {R : Room} {s : State} {m : MethodId} {args : Array Value} {below : List Frame} {meth : Method} {c : Code} {H : Heap} {locs : List Loc} {cells slots : Nat} {Q : State → Prop} {cc : ByteArray} {pc : Nat} {ls : Array Slot} {rest : List Value} {Ts : List Cond} (D : va_G) (tI tZ tL : ClassId) (h0 : Nat) (ad : Nat → Nat) (σ : ST) (r : Nat) (nr : Nat) (hnr : σ.1 6 = nI nr) (hn30 : nr ≤ 30) (hrn : r < nr)  {own : String} {idx nL : Nat} (S : CallFix p m c cc nL s args Ts own) (hG : GoodIn Ts (wsV own idx RX0 yX0_stateOf wsX0_stateOf)) (hR : ({ frames := 2, cells := 0, slots := 0, locals := 41 } : Room).frames + 1 ≤ R.frames ∧ 8 + (2 + 11) + ({ frames := 2, cells := 0, slots := 0, locals := 41 } : Room).locals ≤ R.locals) (hsz : ls.size = nL) (hcap : cells ≤ R.cells ∧ slots ≤ R.slots) (hrm : (rest.map fun v => v.category).sum ≤ 8) (hK : va_K D vwCl (kTY tI tZ tL) s) (hP : va_P D vwCl (x_W tI tZ h0 ad σ) H) (hdg : decode cc pc = .ok (.invokevirtual idx, 3)) (kk : W p l e R s m args below meth c H locs cells slots Q (F0 m (pc + 3) ls (.int (x_state σ r) :: rest))) : W p l e R s m args below meth c H locs cells slots Q (F0 m pc ls (.int (nI r) :: .ref h0 :: rest)) :=
  q_call (va_runV (As := [.int (nI r)]) (rest := rest) S (c_X0_stateOf l D tI tZ tL h0 ad σ r nr hnr hn30 hrn) (cwV 1 S.2.2.2.2 hG rfl rfl rfl (by decide +kernel) hR) (x_pre hK hP) rfl rfl hsz rfl (lv_room hrm) hdg hcap) kk

set_option maxHeartbeats 4000000 in
set_option maxRecDepth 100000 in
theorem c_X0_subjectsOf (l : Launch) (D : va_G) (tI tZ tL : ClassId) (h0 : Nat) (ad : Nat → Nat) (σ : ST) (r : Nat) (nr : Nat) (hnr : σ.1 6 = nI nr) (hn30 : nr ≤ 30) (hrn : r < nr)  : Met l yX0_subjectsOf wsX0_subjectsOf ({ frames := 1, cells := 0, slots := 0, locals := 21 } : Room) (va_Pc ([.ref h0, .int (nI r)] : List Value) (x_B D tI tZ tL h0 ad σ)) (q_Q (some (.int (σ.2 9 r)))) 0 0 q_no := by
  refine q_met (cc := cX0_subjectsOf) (maxL := 2) (ret := (some .int)) (by decide) rfl (Nat.le_of_ble_eq_true rfl) ?_
  intro p e s m below meth c hx hb hml hr hts hown hlocks hB ls hl
  have hown : s.vm.findClass RX0 = some m.cls := hown
  obtain ⟨hP, hK⟩ := hB
  have hl : lv_has ls 2 [(0, .ref h0), (1, .int (nI r))] := hl
  have hin : ∀ w ∈ wsX00, w ∈ wsX0_subjectsOf := in_X0_subjectsOf
  have hl_subjectsOfRecord : xl_subjectsOfRecord ∈ wsX0_subjectsOf := by decide +kernel
  refine lv_aload_n hx hb dX0_subjectsOf_0 rfl (lv_at hl 0 rfl) ?_
  refine lv_iload_n hx hb dX0_subjectsOf_1 rfl (lv_at hl 1 rfl) ?_
  refine k_X0_checkRecord D tI tZ tL h0 ad σ r nr hnr hn30 hrn ⟨hx, hb, hml, hown, hts⟩ gX0_subjectsOf_X0_checkRecord ⟨Nat.le_of_ble_eq_true rfl, Nat.le_of_ble_eq_true rfl⟩ hl.1 ⟨Nat.zero_le _, Nat.zero_le _⟩ (Nat.le_of_ble_eq_true rfl) hK hP dX0_subjectsOf_2 ?_
  refine lv_aload_n hx hb dX0_subjectsOf_5 rfl (lv_at hl 0 rfl) ?_
  refine xg_subjectsOfRecord hx hb hts hin hown hK hP hl_subjectsOfRecord dX0_subjectsOf_6 ?_
  refine lv_iload_n hx hb dX0_subjectsOf_9 rfl (lv_at hl 1 rfl) ?_
  refine xr_subjectsOfRecord (j := r) hx hb hK hP (by omega) dX0_subjectsOf_10 ?_
  exact q_iret hx hb hr hlocks (rfl) dX0_subjectsOf_11
theorem k_X0_subjectsOf {p : Program} {l : Launch} {e : Env} {R : Room} {s : State} {m : MethodId} {args : Array Value} {below : List Frame} {meth : Method} {c : Code} {H : Heap} {locs : List Loc} {cells slots : Nat} {Q : State → Prop} {cc : ByteArray} {pc : Nat} {ls : Array Slot} {rest : List Value} {Ts : List Cond} (D : va_G) (tI tZ tL : ClassId) (h0 : Nat) (ad : Nat → Nat) (σ : ST) (r : Nat) (nr : Nat) (hnr : σ.1 6 = nI nr) (hn30 : nr ≤ 30) (hrn : r < nr)  {own : String} {idx nL : Nat} (S : CallFix p m c cc nL s args Ts own) (hG : GoodIn Ts (wsV own idx RX0 yX0_subjectsOf wsX0_subjectsOf)) (hR : ({ frames := 1, cells := 0, slots := 0, locals := 21 } : Room).frames + 1 ≤ R.frames ∧ 8 + (2 + 11) + ({ frames := 1, cells := 0, slots := 0, locals := 21 } : Room).locals ≤ R.locals) (hsz : ls.size = nL) (hcap : cells ≤ R.cells ∧ slots ≤ R.slots) (hrm : (rest.map fun v => v.category).sum ≤ 8) (hK : va_K D vwCl (kTY tI tZ tL) s) (hP : va_P D vwCl (x_W tI tZ h0 ad σ) H) (hdg : decode cc pc = .ok (.invokevirtual idx, 3)) (kk : W p l e R s m args below meth c H locs cells slots Q (F0 m (pc + 3) ls (.int (σ.2 9 r) :: rest))) : W p l e R s m args below meth c H locs cells slots Q (F0 m pc ls (.int (nI r) :: .ref h0 :: rest)) :=
  q_call (va_runV (As := [.int (nI r)]) (rest := rest) S (c_X0_subjectsOf l D tI tZ tL h0 ad σ r nr hnr hn30 hrn) (cwV 1 S.2.2.2.2 hG rfl rfl rfl (by decide +kernel) hR) (x_pre hK hP) rfl rfl hsz rfl (lv_room hrm) hdg hcap) kk

set_option maxHeartbeats 4000000 in
set_option maxRecDepth 100000 in
theorem c_X0_below (l : Launch) (D : va_G) (tI tZ tL : ClassId) (h0 : Nat) (ad : Nat → Nat) (σ : ST) (r : Nat) (nr : Nat) (hnr : σ.1 6 = nI nr) (hn30 : nr ≤ 30) (hrn : r < nr)  : Met l yX0_below wsX0_below ({ frames := 3, cells := 0, slots := 0, locals := 64 } : Room) (va_Pc ([.ref h0, .int (nI r)] : List Value) (x_B D tI tZ tL h0 ad σ)) (q_Q (some (.int (x_bel σ nr r)))) 0 0 q_no := by
  refine q_met (cc := cX0_below) (maxL := 2) (ret := (some .int)) (by decide) rfl (Nat.le_of_ble_eq_true rfl) ?_
  intro p e s m below meth c hx hb hml hr hts hown hlocks hB ls hl
  have hown : s.vm.findClass RX0 = some m.cls := hown
  obtain ⟨hP, hK⟩ := hB
  have hl : lv_has ls 2 [(0, .ref h0), (1, .int (nI r))] := hl
  refine lv_aload_n hx hb dX0_below_0 rfl (lv_at hl 0 rfl) ?_
  refine lv_iload_n hx hb dX0_below_1 rfl (lv_at hl 1 rfl) ?_
  refine k_X0_checkRecord D tI tZ tL h0 ad σ r nr hnr hn30 hrn ⟨hx, hb, hml, hown, hts⟩ gX0_below_X0_checkRecord ⟨Nat.le_of_ble_eq_true rfl, Nat.le_of_ble_eq_true rfl⟩ hl.1 ⟨Nat.zero_le _, Nat.zero_le _⟩ (Nat.le_of_ble_eq_true rfl) hK hP dX0_below_2 ?_
  refine lv_aload_n hx hb dX0_below_5 rfl (lv_at hl 0 rfl) ?_
  refine lv_iload_n hx hb dX0_below_6 rfl (lv_at hl 1 rfl) ?_
  refine k_X0_allBelow D tI tZ tL h0 ad σ r (by omega) nr hnr hn30 ⟨hx, hb, hml, hown, hts⟩ gX0_below_X0_allBelow ⟨Nat.le_of_ble_eq_true rfl, Nat.le_of_ble_eq_true rfl⟩ hl.1 ⟨Nat.zero_le _, Nat.zero_le _⟩ (Nat.le_of_ble_eq_true rfl) hK hP dX0_below_7 ?_
  exact q_iret hx hb hr hlocks (rfl) dX0_below_10
theorem k_X0_below {p : Program} {l : Launch} {e : Env} {R : Room} {s : State} {m : MethodId} {args : Array Value} {below : List Frame} {meth : Method} {c : Code} {H : Heap} {locs : List Loc} {cells slots : Nat} {Q : State → Prop} {cc : ByteArray} {pc : Nat} {ls : Array Slot} {rest : List Value} {Ts : List Cond} (D : va_G) (tI tZ tL : ClassId) (h0 : Nat) (ad : Nat → Nat) (σ : ST) (r : Nat) (nr : Nat) (hnr : σ.1 6 = nI nr) (hn30 : nr ≤ 30) (hrn : r < nr)  {own : String} {idx nL : Nat} (S : CallFix p m c cc nL s args Ts own) (hG : GoodIn Ts (wsV own idx RX0 yX0_below wsX0_below)) (hR : ({ frames := 3, cells := 0, slots := 0, locals := 64 } : Room).frames + 1 ≤ R.frames ∧ 8 + (2 + 11) + ({ frames := 3, cells := 0, slots := 0, locals := 64 } : Room).locals ≤ R.locals) (hsz : ls.size = nL) (hcap : cells ≤ R.cells ∧ slots ≤ R.slots) (hrm : (rest.map fun v => v.category).sum ≤ 8) (hK : va_K D vwCl (kTY tI tZ tL) s) (hP : va_P D vwCl (x_W tI tZ h0 ad σ) H) (hdg : decode cc pc = .ok (.invokevirtual idx, 3)) (kk : W p l e R s m args below meth c H locs cells slots Q (F0 m (pc + 3) ls (.int (x_bel σ nr r) :: rest))) : W p l e R s m args below meth c H locs cells slots Q (F0 m pc ls (.int (nI r) :: .ref h0 :: rest)) :=
  q_call (va_runV (As := [.int (nI r)]) (rest := rest) S (c_X0_below l D tI tZ tL h0 ad σ r nr hnr hn30 hrn) (cwV 1 S.2.2.2.2 hG rfl rfl rfl (by decide +kernel) hR) (x_pre hK hP) rfl rfl hsz rfl (lv_room hrm) hdg hcap) kk

set_option maxHeartbeats 4000000 in
set_option maxRecDepth 100000 in
theorem c_X0_endOf (l : Launch) (D : va_G) (tI tZ tL : ClassId) (h0 : Nat) (ad : Nat → Nat) (σ : ST) (r : Nat) (nr : Nat) (hnr : σ.1 6 = nI nr) (hn30 : nr ≤ 30) (hrn : r < nr) (np : Nat) (hnp : σ.1 1 = nI np) (hn8 : np ≤ 8)  : Met l yX0_endOf wsX0_endOf ({ frames := 4, cells := 0, slots := 0, locals := 88 } : Room) (va_Pc ([.ref h0, .int (nI r)] : List Value) (x_B D tI tZ tL h0 ad σ)) (q_Q (some (.int (x_end σ np r)))) 0 0 q_no := by
  refine q_met (cc := cX0_endOf) (maxL := 2) (ret := (some .int)) (by decide) rfl (Nat.le_of_ble_eq_true rfl) ?_
  intro p e s m below meth c hx hb hml hr hts hown hlocks hB ls hl
  have hown : s.vm.findClass RX0 = some m.cls := hown
  obtain ⟨hP, hK⟩ := hB
  have hl : lv_has ls 2 [(0, .ref h0), (1, .int (nI r))] := hl
  refine lv_aload_n hx hb dX0_endOf_0 rfl (lv_at hl 0 rfl) ?_
  refine lv_iload_n hx hb dX0_endOf_1 rfl (lv_at hl 1 rfl) ?_
  refine k_X0_checkRecord D tI tZ tL h0 ad σ r nr hnr hn30 hrn ⟨hx, hb, hml, hown, hts⟩ gX0_endOf_X0_checkRecord ⟨Nat.le_of_ble_eq_true rfl, Nat.le_of_ble_eq_true rfl⟩ hl.1 ⟨Nat.zero_le _, Nat.zero_le _⟩ (Nat.le_of_ble_eq_true rfl) hK hP dX0_endOf_2 ?_
  refine lv_aload_n hx hb dX0_endOf_5 rfl (lv_at hl 0 rfl) ?_
  refine lv_iload_n hx hb dX0_endOf_6 rfl (lv_at hl 1 rfl) ?_
  refine k_X0_endNow D tI tZ tL h0 ad σ r (by omega) np hnp hn8 ⟨hx, hb, hml, hown, hts⟩ gX0_endOf_X0_endNow ⟨Nat.le_of_ble_eq_true rfl, Nat.le_of_ble_eq_true rfl⟩ hl.1 ⟨Nat.zero_le _, Nat.zero_le _⟩ (Nat.le_of_ble_eq_true rfl) hK hP dX0_endOf_7 ?_
  exact q_iret hx hb hr hlocks (rfl) dX0_endOf_10
theorem k_X0_endOf {p : Program} {l : Launch} {e : Env} {R : Room} {s : State} {m : MethodId} {args : Array Value} {below : List Frame} {meth : Method} {c : Code} {H : Heap} {locs : List Loc} {cells slots : Nat} {Q : State → Prop} {cc : ByteArray} {pc : Nat} {ls : Array Slot} {rest : List Value} {Ts : List Cond} (D : va_G) (tI tZ tL : ClassId) (h0 : Nat) (ad : Nat → Nat) (σ : ST) (r : Nat) (nr : Nat) (hnr : σ.1 6 = nI nr) (hn30 : nr ≤ 30) (hrn : r < nr) (np : Nat) (hnp : σ.1 1 = nI np) (hn8 : np ≤ 8)  {own : String} {idx nL : Nat} (S : CallFix p m c cc nL s args Ts own) (hG : GoodIn Ts (wsV own idx RX0 yX0_endOf wsX0_endOf)) (hR : ({ frames := 4, cells := 0, slots := 0, locals := 88 } : Room).frames + 1 ≤ R.frames ∧ 8 + (2 + 11) + ({ frames := 4, cells := 0, slots := 0, locals := 88 } : Room).locals ≤ R.locals) (hsz : ls.size = nL) (hcap : cells ≤ R.cells ∧ slots ≤ R.slots) (hrm : (rest.map fun v => v.category).sum ≤ 8) (hK : va_K D vwCl (kTY tI tZ tL) s) (hP : va_P D vwCl (x_W tI tZ h0 ad σ) H) (hdg : decode cc pc = .ok (.invokevirtual idx, 3)) (kk : W p l e R s m args below meth c H locs cells slots Q (F0 m (pc + 3) ls (.int (x_end σ np r) :: rest))) : W p l e R s m args below meth c H locs cells slots Q (F0 m pc ls (.int (nI r) :: .ref h0 :: rest)) :=
  q_call (va_runV (As := [.int (nI r)]) (rest := rest) S (c_X0_endOf l D tI tZ tL h0 ad σ r nr hnr hn30 hrn np hnp hn8) (cwV 1 S.2.2.2.2 hG rfl rfl rfl (by decide +kernel) hR) (x_pre hK hP) rfl rfl hsz rfl (lv_room hrm) hdg hcap) kk

set_option maxHeartbeats 4000000 in
set_option maxRecDepth 100000 in
theorem c_X0_whyNoUse (l : Launch) (D : va_G) (tI tZ tL : ClassId) (h0 : Nat) (ad : Nat → Nat) (σ : ST) (r q : Nat) (nr : Nat) (hnr : σ.1 6 = nI nr) (hn30 : nr ≤ 30) (hrn : r < nr) (np : Nat) (hnp : σ.1 1 = nI np) (hn8 : np ≤ 8) (hq : q < np)  : Met l yX0_whyNoUse wsX0_whyNoUse ({ frames := 3, cells := 0, slots := 0, locals := 64 } : Room) (va_Pc ([.ref h0, .int (nI r), .int (nI q)] : List Value) (x_B D tI tZ tL h0 ad σ)) (q_Q (some (.int (x_why σ np r q)))) 0 0 q_no := by
  refine q_met (cc := cX0_whyNoUse) (maxL := 3) (ret := (some .int)) (by decide) rfl (Nat.le_of_ble_eq_true rfl) ?_
  intro p e s m below meth c hx hb hml hr hts hown hlocks hB ls hl
  have hown : s.vm.findClass RX0 = some m.cls := hown
  obtain ⟨hP, hK⟩ := hB
  have hl : lv_has ls 3 [(0, .ref h0), (1, .int (nI r)), (2, .int (nI q))] := hl
  have hin : ∀ w ∈ wsX00, w ∈ wsX0_whyNoUse := in_X0_whyNoUse
  have hl_dayAdded : xl_dayAdded ∈ wsX0_whyNoUse := by decide +kernel
  have hl_erasedRecords : xl_erasedRecords ∈ wsX0_whyNoUse := by decide +kernel
  have hl_purposesOfRecord : xl_purposesOfRecord ∈ wsX0_whyNoUse := by decide +kernel
  have hl_requestedRecords : xl_requestedRecords ∈ wsX0_whyNoUse := by decide +kernel
  have hl_subjectsOfRecord : xl_subjectsOfRecord ∈ wsX0_whyNoUse := by decide +kernel
  refine lv_aload_n hx hb dX0_whyNoUse_0 rfl (lv_at hl 0 rfl) ?_
  refine lv_iload_n hx hb dX0_whyNoUse_1 rfl (lv_at hl 1 rfl) ?_
  refine k_X0_checkRecord D tI tZ tL h0 ad σ r nr hnr hn30 hrn ⟨hx, hb, hml, hown, hts⟩ gX0_whyNoUse_X0_checkRecord ⟨Nat.le_of_ble_eq_true rfl, Nat.le_of_ble_eq_true rfl⟩ hl.1 ⟨Nat.zero_le _, Nat.zero_le _⟩ (Nat.le_of_ble_eq_true rfl) hK hP dX0_whyNoUse_2 ?_
  refine lv_aload_n hx hb dX0_whyNoUse_5 rfl (lv_at hl 0 rfl) ?_
  refine lv_iload_n hx hb dX0_whyNoUse_6 rfl (lv_at hl 2 rfl) ?_
  refine k_X0_checkPurpose D tI tZ tL h0 ad σ q np hnp hn8 hq ⟨hx, hb, hml, hown, hts⟩ gX0_whyNoUse_X0_checkPurpose ⟨Nat.le_of_ble_eq_true rfl, Nat.le_of_ble_eq_true rfl⟩ hl.1 ⟨Nat.zero_le _, Nat.zero_le _⟩ (Nat.le_of_ble_eq_true rfl) hK hP dX0_whyNoUse_7 ?_
  refine lv_aload_n hx hb dX0_whyNoUse_10 rfl (lv_at hl 0 rfl) ?_
  refine xg_erasedRecords hx hb hts hin hown hK hP hl_erasedRecords dX0_whyNoUse_11 ?_
  refine lv_iload_n hx hb dX0_whyNoUse_14 rfl (lv_at hl 1 rfl) ?_
  refine k_X0_has (σ.1 14) r (by omega) ⟨hx, hb, hml, hown, hts⟩ gX0_whyNoUse_X0_has ⟨Nat.le_of_ble_eq_true rfl, Nat.le_of_ble_eq_true rfl⟩ hl.1 ⟨Nat.zero_le _, Nat.zero_le _⟩ (Nat.le_of_ble_eq_true rfl) dX0_whyNoUse_15 ?_
  refine lv_ifeq_b (tgt := 23) hx hb dX0_whyNoUse_18 (by decide) (fun c18 => ?_) (fun c18 => ?_)
  · refine lv_aload_n hx hb dX0_whyNoUse_23 rfl (lv_at hl 0 rfl) ?_
    refine xg_requestedRecords hx hb hts hin hown hK hP hl_requestedRecords dX0_whyNoUse_24 ?_
    refine lv_iload_n hx hb dX0_whyNoUse_27 rfl (lv_at hl 1 rfl) ?_
    refine k_X0_has (σ.1 13) r (by omega) ⟨hx, hb, hml, hown, hts⟩ gX0_whyNoUse_X0_has ⟨Nat.le_of_ble_eq_true rfl, Nat.le_of_ble_eq_true rfl⟩ hl.1 ⟨Nat.zero_le _, Nat.zero_le _⟩ (Nat.le_of_ble_eq_true rfl) dX0_whyNoUse_28 ?_
    refine lv_ifeq_b (tgt := 36) hx hb dX0_whyNoUse_31 (by decide) (fun c31 => ?_) (fun c31 => ?_)
    · refine lv_aload_n hx hb dX0_whyNoUse_36 rfl (lv_at hl 0 rfl) ?_
      refine xg_purposesOfRecord hx hb hts hin hown hK hP hl_purposesOfRecord dX0_whyNoUse_37 ?_
      refine lv_iload_n hx hb dX0_whyNoUse_40 rfl (lv_at hl 1 rfl) ?_
      refine xr_purposesOfRecord (j := r) hx hb hK hP (by omega) dX0_whyNoUse_41 ?_
      refine lv_iload_n hx hb dX0_whyNoUse_42 rfl (lv_at hl 2 rfl) ?_
      refine k_X0_has (σ.2 8 r) q (by omega) ⟨hx, hb, hml, hown, hts⟩ gX0_whyNoUse_X0_has ⟨Nat.le_of_ble_eq_true rfl, Nat.le_of_ble_eq_true rfl⟩ hl.1 ⟨Nat.zero_le _, Nat.zero_le _⟩ (Nat.le_of_ble_eq_true rfl) dX0_whyNoUse_43 ?_
      refine lv_ifne_b (tgt := 51) hx hb dX0_whyNoUse_46 (by decide) (fun c46 => ?_) (fun c46 => ?_)
      · refine lv_aload_n hx hb dX0_whyNoUse_51 rfl (lv_at hl 0 rfl) ?_
        refine lv_aload_n hx hb dX0_whyNoUse_52 rfl (lv_at hl 0 rfl) ?_
        refine xg_subjectsOfRecord hx hb hts hin hown hK hP hl_subjectsOfRecord dX0_whyNoUse_53 ?_
        refine lv_iload_n hx hb dX0_whyNoUse_56 rfl (lv_at hl 1 rfl) ?_
        refine xr_subjectsOfRecord (j := r) hx hb hK hP (by omega) dX0_whyNoUse_57 ?_
        refine k_X0_purposesAllowedBy D tI tZ tL h0 ad σ (σ.2 9 r) np hnp hn8 ⟨hx, hb, hml, hown, hts⟩ gX0_whyNoUse_X0_purposesAllowedBy ⟨Nat.le_of_ble_eq_true rfl, Nat.le_of_ble_eq_true rfl⟩ hl.1 ⟨Nat.zero_le _, Nat.zero_le _⟩ (Nat.le_of_ble_eq_true rfl) hK hP dX0_whyNoUse_58 ?_
        refine lv_iload_n hx hb dX0_whyNoUse_61 rfl (lv_at hl 2 rfl) ?_
        refine k_X0_has (x_alw σ np (σ.2 9 r)) q (by omega) ⟨hx, hb, hml, hown, hts⟩ gX0_whyNoUse_X0_has ⟨Nat.le_of_ble_eq_true rfl, Nat.le_of_ble_eq_true rfl⟩ hl.1 ⟨Nat.zero_le _, Nat.zero_le _⟩ (Nat.le_of_ble_eq_true rfl) dX0_whyNoUse_62 ?_
        refine lv_ifne_b (tgt := 70) hx hb dX0_whyNoUse_65 (by decide) (fun c65 => ?_) (fun c65 => ?_)
        · refine lv_aload_n hx hb dX0_whyNoUse_70 rfl (lv_at hl 0 rfl) ?_
          refine lv_iload_n hx hb dX0_whyNoUse_71 rfl (lv_at hl 2 rfl) ?_
          refine lv_aload_n hx hb dX0_whyNoUse_72 rfl (lv_at hl 0 rfl) ?_
          refine xg_dayAdded hx hb hts hin hown hK hP hl_dayAdded dX0_whyNoUse_73 ?_
          refine lv_iload_n hx hb dX0_whyNoUse_76 rfl (lv_at hl 1 rfl) ?_
          refine xr_dayAdded (j := r) hx hb hK hP (by omega) dX0_whyNoUse_77 ?_
          refine k_X0_isRetained D tI tZ tL h0 ad σ q (σ.2 7 r) (by omega) ⟨hx, hb, hml, hown, hts⟩ gX0_whyNoUse_X0_isRetained ⟨Nat.le_of_ble_eq_true rfl, Nat.le_of_ble_eq_true rfl⟩ hl.1 ⟨Nat.zero_le _, Nat.zero_le _⟩ (Nat.le_of_ble_eq_true rfl) hK hP dX0_whyNoUse_78 ?_
          refine lv_ifeq_b (tgt := 88) hx hb dX0_whyNoUse_81 (by decide) (fun c81 => ?_) (fun c81 => ?_)
          · refine lv_iconst (v := 5) hx hb dX0_whyNoUse_88 (by decide) ?_
            exact q_iret hx hb hr hlocks (by rw [x_why, if_neg (by rw [c18]; decide), if_neg (by rw [c31]; decide), if_neg (by rw [c46]; decide), if_neg (by rw [c65]; decide), if_neg (by rw [c81]; decide)]) dX0_whyNoUse_89
          · refine lv_iconst (v := 0) hx hb dX0_whyNoUse_84 (by decide) ?_
            refine lv_goto (tgt := 89) hx hb dX0_whyNoUse_85 (by decide) ?_
            exact q_iret hx hb hr hlocks (by rw [x_why, if_neg (by rw [c18]; decide), if_neg (by rw [c31]; decide), if_neg (by rw [c46]; decide), if_neg (by rw [c65]; decide), if_pos c81]) dX0_whyNoUse_89
        · refine lv_iconst (v := 4) hx hb dX0_whyNoUse_68 (by decide) ?_
          exact q_iret hx hb hr hlocks (by rw [x_why, if_neg (by rw [c18]; decide), if_neg (by rw [c31]; decide), if_neg (by rw [c46]; decide), if_pos c65]) dX0_whyNoUse_69
      · refine lv_iconst (v := 3) hx hb dX0_whyNoUse_49 (by decide) ?_
        exact q_iret hx hb hr hlocks (by rw [x_why, if_neg (by rw [c18]; decide), if_neg (by rw [c31]; decide), if_pos c46]) dX0_whyNoUse_50
    · refine lv_iconst (v := 2) hx hb dX0_whyNoUse_34 (by decide) ?_
      exact q_iret hx hb hr hlocks (by rw [x_why, if_neg (by rw [c18]; decide), if_pos c31]) dX0_whyNoUse_35
  · refine lv_iconst (v := 1) hx hb dX0_whyNoUse_21 (by decide) ?_
    exact q_iret hx hb hr hlocks (by rw [x_why, if_pos c18]) dX0_whyNoUse_22
theorem k_X0_whyNoUse {p : Program} {l : Launch} {e : Env} {R : Room} {s : State} {m : MethodId} {args : Array Value} {below : List Frame} {meth : Method} {c : Code} {H : Heap} {locs : List Loc} {cells slots : Nat} {Q : State → Prop} {cc : ByteArray} {pc : Nat} {ls : Array Slot} {rest : List Value} {Ts : List Cond} (D : va_G) (tI tZ tL : ClassId) (h0 : Nat) (ad : Nat → Nat) (σ : ST) (r q : Nat) (nr : Nat) (hnr : σ.1 6 = nI nr) (hn30 : nr ≤ 30) (hrn : r < nr) (np : Nat) (hnp : σ.1 1 = nI np) (hn8 : np ≤ 8) (hq : q < np)  {own : String} {idx nL : Nat} (S : CallFix p m c cc nL s args Ts own) (hG : GoodIn Ts (wsV own idx RX0 yX0_whyNoUse wsX0_whyNoUse)) (hR : ({ frames := 3, cells := 0, slots := 0, locals := 64 } : Room).frames + 1 ≤ R.frames ∧ 8 + (3 + 11) + ({ frames := 3, cells := 0, slots := 0, locals := 64 } : Room).locals ≤ R.locals) (hsz : ls.size = nL) (hcap : cells ≤ R.cells ∧ slots ≤ R.slots) (hrm : (rest.map fun v => v.category).sum ≤ 8) (hK : va_K D vwCl (kTY tI tZ tL) s) (hP : va_P D vwCl (x_W tI tZ h0 ad σ) H) (hdg : decode cc pc = .ok (.invokevirtual idx, 3)) (kk : W p l e R s m args below meth c H locs cells slots Q (F0 m (pc + 3) ls (.int (x_why σ np r q) :: rest))) : W p l e R s m args below meth c H locs cells slots Q (F0 m pc ls (.int (nI q) :: .int (nI r) :: .ref h0 :: rest)) :=
  q_call (va_runV (As := [.int (nI r), .int (nI q)]) (rest := rest) S (c_X0_whyNoUse l D tI tZ tL h0 ad σ r q nr hnr hn30 hrn np hnp hn8 hq) (cwV 2 S.2.2.2.2 hG rfl rfl rfl (by decide +kernel) hR) (x_pre hK hP) rfl rfl hsz rfl (lv_room hrm) hdg hcap) kk

set_option maxHeartbeats 4000000 in
set_option maxRecDepth 100000 in
theorem c_X0_whyKept (l : Launch) (D : va_G) (tI tZ tL : ClassId) (h0 : Nat) (ad : Nat → Nat) (σ : ST) (r : Nat) (nr : Nat) (hnr : σ.1 6 = nI nr) (hn30 : nr ≤ 30) (hrn : r < nr)  : Met l yX0_whyKept wsX0_whyKept ({ frames := 3, cells := 0, slots := 0, locals := 64 } : Room) (va_Pc ([.ref h0, .int (nI r)] : List Value) (x_B D tI tZ tL h0 ad σ)) (q_Q (some (.int (x_kept σ nr r)))) 0 0 q_no := by
  refine q_met (cc := cX0_whyKept) (maxL := 2) (ret := (some .int)) (by decide) rfl (Nat.le_of_ble_eq_true rfl) ?_
  intro p e s m below meth c hx hb hml hr hts hown hlocks hB ls hl
  have hown : s.vm.findClass RX0 = some m.cls := hown
  obtain ⟨hP, hK⟩ := hB
  have hl : lv_has ls 2 [(0, .ref h0), (1, .int (nI r))] := hl
  have hin : ∀ w ∈ wsX00, w ∈ wsX0_whyKept := in_X0_whyKept
  have hl_erasedRecords : xl_erasedRecords ∈ wsX0_whyKept := by decide +kernel
  have hl_presentRecords : xl_presentRecords ∈ wsX0_whyKept := by decide +kernel
  refine lv_aload_n hx hb dX0_whyKept_0 rfl (lv_at hl 0 rfl) ?_
  refine lv_iload_n hx hb dX0_whyKept_1 rfl (lv_at hl 1 rfl) ?_
  refine k_X0_checkRecord D tI tZ tL h0 ad σ r nr hnr hn30 hrn ⟨hx, hb, hml, hown, hts⟩ gX0_whyKept_X0_checkRecord ⟨Nat.le_of_ble_eq_true rfl, Nat.le_of_ble_eq_true rfl⟩ hl.1 ⟨Nat.zero_le _, Nat.zero_le _⟩ (Nat.le_of_ble_eq_true rfl) hK hP dX0_whyKept_2 ?_
  refine lv_aload_n hx hb dX0_whyKept_5 rfl (lv_at hl 0 rfl) ?_
  refine xg_erasedRecords hx hb hts hin hown hK hP hl_erasedRecords dX0_whyKept_6 ?_
  refine lv_iload_n hx hb dX0_whyKept_9 rfl (lv_at hl 1 rfl) ?_
  refine k_X0_has (σ.1 14) r (by omega) ⟨hx, hb, hml, hown, hts⟩ gX0_whyKept_X0_has ⟨Nat.le_of_ble_eq_true rfl, Nat.le_of_ble_eq_true rfl⟩ hl.1 ⟨Nat.zero_le _, Nat.zero_le _⟩ (Nat.le_of_ble_eq_true rfl) dX0_whyKept_10 ?_
  refine lv_ifeq_b (tgt := 18) hx hb dX0_whyKept_13 (by decide) (fun c13 => ?_) (fun c13 => ?_)
  · refine lv_aload_n hx hb dX0_whyKept_18 rfl (lv_at hl 0 rfl) ?_
    refine xg_presentRecords hx hb hts hin hown hK hP hl_presentRecords dX0_whyKept_19 ?_
    refine lv_iload_n hx hb dX0_whyKept_22 rfl (lv_at hl 1 rfl) ?_
    refine k_X0_has (σ.1 12) r (by omega) ⟨hx, hb, hml, hown, hts⟩ gX0_whyKept_X0_has ⟨Nat.le_of_ble_eq_true rfl, Nat.le_of_ble_eq_true rfl⟩ hl.1 ⟨Nat.zero_le _, Nat.zero_le _⟩ (Nat.le_of_ble_eq_true rfl) dX0_whyKept_23 ?_
    refine lv_ifeq_b (tgt := 31) hx hb dX0_whyKept_26 (by decide) (fun c26 => ?_) (fun c26 => ?_)
    · refine lv_aload_n hx hb dX0_whyKept_31 rfl (lv_at hl 0 rfl) ?_
      refine k_X0_heldRecords D tI tZ tL h0 ad σ  ⟨hx, hb, hml, hown, hts⟩ gX0_whyKept_X0_heldRecords ⟨Nat.le_of_ble_eq_true rfl, Nat.le_of_ble_eq_true rfl⟩ hl.1 ⟨Nat.zero_le _, Nat.zero_le _⟩ (Nat.le_of_ble_eq_true rfl) hK hP dX0_whyKept_32 ?_
      refine lv_iload_n hx hb dX0_whyKept_35 rfl (lv_at hl 1 rfl) ?_
      refine k_X0_has (x_held (σ.2 15) 6) r (by omega) ⟨hx, hb, hml, hown, hts⟩ gX0_whyKept_X0_has ⟨Nat.le_of_ble_eq_true rfl, Nat.le_of_ble_eq_true rfl⟩ hl.1 ⟨Nat.zero_le _, Nat.zero_le _⟩ (Nat.le_of_ble_eq_true rfl) dX0_whyKept_36 ?_
      refine lv_ifeq_b (tgt := 44) hx hb dX0_whyKept_39 (by decide) (fun c39 => ?_) (fun c39 => ?_)
      · refine lv_aload_n hx hb dX0_whyKept_44 rfl (lv_at hl 0 rfl) ?_
        refine lv_iload_n hx hb dX0_whyKept_45 rfl (lv_at hl 1 rfl) ?_
        refine k_X0_allBelow D tI tZ tL h0 ad σ r (by omega) nr hnr hn30 ⟨hx, hb, hml, hown, hts⟩ gX0_whyKept_X0_allBelow ⟨Nat.le_of_ble_eq_true rfl, Nat.le_of_ble_eq_true rfl⟩ hl.1 ⟨Nat.zero_le _, Nat.zero_le _⟩ (Nat.le_of_ble_eq_true rfl) hK hP dX0_whyKept_46 ?_
        refine lv_aload_n hx hb dX0_whyKept_49 rfl (lv_at hl 0 rfl) ?_
        refine xg_erasedRecords hx hb hts hin hown hK hP hl_erasedRecords dX0_whyKept_50 ?_
        refine lv_iconst (v := (-1)) hx hb dX0_whyKept_53 (by decide) ?_
        refine lv_ixor hx hb dX0_whyKept_54 ?_
        refine lv_iand hx hb dX0_whyKept_55 ?_
        refine lv_if_ne (tgt := 63) hx hb dX0_whyKept_56 (by decide) (fun c56 => ?_) (fun c56 => ?_)
        · refine lv_iconst (v := 4) hx hb dX0_whyKept_63 (by decide) ?_
          exact q_iret hx hb hr hlocks (by rw [x_kept, if_neg (by rw [c13]; decide), if_neg (by rw [c26]; decide), if_neg (by rw [c39]; decide), if_neg c56]) dX0_whyKept_64
        · refine lv_iconst (v := 0) hx hb dX0_whyKept_59 (by decide) ?_
          refine lv_goto (tgt := 64) hx hb dX0_whyKept_60 (by decide) ?_
          exact q_iret hx hb hr hlocks (by rw [x_kept, if_neg (by rw [c13]; decide), if_neg (by rw [c26]; decide), if_neg (by rw [c39]; decide), if_pos c56]) dX0_whyKept_64
      · refine lv_iconst (v := 3) hx hb dX0_whyKept_42 (by decide) ?_
        exact q_iret hx hb hr hlocks (by rw [x_kept, if_neg (by rw [c13]; decide), if_neg (by rw [c26]; decide), if_pos c39]) dX0_whyKept_43
    · refine lv_iconst (v := 2) hx hb dX0_whyKept_29 (by decide) ?_
      exact q_iret hx hb hr hlocks (by rw [x_kept, if_neg (by rw [c13]; decide), if_pos c26]) dX0_whyKept_30
  · refine lv_iconst (v := 1) hx hb dX0_whyKept_16 (by decide) ?_
    exact q_iret hx hb hr hlocks (by rw [x_kept, if_pos c13]) dX0_whyKept_17
theorem k_X0_whyKept {p : Program} {l : Launch} {e : Env} {R : Room} {s : State} {m : MethodId} {args : Array Value} {below : List Frame} {meth : Method} {c : Code} {H : Heap} {locs : List Loc} {cells slots : Nat} {Q : State → Prop} {cc : ByteArray} {pc : Nat} {ls : Array Slot} {rest : List Value} {Ts : List Cond} (D : va_G) (tI tZ tL : ClassId) (h0 : Nat) (ad : Nat → Nat) (σ : ST) (r : Nat) (nr : Nat) (hnr : σ.1 6 = nI nr) (hn30 : nr ≤ 30) (hrn : r < nr)  {own : String} {idx nL : Nat} (S : CallFix p m c cc nL s args Ts own) (hG : GoodIn Ts (wsV own idx RX0 yX0_whyKept wsX0_whyKept)) (hR : ({ frames := 3, cells := 0, slots := 0, locals := 64 } : Room).frames + 1 ≤ R.frames ∧ 8 + (2 + 11) + ({ frames := 3, cells := 0, slots := 0, locals := 64 } : Room).locals ≤ R.locals) (hsz : ls.size = nL) (hcap : cells ≤ R.cells ∧ slots ≤ R.slots) (hrm : (rest.map fun v => v.category).sum ≤ 8) (hK : va_K D vwCl (kTY tI tZ tL) s) (hP : va_P D vwCl (x_W tI tZ h0 ad σ) H) (hdg : decode cc pc = .ok (.invokevirtual idx, 3)) (kk : W p l e R s m args below meth c H locs cells slots Q (F0 m (pc + 3) ls (.int (x_kept σ nr r) :: rest))) : W p l e R s m args below meth c H locs cells slots Q (F0 m pc ls (.int (nI r) :: .ref h0 :: rest)) :=
  q_call (va_runV (As := [.int (nI r)]) (rest := rest) S (c_X0_whyKept l D tI tZ tL h0 ad σ r nr hnr hn30 hrn) (cwV 1 S.2.2.2.2 hG rfl rfl rfl (by decide +kernel) hR) (x_pre hK hP) rfl rfl hsz rfl (lv_room hrm) hdg hcap) kk

set_option maxHeartbeats 4000000 in
set_option maxRecDepth 100000 in
theorem c_X0_uses (l : Launch) (D : va_G) (tI tZ tL : ClassId) (h0 : Nat) (ad : Nat → Nat) (σ : ST) (j : Nat) (hj12 : j < 12) (q : Nat) (np : Nat) (hnp : σ.1 1 = nI np) (hn8 : np ≤ 8) (hq : q < np) (nr : Nat) (hnr : σ.1 6 = nI nr) (hn30 : nr ≤ 30) : Met l yX0_uses wsX0_uses ({ frames := 2, cells := 0, slots := 0, locals := 41 } : Room) (va_Pc ([.ref h0, .int (nI j), .int (nI q)] : List Value) (x_B D tI tZ tL h0 ad σ)) (q_Q (some (.int (x_uses (σ.2 11) (σ.2 9) j q nr)))) 0 0 q_no := by
  refine q_met (cc := cX0_uses) (maxL := 5) (ret := (some .int)) (by decide) rfl (Nat.le_of_ble_eq_true rfl) ?_
  intro p e s m below meth c hx hb hml hr hts hown hlocks hB ls hl
  have hown : s.vm.findClass RX0 = some m.cls := hown
  obtain ⟨hP, hK⟩ := hB
  have hl : lv_has ls 5 [(0, .ref h0), (1, .int (nI j)), (2, .int (nI q))] := hl
  have hin : ∀ w ∈ wsX00, w ∈ wsX0_uses := in_X0_uses
  have hl_recordCount : xl_recordCount ∈ wsX0_uses := by decide +kernel
  have hl_subjectsOfRecord : xl_subjectsOfRecord ∈ wsX0_uses := by decide +kernel
  have hl_useCounts : xl_useCounts ∈ wsX0_uses := by decide +kernel
  refine lv_aload_n hx hb dX0_uses_0 rfl (lv_at hl 0 rfl) ?_
  refine lv_iload_n hx hb dX0_uses_1 rfl (lv_at hl 1 rfl) ?_
  refine k_X0_checkSubject D tI tZ tL h0 ad σ j hj12 ⟨hx, hb, hml, hown, hts⟩ gX0_uses_X0_checkSubject ⟨Nat.le_of_ble_eq_true rfl, Nat.le_of_ble_eq_true rfl⟩ hl.1 ⟨Nat.zero_le _, Nat.zero_le _⟩ (Nat.le_of_ble_eq_true rfl) hK hP dX0_uses_2 ?_
  refine lv_aload_n hx hb dX0_uses_5 rfl (lv_at hl 0 rfl) ?_
  refine lv_iload_n hx hb dX0_uses_6 rfl (lv_at hl 2 rfl) ?_
  refine k_X0_checkPurpose D tI tZ tL h0 ad σ q np hnp hn8 hq ⟨hx, hb, hml, hown, hts⟩ gX0_uses_X0_checkPurpose ⟨Nat.le_of_ble_eq_true rfl, Nat.le_of_ble_eq_true rfl⟩ hl.1 ⟨Nat.zero_le _, Nat.zero_le _⟩ (Nat.le_of_ble_eq_true rfl) hK hP dX0_uses_7 ?_
  refine lv_iconst (v := 0) hx hb dX0_uses_10 (by decide) ?_
  refine lv_istore_n (lv' := [(3, .int 0), (0, .ref h0), (1, .int (nI j)), (2, .int (nI q))]) hx hb dX0_uses_11 rfl hl (by decide) rfl (fun ls hl => ?_)
  refine lv_iconst (v := 0) hx hb dX0_uses_12 (by decide) ?_
  refine lv_istore (lv' := [(4, .int 0), (3, .int 0), (0, .ref h0), (1, .int (nI j)), (2, .int (nI q))]) hx hb dX0_uses_13 hl (by decide) rfl (fun ls hl => ?_)
  have loop15 : ∀ (n k : Nat), k ≤ nr → nr + 1 ≤ k + n → ∀ ls, lv_has ls 5 [(0, .ref h0), (1, .int (nI j)), (2, .int (nI q)), (3, .int (x_uses (σ.2 11) (σ.2 9) j q k)), (4, .int (nI k))] → q_G p l e ({ frames := 2, cells := 0, slots := 0, locals := 41 } : Room) s m ([.ref h0, .int (nI j), .int (nI q)] : List Value).toArray below meth c (some (.int (x_uses (σ.2 11) (σ.2 9) j q nr))) (F0 m 15 ls []) := by
    intro n
    induction n with
    | zero => intro k h1 h2; omega
    | succ n ihk =>
      intro k hk_k hn_k   ls hl
      refine lv_iload hx hb dX0_uses_15 (lv_at hl 4 rfl) ?_
      refine lv_aload_n hx hb dX0_uses_17 rfl (lv_at hl 0 rfl) ?_
      refine xg_recordCount hx hb hts hin hown hK hP hl_recordCount dX0_uses_18 ?_
      refine lv_icmp_ge (tgt := 58) hx hb dX0_uses_21 (by decide) (fun c21 => ?_) (fun c21 => ?_)
      · have hkn : k = nr := Nat.le_antisymm hk_k (ge_t hnr (by omega) (by omega) c21)
        refine lv_iload_n hx hb dX0_uses_58 rfl (lv_at hl 3 rfl) ?_
        exact q_iret hx hb hr hlocks (by rw [hkn]) dX0_uses_59
      · have hkn : k < nr := ge_f hnr (by omega) c21
        refine lv_aload_n hx hb dX0_uses_24 rfl (lv_at hl 0 rfl) ?_
        refine xg_subjectsOfRecord hx hb hts hin hown hK hP hl_subjectsOfRecord dX0_uses_25 ?_
        refine lv_iload hx hb dX0_uses_28 (lv_at hl 4 rfl) ?_
        refine xr_subjectsOfRecord (j := k) hx hb hK hP (by omega) dX0_uses_30 ?_
        refine lv_iload_n hx hb dX0_uses_31 rfl (lv_at hl 1 rfl) ?_
        refine k_X0_has (σ.2 9 k) j (by omega) ⟨hx, hb, hml, hown, hts⟩ gX0_uses_X0_has ⟨Nat.le_of_ble_eq_true rfl, Nat.le_of_ble_eq_true rfl⟩ hl.1 ⟨Nat.zero_le _, Nat.zero_le _⟩ (Nat.le_of_ble_eq_true rfl) dX0_uses_32 ?_
        refine lv_ifeq_b (tgt := 52) hx hb dX0_uses_35 (by decide) (fun c35 => ?_) (fun c35 => ?_)
        · refine lv_iinc (v := (nI k) + 1) (lv' := [(4, .int ((nI k) + 1)), (0, .ref h0), (1, .int (nI j)), (2, .int (nI q)), (3, .int (x_uses (σ.2 11) (σ.2 9) j q k))]) hx hb dX0_uses_52 hl (k := 4) rfl rfl (by decide) rfl (fun ls hl => ?_)
          refine lv_goto (tgt := 15) hx hb dX0_uses_55 (by decide) ?_
          exact ihk (k + 1) (by omega) (by omega)   _ (lv_to (L := [(0, .ref h0), (1, .int (nI j)), (2, .int (nI q)), (3, .int (x_uses (σ.2 11) (σ.2 9) j q k)), (4, .int ((nI k) + 1))]) (lv_sub hl [1, 2, 3, 4, 0] rfl) (lv_cr (lv_cr (lv_cr (lv_ci (by rw [x_uses, if_neg]; rw [c35]; decide) (lv_ci (nI_1 k) rfl))))))
        · refine lv_iload_n hx hb dX0_uses_38 rfl (lv_at hl 3 rfl) ?_
          refine lv_aload_n hx hb dX0_uses_39 rfl (lv_at hl 0 rfl) ?_
          refine xg_useCounts hx hb hts hin hown hK hP hl_useCounts dX0_uses_40 ?_
          refine lv_iload hx hb dX0_uses_43 (lv_at hl 4 rfl) ?_
          refine lv_iload_n hx hb dX0_uses_45 rfl (lv_at hl 2 rfl) ?_
          refine k_X0_useIndex k q ⟨hx, hb, hml, hown, hts⟩ gX0_uses_X0_useIndex ⟨Nat.le_of_ble_eq_true rfl, Nat.le_of_ble_eq_true rfl⟩ hl.1 ⟨Nat.zero_le _, Nat.zero_le _⟩ (Nat.le_of_ble_eq_true rfl) dX0_uses_46 ?_
          refine xr_useCounts (j := k * 8 + q) hx hb hK hP (by omega) dX0_uses_49 ?_
          refine lv_iadd hx hb dX0_uses_50 ?_
          refine lv_istore_n (lv' := [(3, .int ((x_uses (σ.2 11) (σ.2 9) j q k) + (σ.2 11 (k * 8 + q)))), (0, .ref h0), (1, .int (nI j)), (2, .int (nI q)), (4, .int (nI k))]) hx hb dX0_uses_51 rfl hl (by decide) rfl (fun ls hl => ?_)
          refine lv_iinc (v := (nI k) + 1) (lv' := [(4, .int ((nI k) + 1)), (3, .int ((x_uses (σ.2 11) (σ.2 9) j q k) + (σ.2 11 (k * 8 + q)))), (0, .ref h0), (1, .int (nI j)), (2, .int (nI q))]) hx hb dX0_uses_52 hl (k := 4) rfl rfl (by decide) rfl (fun ls hl => ?_)
          refine lv_goto (tgt := 15) hx hb dX0_uses_55 (by decide) ?_
          exact ihk (k + 1) (by omega) (by omega)   _ (lv_to (L := [(0, .ref h0), (1, .int (nI j)), (2, .int (nI q)), (3, .int ((x_uses (σ.2 11) (σ.2 9) j q k) + (σ.2 11 (k * 8 + q)))), (4, .int ((nI k) + 1))]) (lv_sub hl [2, 3, 4, 1, 0] rfl) (lv_cr (lv_cr (lv_cr (lv_ci (by rw [x_uses, if_pos c35]) (lv_ci (nI_1 k) rfl))))))
  exact loop15 (nr + 1) 0 (by omega) (by omega)   _ (lv_to (L := [(0, .ref h0), (1, .int (nI j)), (2, .int (nI q)), (3, .int 0), (4, .int 0)]) (lv_sub hl [2, 3, 4, 1, 0] rfl) (lv_cr (lv_cr (lv_cr (lv_ci (rfl) (lv_ci (rfl) rfl))))))
theorem k_X0_uses {p : Program} {l : Launch} {e : Env} {R : Room} {s : State} {m : MethodId} {args : Array Value} {below : List Frame} {meth : Method} {c : Code} {H : Heap} {locs : List Loc} {cells slots : Nat} {Q : State → Prop} {cc : ByteArray} {pc : Nat} {ls : Array Slot} {rest : List Value} {Ts : List Cond} (D : va_G) (tI tZ tL : ClassId) (h0 : Nat) (ad : Nat → Nat) (σ : ST) (j : Nat) (hj12 : j < 12) (q : Nat) (np : Nat) (hnp : σ.1 1 = nI np) (hn8 : np ≤ 8) (hq : q < np) (nr : Nat) (hnr : σ.1 6 = nI nr) (hn30 : nr ≤ 30) {own : String} {idx nL : Nat} (S : CallFix p m c cc nL s args Ts own) (hG : GoodIn Ts (wsV own idx RX0 yX0_uses wsX0_uses)) (hR : ({ frames := 2, cells := 0, slots := 0, locals := 41 } : Room).frames + 1 ≤ R.frames ∧ 8 + (5 + 11) + ({ frames := 2, cells := 0, slots := 0, locals := 41 } : Room).locals ≤ R.locals) (hsz : ls.size = nL) (hcap : cells ≤ R.cells ∧ slots ≤ R.slots) (hrm : (rest.map fun v => v.category).sum ≤ 8) (hK : va_K D vwCl (kTY tI tZ tL) s) (hP : va_P D vwCl (x_W tI tZ h0 ad σ) H) (hdg : decode cc pc = .ok (.invokevirtual idx, 3)) (kk : W p l e R s m args below meth c H locs cells slots Q (F0 m (pc + 3) ls (.int (x_uses (σ.2 11) (σ.2 9) j q nr) :: rest))) : W p l e R s m args below meth c H locs cells slots Q (F0 m pc ls (.int (nI q) :: .int (nI j) :: .ref h0 :: rest)) :=
  q_call (va_runV (As := [.int (nI j), .int (nI q)]) (rest := rest) S (c_X0_uses l D tI tZ tL h0 ad σ j hj12 q np hnp hn8 hq nr hnr hn30) (cwV 2 S.2.2.2.2 hG rfl rfl rfl (by decide +kernel) hR) (x_pre hK hP) rfl rfl hsz rfl (lv_room hrm) hdg hcap) kk

set_option maxHeartbeats 4000000 in
set_option maxRecDepth 100000 in
theorem c_X0_traces (l : Launch) (D : va_G) (tI tZ tL : ClassId) (h0 : Nat) (ad : Nat → Nat) (σ : ST) (j : Nat) (hj12 : j < 12) (nr : Nat) (hnr : σ.1 6 = nI nr) (hn30 : nr ≤ 30) : Met l yX0_traces wsX0_traces ({ frames := 3, cells := 0, slots := 0, locals := 64 } : Room) (va_Pc ([.ref h0, .int (nI j)] : List Value) (x_B D tI tZ tL h0 ad σ)) (q_Q (some (.int (x_rof (σ.2 9) j nr &&& (σ.1 14 ^^^ (-1)))))) 0 0 q_no := by
  refine q_met (cc := cX0_traces) (maxL := 2) (ret := (some .int)) (by decide) rfl (Nat.le_of_ble_eq_true rfl) ?_
  intro p e s m below meth c hx hb hml hr hts hown hlocks hB ls hl
  have hown : s.vm.findClass RX0 = some m.cls := hown
  obtain ⟨hP, hK⟩ := hB
  have hl : lv_has ls 2 [(0, .ref h0), (1, .int (nI j))] := hl
  have hin : ∀ w ∈ wsX00, w ∈ wsX0_traces := in_X0_traces
  have hl_erasedRecords : xl_erasedRecords ∈ wsX0_traces := by decide +kernel
  refine lv_aload_n hx hb dX0_traces_0 rfl (lv_at hl 0 rfl) ?_
  refine lv_iload_n hx hb dX0_traces_1 rfl (lv_at hl 1 rfl) ?_
  refine k_X0_checkSubject D tI tZ tL h0 ad σ j hj12 ⟨hx, hb, hml, hown, hts⟩ gX0_traces_X0_checkSubject ⟨Nat.le_of_ble_eq_true rfl, Nat.le_of_ble_eq_true rfl⟩ hl.1 ⟨Nat.zero_le _, Nat.zero_le _⟩ (Nat.le_of_ble_eq_true rfl) hK hP dX0_traces_2 ?_
  refine lv_aload_n hx hb dX0_traces_5 rfl (lv_at hl 0 rfl) ?_
  refine lv_iload_n hx hb dX0_traces_6 rfl (lv_at hl 1 rfl) ?_
  refine k_X0_recordsOf D tI tZ tL h0 ad σ j hj12 nr hnr hn30 ⟨hx, hb, hml, hown, hts⟩ gX0_traces_X0_recordsOf ⟨Nat.le_of_ble_eq_true rfl, Nat.le_of_ble_eq_true rfl⟩ hl.1 ⟨Nat.zero_le _, Nat.zero_le _⟩ (Nat.le_of_ble_eq_true rfl) hK hP dX0_traces_7 ?_
  refine lv_aload_n hx hb dX0_traces_10 rfl (lv_at hl 0 rfl) ?_
  refine xg_erasedRecords hx hb hts hin hown hK hP hl_erasedRecords dX0_traces_11 ?_
  refine lv_iconst (v := (-1)) hx hb dX0_traces_14 (by decide) ?_
  refine lv_ixor hx hb dX0_traces_15 ?_
  refine lv_iand hx hb dX0_traces_16 ?_
  exact q_iret hx hb hr hlocks (rfl) dX0_traces_17
theorem k_X0_traces {p : Program} {l : Launch} {e : Env} {R : Room} {s : State} {m : MethodId} {args : Array Value} {below : List Frame} {meth : Method} {c : Code} {H : Heap} {locs : List Loc} {cells slots : Nat} {Q : State → Prop} {cc : ByteArray} {pc : Nat} {ls : Array Slot} {rest : List Value} {Ts : List Cond} (D : va_G) (tI tZ tL : ClassId) (h0 : Nat) (ad : Nat → Nat) (σ : ST) (j : Nat) (hj12 : j < 12) (nr : Nat) (hnr : σ.1 6 = nI nr) (hn30 : nr ≤ 30) {own : String} {idx nL : Nat} (S : CallFix p m c cc nL s args Ts own) (hG : GoodIn Ts (wsV own idx RX0 yX0_traces wsX0_traces)) (hR : ({ frames := 3, cells := 0, slots := 0, locals := 64 } : Room).frames + 1 ≤ R.frames ∧ 8 + (2 + 11) + ({ frames := 3, cells := 0, slots := 0, locals := 64 } : Room).locals ≤ R.locals) (hsz : ls.size = nL) (hcap : cells ≤ R.cells ∧ slots ≤ R.slots) (hrm : (rest.map fun v => v.category).sum ≤ 8) (hK : va_K D vwCl (kTY tI tZ tL) s) (hP : va_P D vwCl (x_W tI tZ h0 ad σ) H) (hdg : decode cc pc = .ok (.invokevirtual idx, 3)) (kk : W p l e R s m args below meth c H locs cells slots Q (F0 m (pc + 3) ls (.int (x_rof (σ.2 9) j nr &&& (σ.1 14 ^^^ (-1))) :: rest))) : W p l e R s m args below meth c H locs cells slots Q (F0 m pc ls (.int (nI j) :: .ref h0 :: rest)) :=
  q_call (va_runV (As := [.int (nI j)]) (rest := rest) S (c_X0_traces l D tI tZ tL h0 ad σ j hj12 nr hnr hn30) (cwV 1 S.2.2.2.2 hG rfl rfl rfl (by decide +kernel) hR) (x_pre hK hP) rfl rfl hsz rfl (lv_room hrm) hdg hcap) kk

set_option maxHeartbeats 4000000 in
set_option maxRecDepth 100000 in
theorem c_X0_tracesFromRoots (l : Launch) (D : va_G) (tI tZ tL : ClassId) (h0 : Nat) (ad : Nat → Nat) (σ : ST) (j : Nat) (hj12 : j < 12) (nr : Nat) (hnr : σ.1 6 = nI nr) (hn30 : nr ≤ 30) : Met l yX0_tracesFromRoots wsX0_tracesFromRoots ({ frames := 3, cells := 0, slots := 0, locals := 64 } : Room) (va_Pc ([.ref h0, .int (nI j)] : List Value) (x_B D tI tZ tL h0 ad σ)) (q_Q (some (.int (x_wab (σ.2 10) (x_roots (σ.2 10) (σ.2 9) j nr) nr &&& (σ.1 14 ^^^ (-1)))))) 0 0 q_no := by
  refine q_met (cc := cX0_tracesFromRoots) (maxL := 2) (ret := (some .int)) (by decide) rfl (Nat.le_of_ble_eq_true rfl) ?_
  intro p e s m below meth c hx hb hml hr hts hown hlocks hB ls hl
  have hown : s.vm.findClass RX0 = some m.cls := hown
  obtain ⟨hP, hK⟩ := hB
  have hl : lv_has ls 2 [(0, .ref h0), (1, .int (nI j))] := hl
  have hin : ∀ w ∈ wsX00, w ∈ wsX0_tracesFromRoots := in_X0_tracesFromRoots
  have hl_erasedRecords : xl_erasedRecords ∈ wsX0_tracesFromRoots := by decide +kernel
  refine lv_aload_n hx hb dX0_tracesFromRoots_0 rfl (lv_at hl 0 rfl) ?_
  refine lv_iload_n hx hb dX0_tracesFromRoots_1 rfl (lv_at hl 1 rfl) ?_
  refine k_X0_checkSubject D tI tZ tL h0 ad σ j hj12 ⟨hx, hb, hml, hown, hts⟩ gX0_tracesFromRoots_X0_checkSubject ⟨Nat.le_of_ble_eq_true rfl, Nat.le_of_ble_eq_true rfl⟩ hl.1 ⟨Nat.zero_le _, Nat.zero_le _⟩ (Nat.le_of_ble_eq_true rfl) hK hP dX0_tracesFromRoots_2 ?_
  refine lv_aload_n hx hb dX0_tracesFromRoots_5 rfl (lv_at hl 0 rfl) ?_
  refine lv_aload_n hx hb dX0_tracesFromRoots_6 rfl (lv_at hl 0 rfl) ?_
  refine lv_iload_n hx hb dX0_tracesFromRoots_7 rfl (lv_at hl 1 rfl) ?_
  refine k_X0_rootsOf D tI tZ tL h0 ad σ j hj12 nr hnr hn30 ⟨hx, hb, hml, hown, hts⟩ gX0_tracesFromRoots_X0_rootsOf ⟨Nat.le_of_ble_eq_true rfl, Nat.le_of_ble_eq_true rfl⟩ hl.1 ⟨Nat.zero_le _, Nat.zero_le _⟩ (Nat.le_of_ble_eq_true rfl) hK hP dX0_tracesFromRoots_8 ?_
  refine k_X0_withAllBelow D tI tZ tL h0 ad σ (x_roots (σ.2 10) (σ.2 9) j nr) nr hnr hn30 ⟨hx, hb, hml, hown, hts⟩ gX0_tracesFromRoots_X0_withAllBelow ⟨Nat.le_of_ble_eq_true rfl, Nat.le_of_ble_eq_true rfl⟩ hl.1 ⟨Nat.zero_le _, Nat.zero_le _⟩ (Nat.le_of_ble_eq_true rfl) hK hP dX0_tracesFromRoots_11 ?_
  refine lv_aload_n hx hb dX0_tracesFromRoots_14 rfl (lv_at hl 0 rfl) ?_
  refine xg_erasedRecords hx hb hts hin hown hK hP hl_erasedRecords dX0_tracesFromRoots_15 ?_
  refine lv_iconst (v := (-1)) hx hb dX0_tracesFromRoots_18 (by decide) ?_
  refine lv_ixor hx hb dX0_tracesFromRoots_19 ?_
  refine lv_iand hx hb dX0_tracesFromRoots_20 ?_
  exact q_iret hx hb hr hlocks (rfl) dX0_tracesFromRoots_21
theorem k_X0_tracesFromRoots {p : Program} {l : Launch} {e : Env} {R : Room} {s : State} {m : MethodId} {args : Array Value} {below : List Frame} {meth : Method} {c : Code} {H : Heap} {locs : List Loc} {cells slots : Nat} {Q : State → Prop} {cc : ByteArray} {pc : Nat} {ls : Array Slot} {rest : List Value} {Ts : List Cond} (D : va_G) (tI tZ tL : ClassId) (h0 : Nat) (ad : Nat → Nat) (σ : ST) (j : Nat) (hj12 : j < 12) (nr : Nat) (hnr : σ.1 6 = nI nr) (hn30 : nr ≤ 30) {own : String} {idx nL : Nat} (S : CallFix p m c cc nL s args Ts own) (hG : GoodIn Ts (wsV own idx RX0 yX0_tracesFromRoots wsX0_tracesFromRoots)) (hR : ({ frames := 3, cells := 0, slots := 0, locals := 64 } : Room).frames + 1 ≤ R.frames ∧ 8 + (2 + 11) + ({ frames := 3, cells := 0, slots := 0, locals := 64 } : Room).locals ≤ R.locals) (hsz : ls.size = nL) (hcap : cells ≤ R.cells ∧ slots ≤ R.slots) (hrm : (rest.map fun v => v.category).sum ≤ 8) (hK : va_K D vwCl (kTY tI tZ tL) s) (hP : va_P D vwCl (x_W tI tZ h0 ad σ) H) (hdg : decode cc pc = .ok (.invokevirtual idx, 3)) (kk : W p l e R s m args below meth c H locs cells slots Q (F0 m (pc + 3) ls (.int (x_wab (σ.2 10) (x_roots (σ.2 10) (σ.2 9) j nr) nr &&& (σ.1 14 ^^^ (-1))) :: rest))) : W p l e R s m args below meth c H locs cells slots Q (F0 m pc ls (.int (nI j) :: .ref h0 :: rest)) :=
  q_call (va_runV (As := [.int (nI j)]) (rest := rest) S (c_X0_tracesFromRoots l D tI tZ tL h0 ad σ j hj12 nr hnr hn30) (cwV 1 S.2.2.2.2 hG rfl rfl rfl (by decide +kernel) hR) (x_pre hK hP) rfl rfl hsz rfl (lv_room hrm) hdg hcap) kk

set_option maxHeartbeats 4000000 in
set_option maxRecDepth 100000 in
theorem c_X0_addPurpose (l : Launch) (D : va_G) (tI tZ tL : ClassId) (h0 : Nat) (ad : Nat → Nat) (σ : ST) (v : Int32) (g : Bool) (hv0 : ¬ v < 0) (hv1 : v ≤ 3650) (np : Nat) (hnp : σ.1 1 = nI np) (hlt8 : np < 8) (hn : (x_L h0 ad).Nodup) : Met l yX0_addPurpose wsX0_addPurpose ({ frames := 1, cells := 0, slots := 0, locals := 21 } : Room) (va_Pc ([.ref h0, .int v, .int (b01 g)] : List Value) (x_B D tI tZ tL h0 ad σ)) (u_Q (some (.int (nI np))) (x_P D tI tZ h0 ad (x_addP σ np v g)) (x_A h0 ad)) 0 0 (x_A h0 ad) := by
  refine u_met (cc := cX0_addPurpose) (maxL := 4) (ret := (some .int)) (by decide) rfl (Nat.le_of_ble_eq_true rfl) ?_
  intro p e s m below meth c hx hb hml hr hts hown hlocks hB hS ls hl
  have hD : ∀ σ : ST, va_D (x_A h0 ad) (x_W tI tZ h0 ad σ) := fun σ => x_D σ hn (fun _ h => h)
  have hown : s.vm.findClass RX0 = some m.cls := hown
  obtain ⟨hP, hK⟩ := hB
  have hl : lv_has ls 4 [(0, .ref h0), (1, .int v), (2, .int (b01 g))] := hl
  have hin : ∀ w ∈ wsX00, w ∈ wsX0_addPurpose := in_X0_addPurpose
  have hl_purposeCount : xl_purposeCount ∈ wsX0_addPurpose := by decide +kernel
  have hl_purposesWithoutConsent : xl_purposesWithoutConsent ∈ wsX0_addPurpose := by decide +kernel
  have hl_retentionOfPurpose : xl_retentionOfPurpose ∈ wsX0_addPurpose := by decide +kernel
  have key : ∀ (H : Heap) (locs : List Loc), va_P D vwCl (x_W tI tZ h0 ad σ) H → va_S (x_A h0 ad) s.heap H locs → ∀ ls, lv_has ls 4 [(0, .ref h0), (1, .int v), (2, .int (b01 g))] → u_G p l e ({ frames := 1, cells := 0, slots := 0, locals := 21 } : Room) s m ([.ref h0, .int v, .int (b01 g)] : List Value).toArray below meth c H locs (some (.int (nI np))) (x_P D tI tZ h0 ad (x_addP σ np v g)) (x_A h0 ad) (F0 m 0 ls []) := by
    intro H locs hP hS ls hl
    refine lv_aload_n hx hb dX0_addPurpose_0 rfl (lv_at hl 0 rfl) ?_
    refine lv_iload_n hx hb dX0_addPurpose_1 rfl (lv_at hl 1 rfl) ?_
    refine k_X0_checkRetention D tI tZ tL h0 ad σ v hv0 hv1 ⟨hx, hb, hml, hown, hts⟩ gX0_addPurpose_X0_checkRetention ⟨Nat.le_of_ble_eq_true rfl, Nat.le_of_ble_eq_true rfl⟩ hl.1 ⟨Nat.zero_le _, Nat.zero_le _⟩ (Nat.le_of_ble_eq_true rfl) hK hP dX0_addPurpose_2 ?_
    refine lv_aload_n hx hb dX0_addPurpose_5 rfl (lv_at hl 0 rfl) ?_
    refine xg_purposeCount hx hb hts hin hown hK hP hl_purposeCount dX0_addPurpose_6 ?_
    refine lv_bipush (v := 8) hx hb dX0_addPurpose_9 (by decide) ?_
    refine lv_icmp_lt (tgt := 24) hx hb dX0_addPurpose_11 (by decide) (fun c11 => ?_) (fun c11 => absurd (show σ.1 1 < 8 by rw [hnp]; exact nI_lt (b := 8) hlt8 (by decide)) c11)
    refine lv_aload_n hx hb dX0_addPurpose_24 rfl (lv_at hl 0 rfl) ?_
    refine xg_purposeCount hx hb hts hin hown hK hP hl_purposeCount dX0_addPurpose_25 ?_
    refine lv_topc (y := nI np) (hnp) ?_
    refine lv_istore_n (lv' := [(3, .int (nI np)), (0, .ref h0), (1, .int v), (2, .int (b01 g))]) hx hb dX0_addPurpose_28 rfl hl (by decide) rfl (fun ls hl => ?_)
    refine lv_aload_n hx hb dX0_addPurpose_29 rfl (lv_at hl 1 rfl) ?_
    refine xg_retentionOfPurpose hx hb hts hin hown hK hP hl_retentionOfPurpose dX0_addPurpose_30 ?_
    refine lv_iload_n hx hb dX0_addPurpose_33 rfl (lv_at hl 0 rfl) ?_
    refine lv_iload_n hx hb dX0_addPurpose_34 rfl (lv_at hl 2 rfl) ?_
    refine xw_retentionOfPurpose (j := np) hx hb hK hP (hD _) hS (by omega) dX0_addPurpose_35 (fun H locs hP hS => ?_)
    refine lv_iload_n hx hb dX0_addPurpose_36 rfl (lv_at hl 3 rfl) ?_
    refine lv_ifne_b (tgt := 53) hx hb dX0_addPurpose_37 (by decide) (fun c37 => ?_) (fun c37 => ?_)
    · refine lv_aload_n hx hb dX0_addPurpose_53 rfl (lv_at hl 1 rfl) ?_
      refine lv_dup hx hb dX0_addPurpose_54 rfl ?_
      refine xg_purposeCount hx hb hts hin hown hK hP hl_purposeCount dX0_addPurpose_55 ?_
      refine lv_iconst (v := 1) hx hb dX0_addPurpose_58 (by decide) ?_
      refine lv_iadd hx hb dX0_addPurpose_59 ?_
      refine xp_purposeCount hx hb hts hin hown hK hP (hD _) hS hl_purposeCount dX0_addPurpose_60 (fun H locs hP hS => ?_)
      refine lv_iload_n hx hb dX0_addPurpose_63 rfl (lv_at hl 0 rfl) ?_
      exact u_iret hx hb hr hlocks hS (by unfold x_addP; rw [if_pos c37, ← nI_1, ← hnp]; exact hP) (rfl) dX0_addPurpose_64
    · refine lv_aload_n hx hb dX0_addPurpose_40 rfl (lv_at hl 1 rfl) ?_
      refine lv_dup hx hb dX0_addPurpose_41 rfl ?_
      refine xg_purposesWithoutConsent hx hb hts hin hown hK hP hl_purposesWithoutConsent dX0_addPurpose_42 ?_
      refine lv_iload_n hx hb dX0_addPurpose_45 rfl (lv_at hl 0 rfl) ?_
      refine k_X0_bit np ⟨hx, hb, hml, hown, hts⟩ gX0_addPurpose_X0_bit ⟨Nat.le_of_ble_eq_true rfl, Nat.le_of_ble_eq_true rfl⟩ hl.1 ⟨Nat.zero_le _, Nat.zero_le _⟩ (Nat.le_of_ble_eq_true rfl) dX0_addPurpose_46 ?_
      refine lv_ior hx hb dX0_addPurpose_49 ?_
      refine xp_purposesWithoutConsent hx hb hts hin hown hK hP (hD _) hS hl_purposesWithoutConsent dX0_addPurpose_50 (fun H locs hP hS => ?_)
      refine lv_aload_n hx hb dX0_addPurpose_53 rfl (lv_at hl 1 rfl) ?_
      refine lv_dup hx hb dX0_addPurpose_54 rfl ?_
      refine xg_purposeCount hx hb hts hin hown hK hP hl_purposeCount dX0_addPurpose_55 ?_
      refine lv_iconst (v := 1) hx hb dX0_addPurpose_58 (by decide) ?_
      refine lv_iadd hx hb dX0_addPurpose_59 ?_
      refine xp_purposeCount hx hb hts hin hown hK hP (hD _) hS hl_purposeCount dX0_addPurpose_60 (fun H locs hP hS => ?_)
      refine lv_iload_n hx hb dX0_addPurpose_63 rfl (lv_at hl 0 rfl) ?_
      exact u_iret hx hb hr hlocks hS (by unfold x_addP; rw [if_neg (by rw [c37]; decide), ← nI_1, ← hnp]; exact hP) (rfl) dX0_addPurpose_64
  exact key _ _ hP hS ls hl
theorem k_X0_addPurpose {p : Program} {l : Launch} {e : Env} {R : Room} {s : State} {m : MethodId} {args : Array Value} {below : List Frame} {meth : Method} {c : Code} {H : Heap} {locs : List Loc} {cells slots : Nat} {Q : State → Prop} {cc : ByteArray} {pc : Nat} {ls : Array Slot} {rest : List Value} {Ts : List Cond} (D : va_G) (tI tZ tL : ClassId) (h0 : Nat) (ad : Nat → Nat) (σ : ST) (v : Int32) (g : Bool) (hv0 : ¬ v < 0) (hv1 : v ≤ 3650) (np : Nat) (hnp : σ.1 1 = nI np) (hlt8 : np < 8) {A0 : Nat → Prop} {H0 : Heap} {own : String} {idx nL : Nat} (S : CallFix p m c cc nL s args Ts own) (hG : GoodIn Ts (wsV own idx RX0 yX0_addPurpose wsX0_addPurpose)) (hR : ({ frames := 1, cells := 0, slots := 0, locals := 21 } : Room).frames + 1 ≤ R.frames ∧ 8 + (4 + 11) + ({ frames := 1, cells := 0, slots := 0, locals := 21 } : Room).locals ≤ R.locals) (hsz : ls.size = nL) (hcap : cells ≤ R.cells ∧ slots ≤ R.slots) (hrm : (rest.map fun v => v.category).sum ≤ 8) (hn : (x_L h0 ad).Nodup) (hK : va_K D vwCl (kTY tI tZ tL) s) (hP : va_P D vwCl (x_W tI tZ h0 ad σ) H) (hS : va_S A0 H0 H locs) (hA : ∀ q, x_A h0 ad q → A0 q) (hdg : decode cc pc = .ok (.invokevirtual idx, 3)) (kk : ∀ (H1 : Heap) (locs1 : List Loc), va_P D vwCl (x_W tI tZ h0 ad (x_addP σ np v g)) H1 → H.size ≤ H1.size → (∀ q : Nat, q < H.size → ¬ x_A h0 ad q → H1[q]? = H[q]?) → va_S A0 H0 H1 locs1 → W p l e R s m args below meth c H1 locs1 cells slots Q (F0 m (pc + 3) ls (.int (nI np) :: rest))) : W p l e R s m args below meth c H locs cells slots Q (F0 m pc ls (.int (b01 g) :: .int v :: .ref h0 :: rest)) :=
  u_call (va_runV (As := [.int v, .int (b01 g)]) (rest := rest) S (c_X0_addPurpose l D tI tZ tL h0 ad σ v g hv0 hv1 np hnp hlt8 hn) (cwV 2 S.2.2.2.2 hG rfl rfl rfl (by decide +kernel) hR) (x_pre hK hP) rfl rfl hsz rfl (lv_room hrm) hdg hcap) hS hA hA kk

set_option maxHeartbeats 4000000 in
set_option maxRecDepth 100000 in
theorem c_X0_setRetention (l : Launch) (D : va_G) (tI tZ tL : ClassId) (h0 : Nat) (ad : Nat → Nat) (σ : ST) (q : Nat) (v : Int32) (np : Nat) (hnp : σ.1 1 = nI np) (hn8 : np ≤ 8) (hq : q < np) (hv0 : ¬ v < 0) (hv1 : v ≤ 3650) (hn : (x_L h0 ad).Nodup) : Met l yX0_setRetention wsX0_setRetention ({ frames := 1, cells := 0, slots := 0, locals := 21 } : Room) (va_Pc ([.ref h0, .int (nI q), .int v] : List Value) (x_B D tI tZ tL h0 ad σ)) (u_Q (some (.int (σ.2 2 q))) (x_P D tI tZ h0 ad (s_put σ 2 q v)) (x_A h0 ad)) 0 0 (x_A h0 ad) := by
  refine u_met (cc := cX0_setRetention) (maxL := 4) (ret := (some .int)) (by decide) rfl (Nat.le_of_ble_eq_true rfl) ?_
  intro p e s m below meth c hx hb hml hr hts hown hlocks hB hS ls hl
  have hD : ∀ σ : ST, va_D (x_A h0 ad) (x_W tI tZ h0 ad σ) := fun σ => x_D σ hn (fun _ h => h)
  have hown : s.vm.findClass RX0 = some m.cls := hown
  obtain ⟨hP, hK⟩ := hB
  have hl : lv_has ls 4 [(0, .ref h0), (1, .int (nI q)), (2, .int v)] := hl
  have hin : ∀ w ∈ wsX00, w ∈ wsX0_setRetention := in_X0_setRetention
  have hl_retentionOfPurpose : xl_retentionOfPurpose ∈ wsX0_setRetention := by decide +kernel
  have key : ∀ (H : Heap) (locs : List Loc), va_P D vwCl (x_W tI tZ h0 ad σ) H → va_S (x_A h0 ad) s.heap H locs → ∀ ls, lv_has ls 4 [(0, .ref h0), (1, .int (nI q)), (2, .int v)] → u_G p l e ({ frames := 1, cells := 0, slots := 0, locals := 21 } : Room) s m ([.ref h0, .int (nI q), .int v] : List Value).toArray below meth c H locs (some (.int (σ.2 2 q))) (x_P D tI tZ h0 ad (s_put σ 2 q v)) (x_A h0 ad) (F0 m 0 ls []) := by
    intro H locs hP hS ls hl
    refine lv_aload_n hx hb dX0_setRetention_0 rfl (lv_at hl 0 rfl) ?_
    refine lv_iload_n hx hb dX0_setRetention_1 rfl (lv_at hl 1 rfl) ?_
    refine k_X0_checkPurpose D tI tZ tL h0 ad σ q np hnp hn8 hq ⟨hx, hb, hml, hown, hts⟩ gX0_setRetention_X0_checkPurpose ⟨Nat.le_of_ble_eq_true rfl, Nat.le_of_ble_eq_true rfl⟩ hl.1 ⟨Nat.zero_le _, Nat.zero_le _⟩ (Nat.le_of_ble_eq_true rfl) hK hP dX0_setRetention_2 ?_
    refine lv_aload_n hx hb dX0_setRetention_5 rfl (lv_at hl 0 rfl) ?_
    refine lv_iload_n hx hb dX0_setRetention_6 rfl (lv_at hl 2 rfl) ?_
    refine k_X0_checkRetention D tI tZ tL h0 ad σ v hv0 hv1 ⟨hx, hb, hml, hown, hts⟩ gX0_setRetention_X0_checkRetention ⟨Nat.le_of_ble_eq_true rfl, Nat.le_of_ble_eq_true rfl⟩ hl.1 ⟨Nat.zero_le _, Nat.zero_le _⟩ (Nat.le_of_ble_eq_true rfl) hK hP dX0_setRetention_7 ?_
    refine lv_aload_n hx hb dX0_setRetention_10 rfl (lv_at hl 0 rfl) ?_
    refine xg_retentionOfPurpose hx hb hts hin hown hK hP hl_retentionOfPurpose dX0_setRetention_11 ?_
    refine lv_iload_n hx hb dX0_setRetention_14 rfl (lv_at hl 1 rfl) ?_
    refine xr_retentionOfPurpose (j := q) hx hb hK hP (by omega) dX0_setRetention_15 ?_
    refine lv_istore_n (lv' := [(3, .int (σ.2 2 q)), (0, .ref h0), (1, .int (nI q)), (2, .int v)]) hx hb dX0_setRetention_16 rfl hl (by decide) rfl (fun ls hl => ?_)
    refine lv_aload_n hx hb dX0_setRetention_17 rfl (lv_at hl 1 rfl) ?_
    refine xg_retentionOfPurpose hx hb hts hin hown hK hP hl_retentionOfPurpose dX0_setRetention_18 ?_
    refine lv_iload_n hx hb dX0_setRetention_21 rfl (lv_at hl 2 rfl) ?_
    refine lv_iload_n hx hb dX0_setRetention_22 rfl (lv_at hl 3 rfl) ?_
    refine xw_retentionOfPurpose (j := q) hx hb hK hP (hD _) hS (by omega) dX0_setRetention_23 (fun H locs hP hS => ?_)
    refine lv_iload_n hx hb dX0_setRetention_24 rfl (lv_at hl 0 rfl) ?_
    exact u_iret hx hb hr hlocks hS (hP) (rfl) dX0_setRetention_25
  exact key _ _ hP hS ls hl
theorem k_X0_setRetention {p : Program} {l : Launch} {e : Env} {R : Room} {s : State} {m : MethodId} {args : Array Value} {below : List Frame} {meth : Method} {c : Code} {H : Heap} {locs : List Loc} {cells slots : Nat} {Q : State → Prop} {cc : ByteArray} {pc : Nat} {ls : Array Slot} {rest : List Value} {Ts : List Cond} (D : va_G) (tI tZ tL : ClassId) (h0 : Nat) (ad : Nat → Nat) (σ : ST) (q : Nat) (v : Int32) (np : Nat) (hnp : σ.1 1 = nI np) (hn8 : np ≤ 8) (hq : q < np) (hv0 : ¬ v < 0) (hv1 : v ≤ 3650) {A0 : Nat → Prop} {H0 : Heap} {own : String} {idx nL : Nat} (S : CallFix p m c cc nL s args Ts own) (hG : GoodIn Ts (wsV own idx RX0 yX0_setRetention wsX0_setRetention)) (hR : ({ frames := 1, cells := 0, slots := 0, locals := 21 } : Room).frames + 1 ≤ R.frames ∧ 8 + (4 + 11) + ({ frames := 1, cells := 0, slots := 0, locals := 21 } : Room).locals ≤ R.locals) (hsz : ls.size = nL) (hcap : cells ≤ R.cells ∧ slots ≤ R.slots) (hrm : (rest.map fun v => v.category).sum ≤ 8) (hn : (x_L h0 ad).Nodup) (hK : va_K D vwCl (kTY tI tZ tL) s) (hP : va_P D vwCl (x_W tI tZ h0 ad σ) H) (hS : va_S A0 H0 H locs) (hA : ∀ q, x_A h0 ad q → A0 q) (hdg : decode cc pc = .ok (.invokevirtual idx, 3)) (kk : ∀ (H1 : Heap) (locs1 : List Loc), va_P D vwCl (x_W tI tZ h0 ad (s_put σ 2 q v)) H1 → H.size ≤ H1.size → (∀ q : Nat, q < H.size → ¬ x_A h0 ad q → H1[q]? = H[q]?) → va_S A0 H0 H1 locs1 → W p l e R s m args below meth c H1 locs1 cells slots Q (F0 m (pc + 3) ls (.int (σ.2 2 q) :: rest))) : W p l e R s m args below meth c H locs cells slots Q (F0 m pc ls (.int v :: .int (nI q) :: .ref h0 :: rest)) :=
  u_call (va_runV (As := [.int (nI q), .int v]) (rest := rest) S (c_X0_setRetention l D tI tZ tL h0 ad σ q v np hnp hn8 hq hv0 hv1 hn) (cwV 2 S.2.2.2.2 hG rfl rfl rfl (by decide +kernel) hR) (x_pre hK hP) rfl rfl hsz rfl (lv_room hrm) hdg hcap) hS hA hA kk

set_option maxHeartbeats 4000000 in
set_option maxRecDepth 100000 in
theorem c_X0_consent (l : Launch) (D : va_G) (tI tZ tL : ClassId) (h0 : Nat) (ad : Nat → Nat) (σ : ST) (j : Nat) (hj12 : j < 12) (q : Nat) (g : Bool) (np : Nat) (hnp : σ.1 1 = nI np) (hn8 : np ≤ 8) (hq : q < np) (hn : (x_L h0 ad).Nodup) : Met l yX0_consent wsX0_consent ({ frames := 2, cells := 0, slots := 0, locals := 41 } : Room) (va_Pc ([.ref h0, .int (nI j), .int (nI q), .int (b01 g)] : List Value) (x_B D tI tZ tL h0 ad σ)) (u_Q (some (.int (b01 (!(bt (σ.2 4 j) q == g))))) (x_P D tI tZ h0 ad (x_consS σ j q g)) (x_A h0 ad)) 0 0 (x_A h0 ad) := by
  refine u_met (cc := cX0_consent) (maxL := 4) (ret := (some .boolean)) (by decide) rfl (Nat.le_of_ble_eq_true rfl) ?_
  intro p e s m below meth c hx hb hml hr hts hown hlocks hB hS ls hl
  have hD : ∀ σ : ST, va_D (x_A h0 ad) (x_W tI tZ h0 ad σ) := fun σ => x_D σ hn (fun _ h => h)
  have hown : s.vm.findClass RX0 = some m.cls := hown
  obtain ⟨hP, hK⟩ := hB
  have hl : lv_has ls 4 [(0, .ref h0), (1, .int (nI j)), (2, .int (nI q)), (3, .int (b01 g))] := hl
  have hin : ∀ w ∈ wsX00, w ∈ wsX0_consent := in_X0_consent
  have hl_consentsOfSubject : xl_consentsOfSubject ∈ wsX0_consent := by decide +kernel
  have key : ∀ (H : Heap) (locs : List Loc), va_P D vwCl (x_W tI tZ h0 ad σ) H → va_S (x_A h0 ad) s.heap H locs → ∀ ls, lv_has ls 4 [(0, .ref h0), (1, .int (nI j)), (2, .int (nI q)), (3, .int (b01 g))] → u_G p l e ({ frames := 2, cells := 0, slots := 0, locals := 41 } : Room) s m ([.ref h0, .int (nI j), .int (nI q), .int (b01 g)] : List Value).toArray below meth c H locs (some (.int (b01 (!(bt (σ.2 4 j) q == g))))) (x_P D tI tZ h0 ad (x_consS σ j q g)) (x_A h0 ad) (F0 m 0 ls []) := by
    intro H locs hP hS ls hl
    refine lv_aload_n hx hb dX0_consent_0 rfl (lv_at hl 0 rfl) ?_
    refine lv_iload_n hx hb dX0_consent_1 rfl (lv_at hl 1 rfl) ?_
    refine k_X0_checkSubject D tI tZ tL h0 ad σ j hj12 ⟨hx, hb, hml, hown, hts⟩ gX0_consent_X0_checkSubject ⟨Nat.le_of_ble_eq_true rfl, Nat.le_of_ble_eq_true rfl⟩ hl.1 ⟨Nat.zero_le _, Nat.zero_le _⟩ (Nat.le_of_ble_eq_true rfl) hK hP dX0_consent_2 ?_
    refine lv_aload_n hx hb dX0_consent_5 rfl (lv_at hl 0 rfl) ?_
    refine lv_iload_n hx hb dX0_consent_6 rfl (lv_at hl 2 rfl) ?_
    refine k_X0_checkPurpose D tI tZ tL h0 ad σ q np hnp hn8 hq ⟨hx, hb, hml, hown, hts⟩ gX0_consent_X0_checkPurpose ⟨Nat.le_of_ble_eq_true rfl, Nat.le_of_ble_eq_true rfl⟩ hl.1 ⟨Nat.zero_le _, Nat.zero_le _⟩ (Nat.le_of_ble_eq_true rfl) hK hP dX0_consent_7 ?_
    refine lv_aload_n hx hb dX0_consent_10 rfl (lv_at hl 0 rfl) ?_
    refine xg_consentsOfSubject hx hb hts hin hown hK hP hl_consentsOfSubject dX0_consent_11 ?_
    refine lv_iload_n hx hb dX0_consent_14 rfl (lv_at hl 1 rfl) ?_
    refine xr_consentsOfSubject (j := j) hx hb hK hP (by omega) dX0_consent_15 ?_
    refine lv_iload_n hx hb dX0_consent_16 rfl (lv_at hl 2 rfl) ?_
    refine k_X0_has (σ.2 4 j) q (by omega) ⟨hx, hb, hml, hown, hts⟩ gX0_consent_X0_has ⟨Nat.le_of_ble_eq_true rfl, Nat.le_of_ble_eq_true rfl⟩ hl.1 ⟨Nat.zero_le _, Nat.zero_le _⟩ (Nat.le_of_ble_eq_true rfl) dX0_consent_17 ?_
    refine lv_iload_n hx hb dX0_consent_20 rfl (lv_at hl 3 rfl) ?_
    refine lv_icmp_ne (tgt := 26) hx hb dX0_consent_21 (by decide) (fun c21 => ?_) (fun c21 => ?_)
    · refine lv_aload_n hx hb dX0_consent_26 rfl (lv_at hl 0 rfl) ?_
      refine xg_consentsOfSubject hx hb hts hin hown hK hP hl_consentsOfSubject dX0_consent_27 ?_
      refine lv_iload_n hx hb dX0_consent_30 rfl (lv_at hl 1 rfl) ?_
      refine lv_dup2_11 hx hb dX0_consent_31 rfl rfl ?_
      refine xr_consentsOfSubject (j := j) hx hb hK hP (by omega) dX0_consent_32 ?_
      refine lv_iload_n hx hb dX0_consent_33 rfl (lv_at hl 2 rfl) ?_
      refine k_X0_bit q ⟨hx, hb, hml, hown, hts⟩ gX0_consent_X0_bit ⟨Nat.le_of_ble_eq_true rfl, Nat.le_of_ble_eq_true rfl⟩ hl.1 ⟨Nat.zero_le _, Nat.zero_le _⟩ (Nat.le_of_ble_eq_true rfl) dX0_consent_34 ?_
      refine lv_ixor hx hb dX0_consent_37 ?_
      refine xw_consentsOfSubject (j := j) hx hb hK hP (hD _) hS (by omega) dX0_consent_38 (fun H locs hP hS => ?_)
      refine lv_iconst (v := 1) hx hb dX0_consent_39 (by decide) ?_
      exact u_zret hx hb hr hlocks hS (by unfold x_consS; rw [if_neg (fun h => c21 (b01_inj.mpr h))]; exact hP) (by rw [show (bt (σ.2 4 j) q == g) = false from beq_false_of_ne (fun h => c21 (b01_inj.mpr h))]; rfl) dX0_consent_40
    · refine lv_iconst (v := 0) hx hb dX0_consent_24 (by decide) ?_
      exact u_zret hx hb hr hlocks hS (by unfold x_consS; rw [if_pos (b01_inj.mp c21)]; exact hP) (by rw [b01_inj.mp c21, beq_self_eq_true]; rfl) dX0_consent_25
  exact key _ _ hP hS ls hl
theorem k_X0_consent {p : Program} {l : Launch} {e : Env} {R : Room} {s : State} {m : MethodId} {args : Array Value} {below : List Frame} {meth : Method} {c : Code} {H : Heap} {locs : List Loc} {cells slots : Nat} {Q : State → Prop} {cc : ByteArray} {pc : Nat} {ls : Array Slot} {rest : List Value} {Ts : List Cond} (D : va_G) (tI tZ tL : ClassId) (h0 : Nat) (ad : Nat → Nat) (σ : ST) (j : Nat) (hj12 : j < 12) (q : Nat) (g : Bool) (np : Nat) (hnp : σ.1 1 = nI np) (hn8 : np ≤ 8) (hq : q < np) {A0 : Nat → Prop} {H0 : Heap} {own : String} {idx nL : Nat} (S : CallFix p m c cc nL s args Ts own) (hG : GoodIn Ts (wsV own idx RX0 yX0_consent wsX0_consent)) (hR : ({ frames := 2, cells := 0, slots := 0, locals := 41 } : Room).frames + 1 ≤ R.frames ∧ 8 + (4 + 11) + ({ frames := 2, cells := 0, slots := 0, locals := 41 } : Room).locals ≤ R.locals) (hsz : ls.size = nL) (hcap : cells ≤ R.cells ∧ slots ≤ R.slots) (hrm : (rest.map fun v => v.category).sum ≤ 8) (hn : (x_L h0 ad).Nodup) (hK : va_K D vwCl (kTY tI tZ tL) s) (hP : va_P D vwCl (x_W tI tZ h0 ad σ) H) (hS : va_S A0 H0 H locs) (hA : ∀ q, x_A h0 ad q → A0 q) (hdg : decode cc pc = .ok (.invokevirtual idx, 3)) (kk : ∀ (H1 : Heap) (locs1 : List Loc), va_P D vwCl (x_W tI tZ h0 ad (x_consS σ j q g)) H1 → H.size ≤ H1.size → (∀ q : Nat, q < H.size → ¬ x_A h0 ad q → H1[q]? = H[q]?) → va_S A0 H0 H1 locs1 → W p l e R s m args below meth c H1 locs1 cells slots Q (F0 m (pc + 3) ls (.int (b01 (!(bt (σ.2 4 j) q == g))) :: rest))) : W p l e R s m args below meth c H locs cells slots Q (F0 m pc ls (.int (b01 g) :: .int (nI q) :: .int (nI j) :: .ref h0 :: rest)) :=
  u_call (va_runV (As := [.int (nI j), .int (nI q), .int (b01 g)]) (rest := rest) S (c_X0_consent l D tI tZ tL h0 ad σ j hj12 q g np hnp hn8 hq hn) (cwV 3 S.2.2.2.2 hG rfl rfl rfl (by decide +kernel) hR) (x_pre hK hP) rfl rfl hsz rfl (lv_room hrm) hdg hcap) hS hA hA kk

set_option maxHeartbeats 4000000 in
set_option maxRecDepth 100000 in
theorem c_X0_add (l : Launch) (D : va_G) (tI tZ tL : ClassId) (h0 : Nat) (ad : Nat → Nat) (σ : ST) (j : Nat) (hj12 : j < 12) (P : Int32) (nr : Nat) (hnr : σ.1 6 = nI nr) (hr30 : nr < 30) (np : Nat) (hnp : σ.1 1 = nI np) (hn8 : np ≤ 8) (hq1 : P &&& ((bI np - 1) ^^^ (-1)) = 0) (hq2 : ¬ P = 0) (hop : x_open σ np P (bI j) (σ.1 0) = true) (hn : (x_L h0 ad).Nodup) : Met l yX0_add wsX0_add ({ frames := 5, cells := 0, slots := 0, locals := 113 } : Room) (va_Pc ([.ref h0, .int (nI j), .int P] : List Value) (x_B D tI tZ tL h0 ad σ)) (u_Q (some (.int (nI nr))) (x_P D tI tZ h0 ad (x_addR σ nr (bI j) P 0)) (x_A h0 ad)) 0 0 (x_A h0 ad) := by
  refine u_met (cc := cX0_add) (maxL := 3) (ret := (some .int)) (by decide) rfl (Nat.le_of_ble_eq_true rfl) ?_
  intro p e s m below meth c hx hb hml hr hts hown hlocks hB hS ls hl
  have hD : ∀ σ : ST, va_D (x_A h0 ad) (x_W tI tZ h0 ad σ) := fun σ => x_D σ hn (fun _ h => h)
  have hown : s.vm.findClass RX0 = some m.cls := hown
  obtain ⟨hP, hK⟩ := hB
  have hl : lv_has ls 3 [(0, .ref h0), (1, .int (nI j)), (2, .int P)] := hl
  have key : ∀ (H : Heap) (locs : List Loc), va_P D vwCl (x_W tI tZ h0 ad σ) H → va_S (x_A h0 ad) s.heap H locs → ∀ ls, lv_has ls 3 [(0, .ref h0), (1, .int (nI j)), (2, .int P)] → u_G p l e ({ frames := 5, cells := 0, slots := 0, locals := 113 } : Room) s m ([.ref h0, .int (nI j), .int P] : List Value).toArray below meth c H locs (some (.int (nI nr))) (x_P D tI tZ h0 ad (x_addR σ nr (bI j) P 0)) (x_A h0 ad) (F0 m 0 ls []) := by
    intro H locs hP hS ls hl
    refine lv_aload_n hx hb dX0_add_0 rfl (lv_at hl 0 rfl) ?_
    refine lv_iload_n hx hb dX0_add_1 rfl (lv_at hl 1 rfl) ?_
    refine k_X0_checkSubject D tI tZ tL h0 ad σ j hj12 ⟨hx, hb, hml, hown, hts⟩ gX0_add_X0_checkSubject ⟨Nat.le_of_ble_eq_true rfl, Nat.le_of_ble_eq_true rfl⟩ hl.1 ⟨Nat.zero_le _, Nat.zero_le _⟩ (Nat.le_of_ble_eq_true rfl) hK hP dX0_add_2 ?_
    refine lv_aload_n hx hb dX0_add_5 rfl (lv_at hl 0 rfl) ?_
    refine lv_iload_n hx hb dX0_add_6 rfl (lv_at hl 2 rfl) ?_
    refine k_X0_checkPurposes D tI tZ tL h0 ad σ P np hnp hn8 hq1 hq2 ⟨hx, hb, hml, hown, hts⟩ gX0_add_X0_checkPurposes ⟨Nat.le_of_ble_eq_true rfl, Nat.le_of_ble_eq_true rfl⟩ hl.1 ⟨Nat.zero_le _, Nat.zero_le _⟩ (Nat.le_of_ble_eq_true rfl) hK hP dX0_add_7 ?_
    refine lv_aload_n hx hb dX0_add_10 rfl (lv_at hl 0 rfl) ?_
    refine lv_iload_n hx hb dX0_add_11 rfl (lv_at hl 1 rfl) ?_
    refine k_X0_bit j ⟨hx, hb, hml, hown, hts⟩ gX0_add_X0_bit ⟨Nat.le_of_ble_eq_true rfl, Nat.le_of_ble_eq_true rfl⟩ hl.1 ⟨Nat.zero_le _, Nat.zero_le _⟩ (Nat.le_of_ble_eq_true rfl) dX0_add_12 ?_
    refine lv_iload_n hx hb dX0_add_15 rfl (lv_at hl 2 rfl) ?_
    refine lv_iconst (v := 0) hx hb dX0_add_16 (by decide) ?_
    refine k_X0_addRecord D tI tZ tL h0 ad σ (bI j) P 0 nr hnr hr30 np hnp hn8 hop ⟨hx, hb, hml, hown, hts⟩ gX0_add_X0_addRecord ⟨Nat.le_of_ble_eq_true rfl, Nat.le_of_ble_eq_true rfl⟩ hl.1 ⟨Nat.zero_le _, Nat.zero_le _⟩ (Nat.le_of_ble_eq_true rfl) hn hK hP hS (fun q h => h) dX0_add_17 (fun H locs hP _ _ hS => ?_)
    exact u_iret hx hb hr hlocks hS (hP) (rfl) dX0_add_20
  exact key _ _ hP hS ls hl
theorem k_X0_add {p : Program} {l : Launch} {e : Env} {R : Room} {s : State} {m : MethodId} {args : Array Value} {below : List Frame} {meth : Method} {c : Code} {H : Heap} {locs : List Loc} {cells slots : Nat} {Q : State → Prop} {cc : ByteArray} {pc : Nat} {ls : Array Slot} {rest : List Value} {Ts : List Cond} (D : va_G) (tI tZ tL : ClassId) (h0 : Nat) (ad : Nat → Nat) (σ : ST) (j : Nat) (hj12 : j < 12) (P : Int32) (nr : Nat) (hnr : σ.1 6 = nI nr) (hr30 : nr < 30) (np : Nat) (hnp : σ.1 1 = nI np) (hn8 : np ≤ 8) (hq1 : P &&& ((bI np - 1) ^^^ (-1)) = 0) (hq2 : ¬ P = 0) (hop : x_open σ np P (bI j) (σ.1 0) = true) {A0 : Nat → Prop} {H0 : Heap} {own : String} {idx nL : Nat} (S : CallFix p m c cc nL s args Ts own) (hG : GoodIn Ts (wsV own idx RX0 yX0_add wsX0_add)) (hR : ({ frames := 5, cells := 0, slots := 0, locals := 113 } : Room).frames + 1 ≤ R.frames ∧ 8 + (3 + 11) + ({ frames := 5, cells := 0, slots := 0, locals := 113 } : Room).locals ≤ R.locals) (hsz : ls.size = nL) (hcap : cells ≤ R.cells ∧ slots ≤ R.slots) (hrm : (rest.map fun v => v.category).sum ≤ 8) (hn : (x_L h0 ad).Nodup) (hK : va_K D vwCl (kTY tI tZ tL) s) (hP : va_P D vwCl (x_W tI tZ h0 ad σ) H) (hS : va_S A0 H0 H locs) (hA : ∀ q, x_A h0 ad q → A0 q) (hdg : decode cc pc = .ok (.invokevirtual idx, 3)) (kk : ∀ (H1 : Heap) (locs1 : List Loc), va_P D vwCl (x_W tI tZ h0 ad (x_addR σ nr (bI j) P 0)) H1 → H.size ≤ H1.size → (∀ q : Nat, q < H.size → ¬ x_A h0 ad q → H1[q]? = H[q]?) → va_S A0 H0 H1 locs1 → W p l e R s m args below meth c H1 locs1 cells slots Q (F0 m (pc + 3) ls (.int (nI nr) :: rest))) : W p l e R s m args below meth c H locs cells slots Q (F0 m pc ls (.int P :: .int (nI j) :: .ref h0 :: rest)) :=
  u_call (va_runV (As := [.int (nI j), .int P]) (rest := rest) S (c_X0_add l D tI tZ tL h0 ad σ j hj12 P nr hnr hr30 np hnp hn8 hq1 hq2 hop hn) (cwV 2 S.2.2.2.2 hG rfl rfl rfl (by decide +kernel) hR) (x_pre hK hP) rfl rfl hsz rfl (lv_room hrm) hdg hcap) hS hA hA kk

set_option maxHeartbeats 4000000 in
set_option maxRecDepth 100000 in
theorem c_X0_derive (l : Launch) (D : va_G) (tI tZ tL : ClassId) (h0 : Nat) (ad : Nat → Nat) (σ : ST) (r : Nat) (P : Int32) (nr : Nat) (hnr : σ.1 6 = nI nr) (hr30 : nr < 30) (hrn : r < nr) (np : Nat) (hnp : σ.1 1 = nI np) (hn8 : np ≤ 8) (hq1 : P &&& ((bI np - 1) ^^^ (-1)) = 0) (hq2 : ¬ P = 0) (hpr : bt (σ.1 12) r = true) (hop : x_open σ np P (σ.2 9 r) (σ.1 0) = true) (hn : (x_L h0 ad).Nodup) : Met l yX0_derive wsX0_derive ({ frames := 5, cells := 0, slots := 0, locals := 113 } : Room) (va_Pc ([.ref h0, .int (nI r), .int P] : List Value) (x_B D tI tZ tL h0 ad σ)) (u_Q (some (.int (nI nr))) (x_P D tI tZ h0 ad (x_addR σ nr (σ.2 9 r) P (bI r))) (x_A h0 ad)) 0 0 (x_A h0 ad) := by
  refine u_met (cc := cX0_derive) (maxL := 3) (ret := (some .int)) (by decide) rfl (Nat.le_of_ble_eq_true rfl) ?_
  intro p e s m below meth c hx hb hml hr hts hown hlocks hB hS ls hl
  have hD : ∀ σ : ST, va_D (x_A h0 ad) (x_W tI tZ h0 ad σ) := fun σ => x_D σ hn (fun _ h => h)
  have hown : s.vm.findClass RX0 = some m.cls := hown
  obtain ⟨hP, hK⟩ := hB
  have hl : lv_has ls 3 [(0, .ref h0), (1, .int (nI r)), (2, .int P)] := hl
  have hin : ∀ w ∈ wsX00, w ∈ wsX0_derive := in_X0_derive
  have hl_presentRecords : xl_presentRecords ∈ wsX0_derive := by decide +kernel
  have hl_subjectsOfRecord : xl_subjectsOfRecord ∈ wsX0_derive := by decide +kernel
  have key : ∀ (H : Heap) (locs : List Loc), va_P D vwCl (x_W tI tZ h0 ad σ) H → va_S (x_A h0 ad) s.heap H locs → ∀ ls, lv_has ls 3 [(0, .ref h0), (1, .int (nI r)), (2, .int P)] → u_G p l e ({ frames := 5, cells := 0, slots := 0, locals := 113 } : Room) s m ([.ref h0, .int (nI r), .int P] : List Value).toArray below meth c H locs (some (.int (nI nr))) (x_P D tI tZ h0 ad (x_addR σ nr (σ.2 9 r) P (bI r))) (x_A h0 ad) (F0 m 0 ls []) := by
    intro H locs hP hS ls hl
    refine lv_aload_n hx hb dX0_derive_0 rfl (lv_at hl 0 rfl) ?_
    refine lv_iload_n hx hb dX0_derive_1 rfl (lv_at hl 1 rfl) ?_
    refine k_X0_checkRecord D tI tZ tL h0 ad σ r nr hnr (by omega) hrn ⟨hx, hb, hml, hown, hts⟩ gX0_derive_X0_checkRecord ⟨Nat.le_of_ble_eq_true rfl, Nat.le_of_ble_eq_true rfl⟩ hl.1 ⟨Nat.zero_le _, Nat.zero_le _⟩ (Nat.le_of_ble_eq_true rfl) hK hP dX0_derive_2 ?_
    refine lv_aload_n hx hb dX0_derive_5 rfl (lv_at hl 0 rfl) ?_
    refine lv_iload_n hx hb dX0_derive_6 rfl (lv_at hl 2 rfl) ?_
    refine k_X0_checkPurposes D tI tZ tL h0 ad σ P np hnp hn8 hq1 hq2 ⟨hx, hb, hml, hown, hts⟩ gX0_derive_X0_checkPurposes ⟨Nat.le_of_ble_eq_true rfl, Nat.le_of_ble_eq_true rfl⟩ hl.1 ⟨Nat.zero_le _, Nat.zero_le _⟩ (Nat.le_of_ble_eq_true rfl) hK hP dX0_derive_7 ?_
    refine lv_aload_n hx hb dX0_derive_10 rfl (lv_at hl 0 rfl) ?_
    refine xg_presentRecords hx hb hts hin hown hK hP hl_presentRecords dX0_derive_11 ?_
    refine lv_iload_n hx hb dX0_derive_14 rfl (lv_at hl 1 rfl) ?_
    refine k_X0_has (σ.1 12) r (by omega) ⟨hx, hb, hml, hown, hts⟩ gX0_derive_X0_has ⟨Nat.le_of_ble_eq_true rfl, Nat.le_of_ble_eq_true rfl⟩ hl.1 ⟨Nat.zero_le _, Nat.zero_le _⟩ (Nat.le_of_ble_eq_true rfl) dX0_derive_15 ?_
    refine lv_ifne_b (tgt := 31) hx hb dX0_derive_18 (by decide) (fun c18 => ?_) (fun c18 => absurd c18 (by rw [hpr]; decide))
    refine lv_aload_n hx hb dX0_derive_31 rfl (lv_at hl 0 rfl) ?_
    refine lv_aload_n hx hb dX0_derive_32 rfl (lv_at hl 0 rfl) ?_
    refine xg_subjectsOfRecord hx hb hts hin hown hK hP hl_subjectsOfRecord dX0_derive_33 ?_
    refine lv_iload_n hx hb dX0_derive_36 rfl (lv_at hl 1 rfl) ?_
    refine xr_subjectsOfRecord (j := r) hx hb hK hP (by omega) dX0_derive_37 ?_
    refine lv_iload_n hx hb dX0_derive_38 rfl (lv_at hl 2 rfl) ?_
    refine lv_iload_n hx hb dX0_derive_39 rfl (lv_at hl 1 rfl) ?_
    refine k_X0_bit r ⟨hx, hb, hml, hown, hts⟩ gX0_derive_X0_bit ⟨Nat.le_of_ble_eq_true rfl, Nat.le_of_ble_eq_true rfl⟩ hl.1 ⟨Nat.zero_le _, Nat.zero_le _⟩ (Nat.le_of_ble_eq_true rfl) dX0_derive_40 ?_
    refine k_X0_addRecord D tI tZ tL h0 ad σ (σ.2 9 r) P (bI r) nr hnr hr30 np hnp hn8 hop ⟨hx, hb, hml, hown, hts⟩ gX0_derive_X0_addRecord ⟨Nat.le_of_ble_eq_true rfl, Nat.le_of_ble_eq_true rfl⟩ hl.1 ⟨Nat.zero_le _, Nat.zero_le _⟩ (Nat.le_of_ble_eq_true rfl) hn hK hP hS (fun q h => h) dX0_derive_43 (fun H locs hP _ _ hS => ?_)
    exact u_iret hx hb hr hlocks hS (hP) (rfl) dX0_derive_46
  exact key _ _ hP hS ls hl
theorem k_X0_derive {p : Program} {l : Launch} {e : Env} {R : Room} {s : State} {m : MethodId} {args : Array Value} {below : List Frame} {meth : Method} {c : Code} {H : Heap} {locs : List Loc} {cells slots : Nat} {Q : State → Prop} {cc : ByteArray} {pc : Nat} {ls : Array Slot} {rest : List Value} {Ts : List Cond} (D : va_G) (tI tZ tL : ClassId) (h0 : Nat) (ad : Nat → Nat) (σ : ST) (r : Nat) (P : Int32) (nr : Nat) (hnr : σ.1 6 = nI nr) (hr30 : nr < 30) (hrn : r < nr) (np : Nat) (hnp : σ.1 1 = nI np) (hn8 : np ≤ 8) (hq1 : P &&& ((bI np - 1) ^^^ (-1)) = 0) (hq2 : ¬ P = 0) (hpr : bt (σ.1 12) r = true) (hop : x_open σ np P (σ.2 9 r) (σ.1 0) = true) {A0 : Nat → Prop} {H0 : Heap} {own : String} {idx nL : Nat} (S : CallFix p m c cc nL s args Ts own) (hG : GoodIn Ts (wsV own idx RX0 yX0_derive wsX0_derive)) (hR : ({ frames := 5, cells := 0, slots := 0, locals := 113 } : Room).frames + 1 ≤ R.frames ∧ 8 + (3 + 11) + ({ frames := 5, cells := 0, slots := 0, locals := 113 } : Room).locals ≤ R.locals) (hsz : ls.size = nL) (hcap : cells ≤ R.cells ∧ slots ≤ R.slots) (hrm : (rest.map fun v => v.category).sum ≤ 8) (hn : (x_L h0 ad).Nodup) (hK : va_K D vwCl (kTY tI tZ tL) s) (hP : va_P D vwCl (x_W tI tZ h0 ad σ) H) (hS : va_S A0 H0 H locs) (hA : ∀ q, x_A h0 ad q → A0 q) (hdg : decode cc pc = .ok (.invokevirtual idx, 3)) (kk : ∀ (H1 : Heap) (locs1 : List Loc), va_P D vwCl (x_W tI tZ h0 ad (x_addR σ nr (σ.2 9 r) P (bI r))) H1 → H.size ≤ H1.size → (∀ q : Nat, q < H.size → ¬ x_A h0 ad q → H1[q]? = H[q]?) → va_S A0 H0 H1 locs1 → W p l e R s m args below meth c H1 locs1 cells slots Q (F0 m (pc + 3) ls (.int (nI nr) :: rest))) : W p l e R s m args below meth c H locs cells slots Q (F0 m pc ls (.int P :: .int (nI r) :: .ref h0 :: rest)) :=
  u_call (va_runV (As := [.int (nI r), .int P]) (rest := rest) S (c_X0_derive l D tI tZ tL h0 ad σ r P nr hnr hr30 hrn np hnp hn8 hq1 hq2 hpr hop hn) (cwV 2 S.2.2.2.2 hG rfl rfl rfl (by decide +kernel) hR) (x_pre hK hP) rfl rfl hsz rfl (lv_room hrm) hdg hcap) hS hA hA kk

set_option maxHeartbeats 4000000 in
set_option maxRecDepth 100000 in
theorem c_X0_addSource (l : Launch) (D : va_G) (tI tZ tL : ClassId) (h0 : Nat) (ad : Nat → Nat) (σ : ST) (r sr : Nat) (nr : Nat) (hnr : σ.1 6 = nI nr) (hn30 : nr ≤ 30) (hrn : r < nr) (hsn : sr < nr) (hsr : sr < r) (hso : bt (σ.2 10 r) sr = false) (hrt : ¬ σ.2 10 r = 0) (hp1 : bt (σ.1 12) r = true) (hp2 : bt (σ.1 12) sr = true) (hn : (x_L h0 ad).Nodup) : Met l yX0_addSource wsX0_addSource ({ frames := 3, cells := 0, slots := 0, locals := 64 } : Room) (va_Pc ([.ref h0, .int (nI r), .int (nI sr)] : List Value) (x_B D tI tZ tL h0 ad σ)) (u_Q (some (.int (x_pop ((x_asS σ nr r sr).2 9 r)))) (x_P D tI tZ h0 ad (x_asS σ nr r sr)) (x_A h0 ad)) 0 0 (x_A h0 ad) := by
  refine u_met (cc := cX0_addSource) (maxL := 3) (ret := (some .int)) (by decide) rfl (Nat.le_of_ble_eq_true rfl) ?_
  intro p e s m below meth c hx hb hml hr hts hown hlocks hB hS ls hl
  have hD : ∀ σ : ST, va_D (x_A h0 ad) (x_W tI tZ h0 ad σ) := fun σ => x_D σ hn (fun _ h => h)
  have hown : s.vm.findClass RX0 = some m.cls := hown
  obtain ⟨hP, hK⟩ := hB
  have hl : lv_has ls 3 [(0, .ref h0), (1, .int (nI r)), (2, .int (nI sr))] := hl
  have hin : ∀ w ∈ wsX00, w ∈ wsX0_addSource := in_X0_addSource
  have hl_presentRecords : xl_presentRecords ∈ wsX0_addSource := by decide +kernel
  have hl_sourcesOfRecord : xl_sourcesOfRecord ∈ wsX0_addSource := by decide +kernel
  have hl_subjectsOfRecord : xl_subjectsOfRecord ∈ wsX0_addSource := by decide +kernel
  have key : ∀ (H : Heap) (locs : List Loc), va_P D vwCl (x_W tI tZ h0 ad σ) H → va_S (x_A h0 ad) s.heap H locs → ∀ ls, lv_has ls 3 [(0, .ref h0), (1, .int (nI r)), (2, .int (nI sr))] → u_G p l e ({ frames := 3, cells := 0, slots := 0, locals := 64 } : Room) s m ([.ref h0, .int (nI r), .int (nI sr)] : List Value).toArray below meth c H locs (some (.int (x_pop ((x_asS σ nr r sr).2 9 r)))) (x_P D tI tZ h0 ad (x_asS σ nr r sr)) (x_A h0 ad) (F0 m 0 ls []) := by
    intro H locs hP hS ls hl
    refine lv_aload_n hx hb dX0_addSource_0 rfl (lv_at hl 0 rfl) ?_
    refine lv_iload_n hx hb dX0_addSource_1 rfl (lv_at hl 1 rfl) ?_
    refine k_X0_checkRecord D tI tZ tL h0 ad σ r nr hnr hn30 hrn ⟨hx, hb, hml, hown, hts⟩ gX0_addSource_X0_checkRecord ⟨Nat.le_of_ble_eq_true rfl, Nat.le_of_ble_eq_true rfl⟩ hl.1 ⟨Nat.zero_le _, Nat.zero_le _⟩ (Nat.le_of_ble_eq_true rfl) hK hP dX0_addSource_2 ?_
    refine lv_aload_n hx hb dX0_addSource_5 rfl (lv_at hl 0 rfl) ?_
    refine lv_iload_n hx hb dX0_addSource_6 rfl (lv_at hl 2 rfl) ?_
    refine k_X0_checkRecord D tI tZ tL h0 ad σ sr nr hnr hn30 (hsn) ⟨hx, hb, hml, hown, hts⟩ gX0_addSource_X0_checkRecord ⟨Nat.le_of_ble_eq_true rfl, Nat.le_of_ble_eq_true rfl⟩ hl.1 ⟨Nat.zero_le _, Nat.zero_le _⟩ (Nat.le_of_ble_eq_true rfl) hK hP dX0_addSource_7 ?_
    refine lv_iload_n hx hb dX0_addSource_10 rfl (lv_at hl 2 rfl) ?_
    refine lv_iload_n hx hb dX0_addSource_11 rfl (lv_at hl 1 rfl) ?_
    refine lv_icmp_lt (tgt := 25) hx hb dX0_addSource_12 (by decide) (fun c12 => ?_) (fun c12 => absurd (show nI sr < nI r from nI_lt hsr (by omega)) c12)
    refine lv_aload_n hx hb dX0_addSource_25 rfl (lv_at hl 0 rfl) ?_
    refine xg_sourcesOfRecord hx hb hts hin hown hK hP hl_sourcesOfRecord dX0_addSource_26 ?_
    refine lv_iload_n hx hb dX0_addSource_29 rfl (lv_at hl 1 rfl) ?_
    refine xr_sourcesOfRecord (j := r) hx hb hK hP (by omega) dX0_addSource_30 ?_
    refine lv_iload_n hx hb dX0_addSource_31 rfl (lv_at hl 2 rfl) ?_
    refine k_X0_has (σ.2 10 r) sr (by omega) ⟨hx, hb, hml, hown, hts⟩ gX0_addSource_X0_has ⟨Nat.le_of_ble_eq_true rfl, Nat.le_of_ble_eq_true rfl⟩ hl.1 ⟨Nat.zero_le _, Nat.zero_le _⟩ (Nat.le_of_ble_eq_true rfl) dX0_addSource_32 ?_
    refine lv_ifeq_b (tgt := 48) hx hb dX0_addSource_35 (by decide) (fun c35 => ?_) (fun c35 => absurd c35 (by rw [hso]; decide))
    refine lv_aload_n hx hb dX0_addSource_48 rfl (lv_at hl 0 rfl) ?_
    refine lv_iload_n hx hb dX0_addSource_49 rfl (lv_at hl 1 rfl) ?_
    refine k_X0_isRoot D tI tZ tL h0 ad σ r (by omega) ⟨hx, hb, hml, hown, hts⟩ gX0_addSource_X0_isRoot ⟨Nat.le_of_ble_eq_true rfl, Nat.le_of_ble_eq_true rfl⟩ hl.1 ⟨Nat.zero_le _, Nat.zero_le _⟩ (Nat.le_of_ble_eq_true rfl) hK hP dX0_addSource_50 ?_
    refine lv_ifeq_b (tgt := 66) hx hb dX0_addSource_53 (by decide) (fun c53 => ?_) (fun c53 => absurd (of_decide_eq_true c53) hrt)
    refine lv_aload_n hx hb dX0_addSource_66 rfl (lv_at hl 0 rfl) ?_
    refine xg_presentRecords hx hb hts hin hown hK hP hl_presentRecords dX0_addSource_67 ?_
    refine lv_iload_n hx hb dX0_addSource_70 rfl (lv_at hl 1 rfl) ?_
    refine k_X0_has (σ.1 12) r (by omega) ⟨hx, hb, hml, hown, hts⟩ gX0_addSource_X0_has ⟨Nat.le_of_ble_eq_true rfl, Nat.le_of_ble_eq_true rfl⟩ hl.1 ⟨Nat.zero_le _, Nat.zero_le _⟩ (Nat.le_of_ble_eq_true rfl) dX0_addSource_71 ?_
    refine lv_ifeq_b (tgt := 88) hx hb dX0_addSource_74 (by decide) (fun c74 => absurd c74 (by rw [hp1]; decide)) (fun c74 => ?_)
    refine lv_aload_n hx hb dX0_addSource_77 rfl (lv_at hl 0 rfl) ?_
    refine xg_presentRecords hx hb hts hin hown hK hP hl_presentRecords dX0_addSource_78 ?_
    refine lv_iload_n hx hb dX0_addSource_81 rfl (lv_at hl 2 rfl) ?_
    refine k_X0_has (σ.1 12) sr (by omega) ⟨hx, hb, hml, hown, hts⟩ gX0_addSource_X0_has ⟨Nat.le_of_ble_eq_true rfl, Nat.le_of_ble_eq_true rfl⟩ hl.1 ⟨Nat.zero_le _, Nat.zero_le _⟩ (Nat.le_of_ble_eq_true rfl) dX0_addSource_82 ?_
    refine lv_ifne_b (tgt := 98) hx hb dX0_addSource_85 (by decide) (fun c85 => ?_) (fun c85 => absurd c85 (by rw [hp2]; decide))
    refine lv_aload_n hx hb dX0_addSource_98 rfl (lv_at hl 0 rfl) ?_
    refine xg_sourcesOfRecord hx hb hts hin hown hK hP hl_sourcesOfRecord dX0_addSource_99 ?_
    refine lv_iload_n hx hb dX0_addSource_102 rfl (lv_at hl 1 rfl) ?_
    refine lv_dup2_11 hx hb dX0_addSource_103 rfl rfl ?_
    refine xr_sourcesOfRecord (j := r) hx hb hK hP (by omega) dX0_addSource_104 ?_
    refine lv_iload_n hx hb dX0_addSource_105 rfl (lv_at hl 2 rfl) ?_
    refine k_X0_bit sr ⟨hx, hb, hml, hown, hts⟩ gX0_addSource_X0_bit ⟨Nat.le_of_ble_eq_true rfl, Nat.le_of_ble_eq_true rfl⟩ hl.1 ⟨Nat.zero_le _, Nat.zero_le _⟩ (Nat.le_of_ble_eq_true rfl) dX0_addSource_106 ?_
    refine lv_ior hx hb dX0_addSource_109 ?_
    refine xw_sourcesOfRecord (j := r) hx hb hK hP (hD _) hS (by omega) dX0_addSource_110 (fun H locs hP hS => ?_)
    refine lv_aload_n hx hb dX0_addSource_111 rfl (lv_at hl 0 rfl) ?_
    refine lv_aload_n hx hb dX0_addSource_112 rfl (lv_at hl 0 rfl) ?_
    refine lv_iload_n hx hb dX0_addSource_113 rfl (lv_at hl 1 rfl) ?_
    refine k_X0_bit r ⟨hx, hb, hml, hown, hts⟩ gX0_addSource_X0_bit ⟨Nat.le_of_ble_eq_true rfl, Nat.le_of_ble_eq_true rfl⟩ hl.1 ⟨Nat.zero_le _, Nat.zero_le _⟩ (Nat.le_of_ble_eq_true rfl) dX0_addSource_114 ?_
    refine k_X0_withAllBelow D tI tZ tL h0 ad (s_put σ 10 r ((σ.2 10 r) ||| (bI sr))) (bI r) nr hnr hn30 ⟨hx, hb, hml, hown, hts⟩ gX0_addSource_X0_withAllBelow ⟨Nat.le_of_ble_eq_true rfl, Nat.le_of_ble_eq_true rfl⟩ hl.1 ⟨Nat.zero_le _, Nat.zero_le _⟩ (Nat.le_of_ble_eq_true rfl) hK hP dX0_addSource_117 ?_
    refine lv_aload_n hx hb dX0_addSource_120 rfl (lv_at hl 0 rfl) ?_
    refine xg_subjectsOfRecord hx hb hts hin hown hK hP hl_subjectsOfRecord dX0_addSource_121 ?_
    refine lv_iload_n hx hb dX0_addSource_124 rfl (lv_at hl 2 rfl) ?_
    refine xr_subjectsOfRecord (j := sr) hx hb hK hP (by omega) dX0_addSource_125 ?_
    refine k_X0_addSubjects D tI tZ tL h0 ad (s_put σ 10 r ((σ.2 10 r) ||| (bI sr))) (x_wab ((s_put σ 10 r ((σ.2 10 r) ||| (bI sr))).2 10) (bI r) nr) (σ.2 9 sr) nr hnr hn30 ⟨hx, hb, hml, hown, hts⟩ gX0_addSource_X0_addSubjects ⟨Nat.le_of_ble_eq_true rfl, Nat.le_of_ble_eq_true rfl⟩ hl.1 ⟨Nat.zero_le _, Nat.zero_le _⟩ (Nat.le_of_ble_eq_true rfl) hn hK hP hS (fun q h => h) dX0_addSource_126 (fun H locs hP _ _ hS => ?_)
    refine lv_aload_n hx hb dX0_addSource_129 rfl (lv_at hl 0 rfl) ?_
    refine xg_subjectsOfRecord hx hb hts hin hown hK hP hl_subjectsOfRecord dX0_addSource_130 ?_
    refine lv_iload_n hx hb dX0_addSource_133 rfl (lv_at hl 1 rfl) ?_
    refine xr_subjectsOfRecord (j := r) hx hb hK hP (by omega) dX0_addSource_134 ?_
    refine k_J6_bitCount_0f7a4 ((x_sbS (s_put σ 10 r ((σ.2 10 r) ||| (bI sr))) (x_wab ((s_put σ 10 r ((σ.2 10 r) ||| (bI sr))).2 10) (bI r) nr) (σ.2 9 sr) nr).2 9 r) ⟨hx, hb, hml, hown, hts⟩ gX0_addSource_J6_bitCount_0f7a4 ⟨Nat.le_of_ble_eq_true rfl, Nat.le_of_ble_eq_true rfl⟩ hl.1 ⟨Nat.zero_le _, Nat.zero_le _⟩ (Nat.le_of_ble_eq_true rfl) dX0_addSource_135 ?_
    exact u_iret hx hb hr hlocks hS (hP) (rfl) dX0_addSource_138
  exact key _ _ hP hS ls hl
theorem k_X0_addSource {p : Program} {l : Launch} {e : Env} {R : Room} {s : State} {m : MethodId} {args : Array Value} {below : List Frame} {meth : Method} {c : Code} {H : Heap} {locs : List Loc} {cells slots : Nat} {Q : State → Prop} {cc : ByteArray} {pc : Nat} {ls : Array Slot} {rest : List Value} {Ts : List Cond} (D : va_G) (tI tZ tL : ClassId) (h0 : Nat) (ad : Nat → Nat) (σ : ST) (r sr : Nat) (nr : Nat) (hnr : σ.1 6 = nI nr) (hn30 : nr ≤ 30) (hrn : r < nr) (hsn : sr < nr) (hsr : sr < r) (hso : bt (σ.2 10 r) sr = false) (hrt : ¬ σ.2 10 r = 0) (hp1 : bt (σ.1 12) r = true) (hp2 : bt (σ.1 12) sr = true) {A0 : Nat → Prop} {H0 : Heap} {own : String} {idx nL : Nat} (S : CallFix p m c cc nL s args Ts own) (hG : GoodIn Ts (wsV own idx RX0 yX0_addSource wsX0_addSource)) (hR : ({ frames := 3, cells := 0, slots := 0, locals := 64 } : Room).frames + 1 ≤ R.frames ∧ 8 + (3 + 11) + ({ frames := 3, cells := 0, slots := 0, locals := 64 } : Room).locals ≤ R.locals) (hsz : ls.size = nL) (hcap : cells ≤ R.cells ∧ slots ≤ R.slots) (hrm : (rest.map fun v => v.category).sum ≤ 8) (hn : (x_L h0 ad).Nodup) (hK : va_K D vwCl (kTY tI tZ tL) s) (hP : va_P D vwCl (x_W tI tZ h0 ad σ) H) (hS : va_S A0 H0 H locs) (hA : ∀ q, x_A h0 ad q → A0 q) (hdg : decode cc pc = .ok (.invokevirtual idx, 3)) (kk : ∀ (H1 : Heap) (locs1 : List Loc), va_P D vwCl (x_W tI tZ h0 ad (x_asS σ nr r sr)) H1 → H.size ≤ H1.size → (∀ q : Nat, q < H.size → ¬ x_A h0 ad q → H1[q]? = H[q]?) → va_S A0 H0 H1 locs1 → W p l e R s m args below meth c H1 locs1 cells slots Q (F0 m (pc + 3) ls (.int (x_pop ((x_asS σ nr r sr).2 9 r)) :: rest))) : W p l e R s m args below meth c H locs cells slots Q (F0 m pc ls (.int (nI sr) :: .int (nI r) :: .ref h0 :: rest)) :=
  u_call (va_runV (As := [.int (nI r), .int (nI sr)]) (rest := rest) S (c_X0_addSource l D tI tZ tL h0 ad σ r sr nr hnr hn30 hrn hsn hsr hso hrt hp1 hp2 hn) (cwV 2 S.2.2.2.2 hG rfl rfl rfl (by decide +kernel) hR) (x_pre hK hP) rfl rfl hsz rfl (lv_room hrm) hdg hcap) hS hA hA kk

set_option maxHeartbeats 4000000 in
set_option maxRecDepth 100000 in
theorem c_X0_use (l : Launch) (D : va_G) (tI tZ tL : ClassId) (h0 : Nat) (ad : Nat → Nat) (σ : ST) (r q : Nat) (nr : Nat) (hnr : σ.1 6 = nI nr) (hn30 : nr ≤ 30) (hrn : r < nr) (np : Nat) (hnp : σ.1 1 = nI np) (hn8 : np ≤ 8) (hq : q < np) (hw : x_why σ np r q = 0) (hn : (x_L h0 ad).Nodup) : Met l yX0_use wsX0_use ({ frames := 4, cells := 0, slots := 0, locals := 86 } : Room) (va_Pc ([.ref h0, .int (nI r), .int (nI q)] : List Value) (x_B D tI tZ tL h0 ad σ)) (u_Q (some (.int (σ.2 11 (r * 8 + q) + 1))) (x_P D tI tZ h0 ad (s_put σ 11 (r * 8 + q) (σ.2 11 (r * 8 + q) + 1))) (x_A h0 ad)) 0 0 (x_A h0 ad) := by
  refine u_met (cc := cX0_use) (maxL := 4) (ret := (some .int)) (by decide) rfl (Nat.le_of_ble_eq_true rfl) ?_
  intro p e s m below meth c hx hb hml hr hts hown hlocks hB hS ls hl
  have hD : ∀ σ : ST, va_D (x_A h0 ad) (x_W tI tZ h0 ad σ) := fun σ => x_D σ hn (fun _ h => h)
  have hown : s.vm.findClass RX0 = some m.cls := hown
  obtain ⟨hP, hK⟩ := hB
  have hl : lv_has ls 4 [(0, .ref h0), (1, .int (nI r)), (2, .int (nI q))] := hl
  have hin : ∀ w ∈ wsX00, w ∈ wsX0_use := in_X0_use
  have hl_useCounts : xl_useCounts ∈ wsX0_use := by decide +kernel
  have key : ∀ (H : Heap) (locs : List Loc), va_P D vwCl (x_W tI tZ h0 ad σ) H → va_S (x_A h0 ad) s.heap H locs → ∀ ls, lv_has ls 4 [(0, .ref h0), (1, .int (nI r)), (2, .int (nI q))] → u_G p l e ({ frames := 4, cells := 0, slots := 0, locals := 86 } : Room) s m ([.ref h0, .int (nI r), .int (nI q)] : List Value).toArray below meth c H locs (some (.int (σ.2 11 (r * 8 + q) + 1))) (x_P D tI tZ h0 ad (s_put σ 11 (r * 8 + q) (σ.2 11 (r * 8 + q) + 1))) (x_A h0 ad) (F0 m 0 ls []) := by
    intro H locs hP hS ls hl
    refine lv_aload_n hx hb dX0_use_0 rfl (lv_at hl 0 rfl) ?_
    refine lv_iload_n hx hb dX0_use_1 rfl (lv_at hl 1 rfl) ?_
    refine lv_iload_n hx hb dX0_use_2 rfl (lv_at hl 2 rfl) ?_
    refine k_X0_whyNoUse D tI tZ tL h0 ad σ r q nr hnr hn30 hrn np hnp hn8 hq ⟨hx, hb, hml, hown, hts⟩ gX0_use_X0_whyNoUse ⟨Nat.le_of_ble_eq_true rfl, Nat.le_of_ble_eq_true rfl⟩ hl.1 ⟨Nat.zero_le _, Nat.zero_le _⟩ (Nat.le_of_ble_eq_true rfl) hK hP dX0_use_3 ?_
    refine lv_if_eq (tgt := 19) hx hb dX0_use_6 (by decide) (fun c6 => ?_) (fun c6 => absurd hw c6)
    refine lv_iload_n hx hb dX0_use_19 rfl (lv_at hl 1 rfl) ?_
    refine lv_iload_n hx hb dX0_use_20 rfl (lv_at hl 2 rfl) ?_
    refine k_X0_useIndex r q ⟨hx, hb, hml, hown, hts⟩ gX0_use_X0_useIndex ⟨Nat.le_of_ble_eq_true rfl, Nat.le_of_ble_eq_true rfl⟩ hl.1 ⟨Nat.zero_le _, Nat.zero_le _⟩ (Nat.le_of_ble_eq_true rfl) dX0_use_21 ?_
    refine lv_istore_n (lv' := [(3, .int (nI (r * 8 + q))), (0, .ref h0), (1, .int (nI r)), (2, .int (nI q))]) hx hb dX0_use_24 rfl hl (by decide) rfl (fun ls hl => ?_)
    refine lv_aload_n hx hb dX0_use_25 rfl (lv_at hl 1 rfl) ?_
    refine xg_useCounts hx hb hts hin hown hK hP hl_useCounts dX0_use_26 ?_
    refine lv_iload_n hx hb dX0_use_29 rfl (lv_at hl 0 rfl) ?_
    refine lv_dup2_11 hx hb dX0_use_30 rfl rfl ?_
    refine xr_useCounts (j := r * 8 + q) hx hb hK hP (by omega) dX0_use_31 ?_
    refine lv_iconst (v := 1) hx hb dX0_use_32 (by decide) ?_
    refine lv_iadd hx hb dX0_use_33 ?_
    refine xw_useCounts (j := r * 8 + q) hx hb hK hP (hD _) hS (by omega) dX0_use_34 (fun H locs hP hS => ?_)
    refine lv_aload_n hx hb dX0_use_35 rfl (lv_at hl 1 rfl) ?_
    refine xg_useCounts hx hb hts hin hown hK hP hl_useCounts dX0_use_36 ?_
    refine lv_iload_n hx hb dX0_use_39 rfl (lv_at hl 0 rfl) ?_
    refine xr_useCounts (j := r * 8 + q) hx hb hK hP (by omega) dX0_use_40 ?_
    exact u_iret hx hb hr hlocks hS (hP) (by first | rfl | exact s_put_self) dX0_use_41
  exact key _ _ hP hS ls hl
theorem k_X0_use {p : Program} {l : Launch} {e : Env} {R : Room} {s : State} {m : MethodId} {args : Array Value} {below : List Frame} {meth : Method} {c : Code} {H : Heap} {locs : List Loc} {cells slots : Nat} {Q : State → Prop} {cc : ByteArray} {pc : Nat} {ls : Array Slot} {rest : List Value} {Ts : List Cond} (D : va_G) (tI tZ tL : ClassId) (h0 : Nat) (ad : Nat → Nat) (σ : ST) (r q : Nat) (nr : Nat) (hnr : σ.1 6 = nI nr) (hn30 : nr ≤ 30) (hrn : r < nr) (np : Nat) (hnp : σ.1 1 = nI np) (hn8 : np ≤ 8) (hq : q < np) (hw : x_why σ np r q = 0) {A0 : Nat → Prop} {H0 : Heap} {own : String} {idx nL : Nat} (S : CallFix p m c cc nL s args Ts own) (hG : GoodIn Ts (wsV own idx RX0 yX0_use wsX0_use)) (hR : ({ frames := 4, cells := 0, slots := 0, locals := 86 } : Room).frames + 1 ≤ R.frames ∧ 8 + (4 + 11) + ({ frames := 4, cells := 0, slots := 0, locals := 86 } : Room).locals ≤ R.locals) (hsz : ls.size = nL) (hcap : cells ≤ R.cells ∧ slots ≤ R.slots) (hrm : (rest.map fun v => v.category).sum ≤ 8) (hn : (x_L h0 ad).Nodup) (hK : va_K D vwCl (kTY tI tZ tL) s) (hP : va_P D vwCl (x_W tI tZ h0 ad σ) H) (hS : va_S A0 H0 H locs) (hA : ∀ q, x_A h0 ad q → A0 q) (hdg : decode cc pc = .ok (.invokevirtual idx, 3)) (kk : ∀ (H1 : Heap) (locs1 : List Loc), va_P D vwCl (x_W tI tZ h0 ad (s_put σ 11 (r * 8 + q) (σ.2 11 (r * 8 + q) + 1))) H1 → H.size ≤ H1.size → (∀ q : Nat, q < H.size → ¬ x_A h0 ad q → H1[q]? = H[q]?) → va_S A0 H0 H1 locs1 → W p l e R s m args below meth c H1 locs1 cells slots Q (F0 m (pc + 3) ls (.int (σ.2 11 (r * 8 + q) + 1) :: rest))) : W p l e R s m args below meth c H locs cells slots Q (F0 m pc ls (.int (nI q) :: .int (nI r) :: .ref h0 :: rest)) :=
  u_call (va_runV (As := [.int (nI r), .int (nI q)]) (rest := rest) S (c_X0_use l D tI tZ tL h0 ad σ r q nr hnr hn30 hrn np hnp hn8 hq hw hn) (cwV 2 S.2.2.2.2 hG rfl rfl rfl (by decide +kernel) hR) (x_pre hK hP) rfl rfl hsz rfl (lv_room hrm) hdg hcap) hS hA hA kk

set_option maxHeartbeats 4000000 in
set_option maxRecDepth 100000 in
theorem c_X0_passDays (l : Launch) (D : va_G) (tI tZ tL : ClassId) (h0 : Nat) (ad : Nat → Nat) (σ : ST) (dd : Int32) (hd1 : 1 ≤ dd) (hd2 : dd ≤ 1000) (np : Nat) (hnp : σ.1 1 = nI np) (hn8 : np ≤ 8) (nr : Nat) (hnr : σ.1 6 = nI nr) (hn30 : nr ≤ 30) (hn : (x_L h0 ad).Nodup) : Met l yX0_passDays wsX0_passDays ({ frames := 5, cells := 0, slots := 0, locals := 111 } : Room) (va_Pc ([.ref h0, .int dd] : List Value) (x_B D tI tZ tL h0 ad σ)) (u_Q (some (.int (x_pop (x_rq (s_set (x_cdA σ np dd) 0 (σ.1 0 + dd)) (x_due (s_set (x_cdA σ np dd) 0 (σ.1 0 + dd)) np nr) nr)))) (x_P D tI tZ h0 ad (x_req (s_set (x_cdA σ np dd) 0 (σ.1 0 + dd)) (x_due (s_set (x_cdA σ np dd) 0 (σ.1 0 + dd)) np nr) nr)) (x_A h0 ad)) 0 0 (x_A h0 ad) := by
  refine u_met (cc := cX0_passDays) (maxL := 2) (ret := (some .int)) (by decide) rfl (Nat.le_of_ble_eq_true rfl) ?_
  intro p e s m below meth c hx hb hml hr hts hown hlocks hB hS ls hl
  have hD : ∀ σ : ST, va_D (x_A h0 ad) (x_W tI tZ h0 ad σ) := fun σ => x_D σ hn (fun _ h => h)
  have hown : s.vm.findClass RX0 = some m.cls := hown
  obtain ⟨hP, hK⟩ := hB
  have hl : lv_has ls 2 [(0, .ref h0), (1, .int dd)] := hl
  have hin : ∀ w ∈ wsX00, w ∈ wsX0_passDays := in_X0_passDays
  have hl_today : xl_today ∈ wsX0_passDays := by decide +kernel
  have key : ∀ (H : Heap) (locs : List Loc), va_P D vwCl (x_W tI tZ h0 ad σ) H → va_S (x_A h0 ad) s.heap H locs → ∀ ls, lv_has ls 2 [(0, .ref h0), (1, .int dd)] → u_G p l e ({ frames := 5, cells := 0, slots := 0, locals := 111 } : Room) s m ([.ref h0, .int dd] : List Value).toArray below meth c H locs (some (.int (x_pop (x_rq (s_set (x_cdA σ np dd) 0 (σ.1 0 + dd)) (x_due (s_set (x_cdA σ np dd) 0 (σ.1 0 + dd)) np nr) nr)))) (x_P D tI tZ h0 ad (x_req (s_set (x_cdA σ np dd) 0 (σ.1 0 + dd)) (x_due (s_set (x_cdA σ np dd) 0 (σ.1 0 + dd)) np nr) nr)) (x_A h0 ad) (F0 m 0 ls []) := by
    intro H locs hP hS ls hl
    refine lv_iload_n hx hb dX0_passDays_0 rfl (lv_at hl 1 rfl) ?_
    refine lv_iconst (v := 1) hx hb dX0_passDays_1 (by decide) ?_
    refine lv_icmp_lt (tgt := 12) hx hb dX0_passDays_2 (by decide) (fun c2 => absurd c2 (Int32.not_lt.mpr hd1)) (fun c2 => ?_)
    refine lv_iload_n hx hb dX0_passDays_5 rfl (lv_at hl 1 rfl) ?_
    refine lv_sipush (v := 1000) hx hb dX0_passDays_6 (by decide) ?_
    refine lv_icmp_le (tgt := 22) hx hb dX0_passDays_9 (by decide) (fun c9 => ?_) (fun c9 => absurd hd2 c9)
    refine lv_aload_n hx hb dX0_passDays_22 rfl (lv_at hl 0 rfl) ?_
    refine lv_iload_n hx hb dX0_passDays_23 rfl (lv_at hl 1 rfl) ?_
    refine k_X0_countDaysWithConsent D tI tZ tL h0 ad σ dd np hnp hn8 ⟨hx, hb, hml, hown, hts⟩ gX0_passDays_X0_countDaysWithConsent ⟨Nat.le_of_ble_eq_true rfl, Nat.le_of_ble_eq_true rfl⟩ hl.1 ⟨Nat.zero_le _, Nat.zero_le _⟩ (Nat.le_of_ble_eq_true rfl) hn hK hP hS (fun q h => h) dX0_passDays_24 (fun H locs hP _ _ hS => ?_)
    refine lv_aload_n hx hb dX0_passDays_27 rfl (lv_at hl 0 rfl) ?_
    refine lv_dup hx hb dX0_passDays_28 rfl ?_
    refine xg_today hx hb hts hin hown hK hP hl_today dX0_passDays_29 ?_
    refine lv_iload_n hx hb dX0_passDays_32 rfl (lv_at hl 1 rfl) ?_
    refine lv_iadd hx hb dX0_passDays_33 ?_
    refine xp_today hx hb hts hin hown hK hP (hD _) hS hl_today dX0_passDays_34 (fun H locs hP hS => ?_)
    refine lv_aload_n hx hb dX0_passDays_37 rfl (lv_at hl 0 rfl) ?_
    refine lv_aload_n hx hb dX0_passDays_38 rfl (lv_at hl 0 rfl) ?_
    refine k_X0_dueRecords D tI tZ tL h0 ad (s_set (x_cdA σ np dd) 0 (((x_cdA σ np dd).1 0) + dd)) np hnp hn8 nr hnr hn30 ⟨hx, hb, hml, hown, hts⟩ gX0_passDays_X0_dueRecords ⟨Nat.le_of_ble_eq_true rfl, Nat.le_of_ble_eq_true rfl⟩ hl.1 ⟨Nat.zero_le _, Nat.zero_le _⟩ (Nat.le_of_ble_eq_true rfl) hK hP dX0_passDays_39 ?_
    refine k_X0_requestWithAllBelow D tI tZ tL h0 ad (s_set (x_cdA σ np dd) 0 (((x_cdA σ np dd).1 0) + dd)) (x_due (s_set (x_cdA σ np dd) 0 (((x_cdA σ np dd).1 0) + dd)) np nr) nr hnr hn30 ⟨hx, hb, hml, hown, hts⟩ gX0_passDays_X0_requestWithAllBelow ⟨Nat.le_of_ble_eq_true rfl, Nat.le_of_ble_eq_true rfl⟩ hl.1 ⟨Nat.zero_le _, Nat.zero_le _⟩ (Nat.le_of_ble_eq_true rfl) hn hK hP hS (fun q h => h) dX0_passDays_42 (fun H locs hP _ _ hS => ?_)
    exact u_iret hx hb hr hlocks hS (hP) (rfl) dX0_passDays_45
  exact key _ _ hP hS ls hl
theorem k_X0_passDays {p : Program} {l : Launch} {e : Env} {R : Room} {s : State} {m : MethodId} {args : Array Value} {below : List Frame} {meth : Method} {c : Code} {H : Heap} {locs : List Loc} {cells slots : Nat} {Q : State → Prop} {cc : ByteArray} {pc : Nat} {ls : Array Slot} {rest : List Value} {Ts : List Cond} (D : va_G) (tI tZ tL : ClassId) (h0 : Nat) (ad : Nat → Nat) (σ : ST) (dd : Int32) (hd1 : 1 ≤ dd) (hd2 : dd ≤ 1000) (np : Nat) (hnp : σ.1 1 = nI np) (hn8 : np ≤ 8) (nr : Nat) (hnr : σ.1 6 = nI nr) (hn30 : nr ≤ 30) {A0 : Nat → Prop} {H0 : Heap} {own : String} {idx nL : Nat} (S : CallFix p m c cc nL s args Ts own) (hG : GoodIn Ts (wsV own idx RX0 yX0_passDays wsX0_passDays)) (hR : ({ frames := 5, cells := 0, slots := 0, locals := 111 } : Room).frames + 1 ≤ R.frames ∧ 8 + (2 + 11) + ({ frames := 5, cells := 0, slots := 0, locals := 111 } : Room).locals ≤ R.locals) (hsz : ls.size = nL) (hcap : cells ≤ R.cells ∧ slots ≤ R.slots) (hrm : (rest.map fun v => v.category).sum ≤ 8) (hn : (x_L h0 ad).Nodup) (hK : va_K D vwCl (kTY tI tZ tL) s) (hP : va_P D vwCl (x_W tI tZ h0 ad σ) H) (hS : va_S A0 H0 H locs) (hA : ∀ q, x_A h0 ad q → A0 q) (hdg : decode cc pc = .ok (.invokevirtual idx, 3)) (kk : ∀ (H1 : Heap) (locs1 : List Loc), va_P D vwCl (x_W tI tZ h0 ad (x_req (s_set (x_cdA σ np dd) 0 (σ.1 0 + dd)) (x_due (s_set (x_cdA σ np dd) 0 (σ.1 0 + dd)) np nr) nr)) H1 → H.size ≤ H1.size → (∀ q : Nat, q < H.size → ¬ x_A h0 ad q → H1[q]? = H[q]?) → va_S A0 H0 H1 locs1 → W p l e R s m args below meth c H1 locs1 cells slots Q (F0 m (pc + 3) ls (.int (x_pop (x_rq (s_set (x_cdA σ np dd) 0 (σ.1 0 + dd)) (x_due (s_set (x_cdA σ np dd) 0 (σ.1 0 + dd)) np nr) nr)) :: rest))) : W p l e R s m args below meth c H locs cells slots Q (F0 m pc ls (.int dd :: .ref h0 :: rest)) :=
  u_call (va_runV (As := [.int dd]) (rest := rest) S (c_X0_passDays l D tI tZ tL h0 ad σ dd hd1 hd2 np hnp hn8 nr hnr hn30 hn) (cwV 1 S.2.2.2.2 hG rfl rfl rfl (by decide +kernel) hR) (x_pre hK hP) rfl rfl hsz rfl (lv_room hrm) hdg hcap) hS hA hA kk

set_option maxHeartbeats 4000000 in
set_option maxRecDepth 100000 in
theorem c_X0_hold (l : Launch) (D : va_G) (tI tZ tL : ClassId) (h0 : Nat) (ad : Nat → Nat) (σ : ST) (i r : Nat) (nr : Nat) (hnr : σ.1 6 = nI nr) (hn30 : nr ≤ 30) (hrn : r < nr) (hi6 : i < 6) (her : bt (σ.1 14) r = false) (hho : bt (σ.2 15 i) r = false) (hn : (x_L h0 ad).Nodup) : Met l yX0_hold wsX0_hold ({ frames := 2, cells := 0, slots := 0, locals := 41 } : Room) (va_Pc ([.ref h0, .int (nI i), .int (nI r)] : List Value) (x_B D tI tZ tL h0 ad σ)) (u_Q (some (.int (x_pop (σ.2 15 i ||| bI r)))) (x_P D tI tZ h0 ad (s_put σ 15 i (σ.2 15 i ||| bI r))) (x_A h0 ad)) 0 0 (x_A h0 ad) := by
  refine u_met (cc := cX0_hold) (maxL := 3) (ret := (some .int)) (by decide) rfl (Nat.le_of_ble_eq_true rfl) ?_
  intro p e s m below meth c hx hb hml hr hts hown hlocks hB hS ls hl
  have hD : ∀ σ : ST, va_D (x_A h0 ad) (x_W tI tZ h0 ad σ) := fun σ => x_D σ hn (fun _ h => h)
  have hown : s.vm.findClass RX0 = some m.cls := hown
  obtain ⟨hP, hK⟩ := hB
  have hl : lv_has ls 3 [(0, .ref h0), (1, .int (nI i)), (2, .int (nI r))] := hl
  have hin : ∀ w ∈ wsX00, w ∈ wsX0_hold := in_X0_hold
  have hl_erasedRecords : xl_erasedRecords ∈ wsX0_hold := by decide +kernel
  have hl_recordsOfCase : xl_recordsOfCase ∈ wsX0_hold := by decide +kernel
  have key : ∀ (H : Heap) (locs : List Loc), va_P D vwCl (x_W tI tZ h0 ad σ) H → va_S (x_A h0 ad) s.heap H locs → ∀ ls, lv_has ls 3 [(0, .ref h0), (1, .int (nI i)), (2, .int (nI r))] → u_G p l e ({ frames := 2, cells := 0, slots := 0, locals := 41 } : Room) s m ([.ref h0, .int (nI i), .int (nI r)] : List Value).toArray below meth c H locs (some (.int (x_pop (σ.2 15 i ||| bI r)))) (x_P D tI tZ h0 ad (s_put σ 15 i (σ.2 15 i ||| bI r))) (x_A h0 ad) (F0 m 0 ls []) := by
    intro H locs hP hS ls hl
    refine lv_aload_n hx hb dX0_hold_0 rfl (lv_at hl 0 rfl) ?_
    refine lv_iload_n hx hb dX0_hold_1 rfl (lv_at hl 1 rfl) ?_
    refine k_X0_checkCase D tI tZ tL h0 ad σ i hi6 ⟨hx, hb, hml, hown, hts⟩ gX0_hold_X0_checkCase ⟨Nat.le_of_ble_eq_true rfl, Nat.le_of_ble_eq_true rfl⟩ hl.1 ⟨Nat.zero_le _, Nat.zero_le _⟩ (Nat.le_of_ble_eq_true rfl) hK hP dX0_hold_2 ?_
    refine lv_aload_n hx hb dX0_hold_5 rfl (lv_at hl 0 rfl) ?_
    refine lv_iload_n hx hb dX0_hold_6 rfl (lv_at hl 2 rfl) ?_
    refine k_X0_checkRecord D tI tZ tL h0 ad σ r nr hnr hn30 hrn ⟨hx, hb, hml, hown, hts⟩ gX0_hold_X0_checkRecord ⟨Nat.le_of_ble_eq_true rfl, Nat.le_of_ble_eq_true rfl⟩ hl.1 ⟨Nat.zero_le _, Nat.zero_le _⟩ (Nat.le_of_ble_eq_true rfl) hK hP dX0_hold_7 ?_
    refine lv_aload_n hx hb dX0_hold_10 rfl (lv_at hl 0 rfl) ?_
    refine xg_erasedRecords hx hb hts hin hown hK hP hl_erasedRecords dX0_hold_11 ?_
    refine lv_iload_n hx hb dX0_hold_14 rfl (lv_at hl 2 rfl) ?_
    refine k_X0_has (σ.1 14) r (by omega) ⟨hx, hb, hml, hown, hts⟩ gX0_hold_X0_has ⟨Nat.le_of_ble_eq_true rfl, Nat.le_of_ble_eq_true rfl⟩ hl.1 ⟨Nat.zero_le _, Nat.zero_le _⟩ (Nat.le_of_ble_eq_true rfl) dX0_hold_15 ?_
    refine lv_ifeq_b (tgt := 31) hx hb dX0_hold_18 (by decide) (fun c18 => ?_) (fun c18 => absurd c18 (by rw [her]; decide))
    refine lv_aload_n hx hb dX0_hold_31 rfl (lv_at hl 0 rfl) ?_
    refine xg_recordsOfCase hx hb hts hin hown hK hP hl_recordsOfCase dX0_hold_32 ?_
    refine lv_iload_n hx hb dX0_hold_35 rfl (lv_at hl 1 rfl) ?_
    refine xr_recordsOfCase (j := i) hx hb hK hP (by omega) dX0_hold_36 ?_
    refine lv_iload_n hx hb dX0_hold_37 rfl (lv_at hl 2 rfl) ?_
    refine k_X0_has (σ.2 15 i) r (by omega) ⟨hx, hb, hml, hown, hts⟩ gX0_hold_X0_has ⟨Nat.le_of_ble_eq_true rfl, Nat.le_of_ble_eq_true rfl⟩ hl.1 ⟨Nat.zero_le _, Nat.zero_le _⟩ (Nat.le_of_ble_eq_true rfl) dX0_hold_38 ?_
    refine lv_ifeq_b (tgt := 54) hx hb dX0_hold_41 (by decide) (fun c41 => ?_) (fun c41 => absurd c41 (by rw [hho]; decide))
    refine lv_aload_n hx hb dX0_hold_54 rfl (lv_at hl 0 rfl) ?_
    refine xg_recordsOfCase hx hb hts hin hown hK hP hl_recordsOfCase dX0_hold_55 ?_
    refine lv_iload_n hx hb dX0_hold_58 rfl (lv_at hl 1 rfl) ?_
    refine lv_dup2_11 hx hb dX0_hold_59 rfl rfl ?_
    refine xr_recordsOfCase (j := i) hx hb hK hP (by omega) dX0_hold_60 ?_
    refine lv_iload_n hx hb dX0_hold_61 rfl (lv_at hl 2 rfl) ?_
    refine k_X0_bit r ⟨hx, hb, hml, hown, hts⟩ gX0_hold_X0_bit ⟨Nat.le_of_ble_eq_true rfl, Nat.le_of_ble_eq_true rfl⟩ hl.1 ⟨Nat.zero_le _, Nat.zero_le _⟩ (Nat.le_of_ble_eq_true rfl) dX0_hold_62 ?_
    refine lv_ior hx hb dX0_hold_65 ?_
    refine xw_recordsOfCase (j := i) hx hb hK hP (hD _) hS (by omega) dX0_hold_66 (fun H locs hP hS => ?_)
    refine lv_aload_n hx hb dX0_hold_67 rfl (lv_at hl 0 rfl) ?_
    refine xg_recordsOfCase hx hb hts hin hown hK hP hl_recordsOfCase dX0_hold_68 ?_
    refine lv_iload_n hx hb dX0_hold_71 rfl (lv_at hl 1 rfl) ?_
    refine xr_recordsOfCase (j := i) hx hb hK hP (by omega) dX0_hold_72 ?_
    refine lv_topc (y := σ.2 15 i ||| bI r) (s_put_self) ?_
    refine k_J6_bitCount_0f7a4 (σ.2 15 i ||| bI r) ⟨hx, hb, hml, hown, hts⟩ gX0_hold_J6_bitCount_0f7a4 ⟨Nat.le_of_ble_eq_true rfl, Nat.le_of_ble_eq_true rfl⟩ hl.1 ⟨Nat.zero_le _, Nat.zero_le _⟩ (Nat.le_of_ble_eq_true rfl) dX0_hold_73 ?_
    exact u_iret hx hb hr hlocks hS (hP) (rfl) dX0_hold_76
  exact key _ _ hP hS ls hl
theorem k_X0_hold {p : Program} {l : Launch} {e : Env} {R : Room} {s : State} {m : MethodId} {args : Array Value} {below : List Frame} {meth : Method} {c : Code} {H : Heap} {locs : List Loc} {cells slots : Nat} {Q : State → Prop} {cc : ByteArray} {pc : Nat} {ls : Array Slot} {rest : List Value} {Ts : List Cond} (D : va_G) (tI tZ tL : ClassId) (h0 : Nat) (ad : Nat → Nat) (σ : ST) (i r : Nat) (nr : Nat) (hnr : σ.1 6 = nI nr) (hn30 : nr ≤ 30) (hrn : r < nr) (hi6 : i < 6) (her : bt (σ.1 14) r = false) (hho : bt (σ.2 15 i) r = false) {A0 : Nat → Prop} {H0 : Heap} {own : String} {idx nL : Nat} (S : CallFix p m c cc nL s args Ts own) (hG : GoodIn Ts (wsV own idx RX0 yX0_hold wsX0_hold)) (hR : ({ frames := 2, cells := 0, slots := 0, locals := 41 } : Room).frames + 1 ≤ R.frames ∧ 8 + (3 + 11) + ({ frames := 2, cells := 0, slots := 0, locals := 41 } : Room).locals ≤ R.locals) (hsz : ls.size = nL) (hcap : cells ≤ R.cells ∧ slots ≤ R.slots) (hrm : (rest.map fun v => v.category).sum ≤ 8) (hn : (x_L h0 ad).Nodup) (hK : va_K D vwCl (kTY tI tZ tL) s) (hP : va_P D vwCl (x_W tI tZ h0 ad σ) H) (hS : va_S A0 H0 H locs) (hA : ∀ q, x_A h0 ad q → A0 q) (hdg : decode cc pc = .ok (.invokevirtual idx, 3)) (kk : ∀ (H1 : Heap) (locs1 : List Loc), va_P D vwCl (x_W tI tZ h0 ad (s_put σ 15 i (σ.2 15 i ||| bI r))) H1 → H.size ≤ H1.size → (∀ q : Nat, q < H.size → ¬ x_A h0 ad q → H1[q]? = H[q]?) → va_S A0 H0 H1 locs1 → W p l e R s m args below meth c H1 locs1 cells slots Q (F0 m (pc + 3) ls (.int (x_pop (σ.2 15 i ||| bI r)) :: rest))) : W p l e R s m args below meth c H locs cells slots Q (F0 m pc ls (.int (nI r) :: .int (nI i) :: .ref h0 :: rest)) :=
  u_call (va_runV (As := [.int (nI i), .int (nI r)]) (rest := rest) S (c_X0_hold l D tI tZ tL h0 ad σ i r nr hnr hn30 hrn hi6 her hho hn) (cwV 2 S.2.2.2.2 hG rfl rfl rfl (by decide +kernel) hR) (x_pre hK hP) rfl rfl hsz rfl (lv_room hrm) hdg hcap) hS hA hA kk

set_option maxHeartbeats 4000000 in
set_option maxRecDepth 100000 in
theorem c_X0_close (l : Launch) (D : va_G) (tI tZ tL : ClassId) (h0 : Nat) (ad : Nat → Nat) (σ : ST) (i : Nat) (hi6 : i < 6) (hn : (x_L h0 ad).Nodup) : Met l yX0_close wsX0_close ({ frames := 1, cells := 0, slots := 0, locals := 22 } : Room) (va_Pc ([.ref h0, .int (nI i)] : List Value) (x_B D tI tZ tL h0 ad σ)) (u_Q (some (.int (x_pop (x_held (σ.2 15) 6 &&& (x_held ((s_put σ 15 i 0).2 15) 6 ^^^ (-1)))))) (x_P D tI tZ h0 ad (s_put σ 15 i 0)) (x_A h0 ad)) 0 0 (x_A h0 ad) := by
  refine u_met (cc := cX0_close) (maxL := 3) (ret := (some .int)) (by decide) rfl (Nat.le_of_ble_eq_true rfl) ?_
  intro p e s m below meth c hx hb hml hr hts hown hlocks hB hS ls hl
  have hD : ∀ σ : ST, va_D (x_A h0 ad) (x_W tI tZ h0 ad σ) := fun σ => x_D σ hn (fun _ h => h)
  have hown : s.vm.findClass RX0 = some m.cls := hown
  obtain ⟨hP, hK⟩ := hB
  have hl : lv_has ls 3 [(0, .ref h0), (1, .int (nI i))] := hl
  have hin : ∀ w ∈ wsX00, w ∈ wsX0_close := in_X0_close
  have hl_recordsOfCase : xl_recordsOfCase ∈ wsX0_close := by decide +kernel
  have key : ∀ (H : Heap) (locs : List Loc), va_P D vwCl (x_W tI tZ h0 ad σ) H → va_S (x_A h0 ad) s.heap H locs → ∀ ls, lv_has ls 3 [(0, .ref h0), (1, .int (nI i))] → u_G p l e ({ frames := 1, cells := 0, slots := 0, locals := 22 } : Room) s m ([.ref h0, .int (nI i)] : List Value).toArray below meth c H locs (some (.int (x_pop (x_held (σ.2 15) 6 &&& (x_held ((s_put σ 15 i 0).2 15) 6 ^^^ (-1)))))) (x_P D tI tZ h0 ad (s_put σ 15 i 0)) (x_A h0 ad) (F0 m 0 ls []) := by
    intro H locs hP hS ls hl
    refine lv_aload_n hx hb dX0_close_0 rfl (lv_at hl 0 rfl) ?_
    refine lv_iload_n hx hb dX0_close_1 rfl (lv_at hl 1 rfl) ?_
    refine k_X0_checkCase D tI tZ tL h0 ad σ i hi6 ⟨hx, hb, hml, hown, hts⟩ gX0_close_X0_checkCase ⟨Nat.le_of_ble_eq_true rfl, Nat.le_of_ble_eq_true rfl⟩ hl.1 ⟨Nat.zero_le _, Nat.zero_le _⟩ (Nat.le_of_ble_eq_true rfl) hK hP dX0_close_2 ?_
    refine lv_aload_n hx hb dX0_close_5 rfl (lv_at hl 0 rfl) ?_
    refine k_X0_heldRecords D tI tZ tL h0 ad σ  ⟨hx, hb, hml, hown, hts⟩ gX0_close_X0_heldRecords ⟨Nat.le_of_ble_eq_true rfl, Nat.le_of_ble_eq_true rfl⟩ hl.1 ⟨Nat.zero_le _, Nat.zero_le _⟩ (Nat.le_of_ble_eq_true rfl) hK hP dX0_close_6 ?_
    refine lv_istore_n (lv' := [(2, .int (x_held (σ.2 15) 6)), (0, .ref h0), (1, .int (nI i))]) hx hb dX0_close_9 rfl hl (by decide) rfl (fun ls hl => ?_)
    refine lv_aload_n hx hb dX0_close_10 rfl (lv_at hl 1 rfl) ?_
    refine xg_recordsOfCase hx hb hts hin hown hK hP hl_recordsOfCase dX0_close_11 ?_
    refine lv_iload_n hx hb dX0_close_14 rfl (lv_at hl 2 rfl) ?_
    refine lv_iconst (v := 0) hx hb dX0_close_15 (by decide) ?_
    refine xw_recordsOfCase (j := i) hx hb hK hP (hD _) hS (by omega) dX0_close_16 (fun H locs hP hS => ?_)
    refine lv_iload_n hx hb dX0_close_17 rfl (lv_at hl 0 rfl) ?_
    refine lv_aload_n hx hb dX0_close_18 rfl (lv_at hl 1 rfl) ?_
    refine k_X0_heldRecords D tI tZ tL h0 ad (s_put σ 15 i 0)  ⟨hx, hb, hml, hown, hts⟩ gX0_close_X0_heldRecords ⟨Nat.le_of_ble_eq_true rfl, Nat.le_of_ble_eq_true rfl⟩ hl.1 ⟨Nat.zero_le _, Nat.zero_le _⟩ (Nat.le_of_ble_eq_true rfl) hK hP dX0_close_19 ?_
    refine lv_iconst (v := (-1)) hx hb dX0_close_22 (by decide) ?_
    refine lv_ixor hx hb dX0_close_23 ?_
    refine lv_iand hx hb dX0_close_24 ?_
    refine k_J6_bitCount_0f7a4 ((x_held (σ.2 15) 6) &&& ((x_held ((s_put σ 15 i 0).2 15) 6) ^^^ (-1))) ⟨hx, hb, hml, hown, hts⟩ gX0_close_J6_bitCount_0f7a4 ⟨Nat.le_of_ble_eq_true rfl, Nat.le_of_ble_eq_true rfl⟩ hl.1 ⟨Nat.zero_le _, Nat.zero_le _⟩ (Nat.le_of_ble_eq_true rfl) dX0_close_25 ?_
    exact u_iret hx hb hr hlocks hS (hP) (rfl) dX0_close_28
  exact key _ _ hP hS ls hl
theorem k_X0_close {p : Program} {l : Launch} {e : Env} {R : Room} {s : State} {m : MethodId} {args : Array Value} {below : List Frame} {meth : Method} {c : Code} {H : Heap} {locs : List Loc} {cells slots : Nat} {Q : State → Prop} {cc : ByteArray} {pc : Nat} {ls : Array Slot} {rest : List Value} {Ts : List Cond} (D : va_G) (tI tZ tL : ClassId) (h0 : Nat) (ad : Nat → Nat) (σ : ST) (i : Nat) (hi6 : i < 6) {A0 : Nat → Prop} {H0 : Heap} {own : String} {idx nL : Nat} (S : CallFix p m c cc nL s args Ts own) (hG : GoodIn Ts (wsV own idx RX0 yX0_close wsX0_close)) (hR : ({ frames := 1, cells := 0, slots := 0, locals := 22 } : Room).frames + 1 ≤ R.frames ∧ 8 + (3 + 11) + ({ frames := 1, cells := 0, slots := 0, locals := 22 } : Room).locals ≤ R.locals) (hsz : ls.size = nL) (hcap : cells ≤ R.cells ∧ slots ≤ R.slots) (hrm : (rest.map fun v => v.category).sum ≤ 8) (hn : (x_L h0 ad).Nodup) (hK : va_K D vwCl (kTY tI tZ tL) s) (hP : va_P D vwCl (x_W tI tZ h0 ad σ) H) (hS : va_S A0 H0 H locs) (hA : ∀ q, x_A h0 ad q → A0 q) (hdg : decode cc pc = .ok (.invokevirtual idx, 3)) (kk : ∀ (H1 : Heap) (locs1 : List Loc), va_P D vwCl (x_W tI tZ h0 ad (s_put σ 15 i 0)) H1 → H.size ≤ H1.size → (∀ q : Nat, q < H.size → ¬ x_A h0 ad q → H1[q]? = H[q]?) → va_S A0 H0 H1 locs1 → W p l e R s m args below meth c H1 locs1 cells slots Q (F0 m (pc + 3) ls (.int (x_pop (x_held (σ.2 15) 6 &&& (x_held ((s_put σ 15 i 0).2 15) 6 ^^^ (-1)))) :: rest))) : W p l e R s m args below meth c H locs cells slots Q (F0 m pc ls (.int (nI i) :: .ref h0 :: rest)) :=
  u_call (va_runV (As := [.int (nI i)]) (rest := rest) S (c_X0_close l D tI tZ tL h0 ad σ i hi6 hn) (cwV 1 S.2.2.2.2 hG rfl rfl rfl (by decide +kernel) hR) (x_pre hK hP) rfl rfl hsz rfl (lv_room hrm) hdg hcap) hS hA hA kk

set_option maxHeartbeats 4000000 in
set_option maxRecDepth 100000 in
theorem c_X0_request (l : Launch) (D : va_G) (tI tZ tL : ClassId) (h0 : Nat) (ad : Nat → Nat) (σ : ST) (j : Nat) (hj12 : j < 12) (nr : Nat) (hnr : σ.1 6 = nI nr) (hn30 : nr ≤ 30) (hn : (x_L h0 ad).Nodup) : Met l yX0_request wsX0_request ({ frames := 3, cells := 0, slots := 0, locals := 65 } : Room) (va_Pc ([.ref h0, .int (nI j)] : List Value) (x_B D tI tZ tL h0 ad σ)) (u_Q (some (.int (x_pop (x_rq σ (x_rof (σ.2 9) j nr &&& σ.1 12) nr)))) (x_P D tI tZ h0 ad (x_req σ (x_rof (σ.2 9) j nr &&& σ.1 12) nr)) (x_A h0 ad)) 0 0 (x_A h0 ad) := by
  refine u_met (cc := cX0_request) (maxL := 2) (ret := (some .int)) (by decide) rfl (Nat.le_of_ble_eq_true rfl) ?_
  intro p e s m below meth c hx hb hml hr hts hown hlocks hB hS ls hl
  have hD : ∀ σ : ST, va_D (x_A h0 ad) (x_W tI tZ h0 ad σ) := fun σ => x_D σ hn (fun _ h => h)
  have hown : s.vm.findClass RX0 = some m.cls := hown
  obtain ⟨hP, hK⟩ := hB
  have hl : lv_has ls 2 [(0, .ref h0), (1, .int (nI j))] := hl
  have hin : ∀ w ∈ wsX00, w ∈ wsX0_request := in_X0_request
  have hl_presentRecords : xl_presentRecords ∈ wsX0_request := by decide +kernel
  have key : ∀ (H : Heap) (locs : List Loc), va_P D vwCl (x_W tI tZ h0 ad σ) H → va_S (x_A h0 ad) s.heap H locs → ∀ ls, lv_has ls 2 [(0, .ref h0), (1, .int (nI j))] → u_G p l e ({ frames := 3, cells := 0, slots := 0, locals := 65 } : Room) s m ([.ref h0, .int (nI j)] : List Value).toArray below meth c H locs (some (.int (x_pop (x_rq σ (x_rof (σ.2 9) j nr &&& σ.1 12) nr)))) (x_P D tI tZ h0 ad (x_req σ (x_rof (σ.2 9) j nr &&& σ.1 12) nr)) (x_A h0 ad) (F0 m 0 ls []) := by
    intro H locs hP hS ls hl
    refine lv_aload_n hx hb dX0_request_0 rfl (lv_at hl 0 rfl) ?_
    refine lv_iload_n hx hb dX0_request_1 rfl (lv_at hl 1 rfl) ?_
    refine k_X0_checkSubject D tI tZ tL h0 ad σ j hj12 ⟨hx, hb, hml, hown, hts⟩ gX0_request_X0_checkSubject ⟨Nat.le_of_ble_eq_true rfl, Nat.le_of_ble_eq_true rfl⟩ hl.1 ⟨Nat.zero_le _, Nat.zero_le _⟩ (Nat.le_of_ble_eq_true rfl) hK hP dX0_request_2 ?_
    refine lv_aload_n hx hb dX0_request_5 rfl (lv_at hl 0 rfl) ?_
    refine lv_aload_n hx hb dX0_request_6 rfl (lv_at hl 0 rfl) ?_
    refine lv_iload_n hx hb dX0_request_7 rfl (lv_at hl 1 rfl) ?_
    refine k_X0_recordsOf D tI tZ tL h0 ad σ j hj12 nr hnr hn30 ⟨hx, hb, hml, hown, hts⟩ gX0_request_X0_recordsOf ⟨Nat.le_of_ble_eq_true rfl, Nat.le_of_ble_eq_true rfl⟩ hl.1 ⟨Nat.zero_le _, Nat.zero_le _⟩ (Nat.le_of_ble_eq_true rfl) hK hP dX0_request_8 ?_
    refine lv_aload_n hx hb dX0_request_11 rfl (lv_at hl 0 rfl) ?_
    refine xg_presentRecords hx hb hts hin hown hK hP hl_presentRecords dX0_request_12 ?_
    refine lv_iand hx hb dX0_request_15 ?_
    refine k_X0_requestWithAllBelow D tI tZ tL h0 ad σ ((x_rof (σ.2 9) j nr) &&& (σ.1 12)) nr hnr hn30 ⟨hx, hb, hml, hown, hts⟩ gX0_request_X0_requestWithAllBelow ⟨Nat.le_of_ble_eq_true rfl, Nat.le_of_ble_eq_true rfl⟩ hl.1 ⟨Nat.zero_le _, Nat.zero_le _⟩ (Nat.le_of_ble_eq_true rfl) hn hK hP hS (fun q h => h) dX0_request_16 (fun H locs hP _ _ hS => ?_)
    exact u_iret hx hb hr hlocks hS (hP) (rfl) dX0_request_19
  exact key _ _ hP hS ls hl
theorem k_X0_request {p : Program} {l : Launch} {e : Env} {R : Room} {s : State} {m : MethodId} {args : Array Value} {below : List Frame} {meth : Method} {c : Code} {H : Heap} {locs : List Loc} {cells slots : Nat} {Q : State → Prop} {cc : ByteArray} {pc : Nat} {ls : Array Slot} {rest : List Value} {Ts : List Cond} (D : va_G) (tI tZ tL : ClassId) (h0 : Nat) (ad : Nat → Nat) (σ : ST) (j : Nat) (hj12 : j < 12) (nr : Nat) (hnr : σ.1 6 = nI nr) (hn30 : nr ≤ 30) {A0 : Nat → Prop} {H0 : Heap} {own : String} {idx nL : Nat} (S : CallFix p m c cc nL s args Ts own) (hG : GoodIn Ts (wsV own idx RX0 yX0_request wsX0_request)) (hR : ({ frames := 3, cells := 0, slots := 0, locals := 65 } : Room).frames + 1 ≤ R.frames ∧ 8 + (2 + 11) + ({ frames := 3, cells := 0, slots := 0, locals := 65 } : Room).locals ≤ R.locals) (hsz : ls.size = nL) (hcap : cells ≤ R.cells ∧ slots ≤ R.slots) (hrm : (rest.map fun v => v.category).sum ≤ 8) (hn : (x_L h0 ad).Nodup) (hK : va_K D vwCl (kTY tI tZ tL) s) (hP : va_P D vwCl (x_W tI tZ h0 ad σ) H) (hS : va_S A0 H0 H locs) (hA : ∀ q, x_A h0 ad q → A0 q) (hdg : decode cc pc = .ok (.invokevirtual idx, 3)) (kk : ∀ (H1 : Heap) (locs1 : List Loc), va_P D vwCl (x_W tI tZ h0 ad (x_req σ (x_rof (σ.2 9) j nr &&& σ.1 12) nr)) H1 → H.size ≤ H1.size → (∀ q : Nat, q < H.size → ¬ x_A h0 ad q → H1[q]? = H[q]?) → va_S A0 H0 H1 locs1 → W p l e R s m args below meth c H1 locs1 cells slots Q (F0 m (pc + 3) ls (.int (x_pop (x_rq σ (x_rof (σ.2 9) j nr &&& σ.1 12) nr)) :: rest))) : W p l e R s m args below meth c H locs cells slots Q (F0 m pc ls (.int (nI j) :: .ref h0 :: rest)) :=
  u_call (va_runV (As := [.int (nI j)]) (rest := rest) S (c_X0_request l D tI tZ tL h0 ad σ j hj12 nr hnr hn30 hn) (cwV 1 S.2.2.2.2 hG rfl rfl rfl (by decide +kernel) hR) (x_pre hK hP) rfl rfl hsz rfl (lv_room hrm) hdg hcap) hS hA hA kk

set_option maxHeartbeats 4000000 in
set_option maxRecDepth 100000 in
theorem c_X0_erase (l : Launch) (D : va_G) (tI tZ tL : ClassId) (h0 : Nat) (ad : Nat → Nat) (σ : ST) (nr : Nat) (hnr : σ.1 6 = nI nr) (hn30 : nr ≤ 30) (hn : (x_L h0 ad).Nodup) : Met l yX0_erase wsX0_erase ({ frames := 4, cells := 0, slots := 0, locals := 85 } : Room) (va_Pc ([.ref h0] : List Value) (x_B D tI tZ tL h0 ad σ)) (u_Q (some (.int (x_erA σ nr))) (x_P D tI tZ h0 ad (x_erS σ nr)) (x_A h0 ad)) 0 0 (x_A h0 ad) := by
  refine u_met (cc := cX0_erase) (maxL := 2) (ret := (some .int)) (by decide) rfl (Nat.le_of_ble_eq_true rfl) ?_
  intro p e s m below meth c hx hb hml hr hts hown hlocks hB hS ls hl
  have hD : ∀ σ : ST, va_D (x_A h0 ad) (x_W tI tZ h0 ad σ) := fun σ => x_D σ hn (fun _ h => h)
  have hown : s.vm.findClass RX0 = some m.cls := hown
  obtain ⟨hP, hK⟩ := hB
  have hl : lv_has ls 2 [(0, .ref h0)] := hl
  have hin : ∀ w ∈ wsX00, w ∈ wsX0_erase := in_X0_erase
  have hl_recordCount : xl_recordCount ∈ wsX0_erase := by decide +kernel
  have key : ∀ (H : Heap) (locs : List Loc), va_P D vwCl (x_W tI tZ h0 ad σ) H → va_S (x_A h0 ad) s.heap H locs → ∀ ls, lv_has ls 2 [(0, .ref h0)] → u_G p l e ({ frames := 4, cells := 0, slots := 0, locals := 85 } : Room) s m ([.ref h0] : List Value).toArray below meth c H locs (some (.int (x_erA σ nr))) (x_P D tI tZ h0 ad (x_erS σ nr)) (x_A h0 ad) (F0 m 0 ls []) := by
    intro H locs hP hS ls hl
    refine lv_aload_n hx hb dX0_erase_0 rfl (lv_at hl 0 rfl) ?_
    refine xg_recordCount hx hb hts hin hown hK hP hl_recordCount dX0_erase_1 ?_
    refine lv_iconst (v := 1) hx hb dX0_erase_4 (by decide) ?_
    refine lv_isub hx hb dX0_erase_5 ?_
    refine lv_istore_n (lv' := [(1, .int ((σ.1 6) - 1)), (0, .ref h0)]) hx hb dX0_erase_6 rfl hl (by decide) rfl (fun ls hl => ?_)
    have loop7 : ∀ (k : Nat), k ≤ nr → (hT : x_find σ nr k = x_find σ nr nr) → ∀ ls, lv_has ls 2 [(0, .ref h0), (1, .int (nI k - 1))] → u_G p l e ({ frames := 4, cells := 0, slots := 0, locals := 85 } : Room) s m ([.ref h0] : List Value).toArray below meth c H locs (some (.int (x_erA σ nr))) (x_P D tI tZ h0 ad (x_erS σ nr)) (x_A h0 ad) (F0 m 7 ls []) := by
      intro k
      induction k with
      | zero =>
        intro hk_k  hT ls hl
        refine lv_iload_n hx hb dX0_erase_7 rfl (lv_at hl 1 rfl) ?_
        refine lv_if_lt (tgt := 32) hx hb dX0_erase_8 (by decide) (fun c8 => ?_) (fun c8 => absurd (show nI 0 - 1 < 0 by decide) c8)
        refine lv_iconst (v := (-1)) hx hb dX0_erase_32 (by decide) ?_
        exact u_iret hx hb hr hlocks hS (by unfold x_erS; rw [← hT]; exact hP) (by rw [x_erA, ← hT]; rfl) dX0_erase_33
      | succ k ihk =>
        intro hk_k  hT ls hl
        have hl : lv_has ls 2 [(0, .ref h0), (1, .int (nI k))] := (lv_to (L := [(0, .ref h0), (1, .int (nI (k + 1) - 1))]) (lv_sub hl [0, 1] rfl) (lv_cr (lv_ci (nI_pred k) rfl)))
        refine lv_iload_n hx hb dX0_erase_7 rfl (lv_at hl 1 rfl) ?_
        refine lv_if_lt (tgt := 32) hx hb dX0_erase_8 (by decide) (fun c8 => absurd c8 (nI_pos (by omega))) (fun c8 => ?_)
        refine lv_aload_n hx hb dX0_erase_11 rfl (lv_at hl 0 rfl) ?_
        refine lv_iload_n hx hb dX0_erase_12 rfl (lv_at hl 1 rfl) ?_
        refine k_X0_whyKept D tI tZ tL h0 ad σ k nr hnr hn30 (by omega) ⟨hx, hb, hml, hown, hts⟩ gX0_erase_X0_whyKept ⟨Nat.le_of_ble_eq_true rfl, Nat.le_of_ble_eq_true rfl⟩ hl.1 ⟨Nat.zero_le _, Nat.zero_le _⟩ (Nat.le_of_ble_eq_true rfl) hK hP dX0_erase_13 ?_
        refine lv_if_ne (tgt := 26) hx hb dX0_erase_16 (by decide) (fun c16 => ?_) (fun c16 => ?_)
        · refine lv_iinc (v := (nI k) + (-1)) (lv' := [(1, .int ((nI k) + (-1))), (0, .ref h0)]) hx hb dX0_erase_26 hl (k := 1) rfl rfl (by decide) rfl (fun ls hl => ?_)
          refine lv_goto (tgt := 7) hx hb dX0_erase_29 (by decide) ?_
          exact ihk (by omega)  (by rw [← hT, x_find, if_neg c16]) _ (lv_to (L := [(0, .ref h0), (1, .int ((nI k) + (-1)))]) (lv_sub hl [1, 0] rfl) (lv_cr (lv_ci (sub1 _) rfl)))
        · refine lv_aload_n hx hb dX0_erase_19 rfl (lv_at hl 0 rfl) ?_
          refine lv_iload_n hx hb dX0_erase_20 rfl (lv_at hl 1 rfl) ?_
          refine k_X0_moveToErased D tI tZ tL h0 ad σ k ⟨hx, hb, hml, hown, hts⟩ gX0_erase_X0_moveToErased ⟨Nat.le_of_ble_eq_true rfl, Nat.le_of_ble_eq_true rfl⟩ hl.1 ⟨Nat.zero_le _, Nat.zero_le _⟩ (Nat.le_of_ble_eq_true rfl) hn hK hP hS (fun q h => h) dX0_erase_21 (fun H locs hP _ _ hS => ?_)
          refine lv_iload_n hx hb dX0_erase_24 rfl (lv_at hl 1 rfl) ?_
          exact u_iret hx hb hr hlocks hS (by unfold x_erS; rw [← hT, x_find, if_pos c16]; exact hP) (by rw [x_erA, ← hT, x_find, if_pos c16]) dX0_erase_25
    exact loop7 nr (by omega)  (rfl) _ (lv_to (L := [(0, .ref h0), (1, .int ((σ.1 6) - 1))]) (lv_sub hl [1, 0] rfl) (lv_cr (lv_ci (by rw [hnr]) rfl)))
  exact key _ _ hP hS ls hl
theorem k_X0_erase {p : Program} {l : Launch} {e : Env} {R : Room} {s : State} {m : MethodId} {args : Array Value} {below : List Frame} {meth : Method} {c : Code} {H : Heap} {locs : List Loc} {cells slots : Nat} {Q : State → Prop} {cc : ByteArray} {pc : Nat} {ls : Array Slot} {rest : List Value} {Ts : List Cond} (D : va_G) (tI tZ tL : ClassId) (h0 : Nat) (ad : Nat → Nat) (σ : ST) (nr : Nat) (hnr : σ.1 6 = nI nr) (hn30 : nr ≤ 30) {A0 : Nat → Prop} {H0 : Heap} {own : String} {idx nL : Nat} (S : CallFix p m c cc nL s args Ts own) (hG : GoodIn Ts (wsV own idx RX0 yX0_erase wsX0_erase)) (hR : ({ frames := 4, cells := 0, slots := 0, locals := 85 } : Room).frames + 1 ≤ R.frames ∧ 8 + (2 + 11) + ({ frames := 4, cells := 0, slots := 0, locals := 85 } : Room).locals ≤ R.locals) (hsz : ls.size = nL) (hcap : cells ≤ R.cells ∧ slots ≤ R.slots) (hrm : (rest.map fun v => v.category).sum ≤ 8) (hn : (x_L h0 ad).Nodup) (hK : va_K D vwCl (kTY tI tZ tL) s) (hP : va_P D vwCl (x_W tI tZ h0 ad σ) H) (hS : va_S A0 H0 H locs) (hA : ∀ q, x_A h0 ad q → A0 q) (hdg : decode cc pc = .ok (.invokevirtual idx, 3)) (kk : ∀ (H1 : Heap) (locs1 : List Loc), va_P D vwCl (x_W tI tZ h0 ad (x_erS σ nr)) H1 → H.size ≤ H1.size → (∀ q : Nat, q < H.size → ¬ x_A h0 ad q → H1[q]? = H[q]?) → va_S A0 H0 H1 locs1 → W p l e R s m args below meth c H1 locs1 cells slots Q (F0 m (pc + 3) ls (.int (x_erA σ nr) :: rest))) : W p l e R s m args below meth c H locs cells slots Q (F0 m pc ls (.ref h0 :: rest)) :=
  u_call (va_runV (As := []) (rest := rest) S (c_X0_erase l D tI tZ tL h0 ad σ nr hnr hn30 hn) (cwV 0 S.2.2.2.2 hG rfl rfl rfl (by decide +kernel) hR) (x_pre hK hP) rfl rfl hsz rfl (lv_room hrm) hdg hcap) hS hA hA kk

set_option maxHeartbeats 4000000 in
set_option maxRecDepth 100000 in
theorem c_X0_eraseAll (l : Launch) (D : va_G) (tI tZ tL : ClassId) (h0 : Nat) (ad : Nat → Nat) (σ : ST) (nr : Nat) (hnr : σ.1 6 = nI nr) (hn30 : nr ≤ 30) (hn : (x_L h0 ad).Nodup) : Met l yX0_eraseAll wsX0_eraseAll ({ frames := 4, cells := 0, slots := 0, locals := 85 } : Room) (va_Pc ([.ref h0] : List Value) (x_B D tI tZ tL h0 ad σ)) (u_Q (some (.int (x_eaC nr nr σ 0))) (x_P D tI tZ h0 ad (x_eaS nr nr σ)) (x_A h0 ad)) 0 0 (x_A h0 ad) := by
  refine u_met (cc := cX0_eraseAll) (maxL := 3) (ret := (some .int)) (by decide) rfl (Nat.le_of_ble_eq_true rfl) ?_
  intro p e s m below meth c hx hb hml hr hts hown hlocks hB hS ls hl
  have hD : ∀ σ : ST, va_D (x_A h0 ad) (x_W tI tZ h0 ad σ) := fun σ => x_D σ hn (fun _ h => h)
  have hown : s.vm.findClass RX0 = some m.cls := hown
  obtain ⟨hP, hK⟩ := hB
  have hl : lv_has ls 3 [(0, .ref h0)] := hl
  have hin : ∀ w ∈ wsX00, w ∈ wsX0_eraseAll := in_X0_eraseAll
  have hl_recordCount : xl_recordCount ∈ wsX0_eraseAll := by decide +kernel
  have key : ∀ (H : Heap) (locs : List Loc), va_P D vwCl (x_W tI tZ h0 ad σ) H → va_S (x_A h0 ad) s.heap H locs → ∀ ls, lv_has ls 3 [(0, .ref h0)] → u_G p l e ({ frames := 4, cells := 0, slots := 0, locals := 85 } : Room) s m ([.ref h0] : List Value).toArray below meth c H locs (some (.int (x_eaC nr nr σ 0))) (x_P D tI tZ h0 ad (x_eaS nr nr σ)) (x_A h0 ad) (F0 m 0 ls []) := by
    intro H locs hP hS ls hl
    refine lv_iconst (v := 0) hx hb dX0_eraseAll_0 (by decide) ?_
    refine lv_istore_n (lv' := [(1, .int 0), (0, .ref h0)]) hx hb dX0_eraseAll_1 rfl hl (by decide) rfl (fun ls hl => ?_)
    refine lv_aload_n hx hb dX0_eraseAll_2 rfl (lv_at hl 1 rfl) ?_
    refine xg_recordCount hx hb hts hin hown hK hP hl_recordCount dX0_eraseAll_3 ?_
    refine lv_iconst (v := 1) hx hb dX0_eraseAll_6 (by decide) ?_
    refine lv_isub hx hb dX0_eraseAll_7 ?_
    refine lv_istore_n (lv' := [(2, .int ((σ.1 6) - 1)), (1, .int 0), (0, .ref h0)]) hx hb dX0_eraseAll_8 rfl hl (by decide) rfl (fun ls hl => ?_)
    have loop9 : ∀ (k : Nat), k ≤ nr → ∀ (cnt : Int32) (σ1 : ST), (hC : x_eaC nr k σ1 cnt = x_eaC nr nr σ 0) → (hT : x_eaS nr k σ1 = x_eaS nr nr σ) → (hnr1 : σ1.1 6 = nI nr) → ∀ (H : Heap) (locs : List Loc), va_P D vwCl (x_W tI tZ h0 ad σ1) H → va_S (x_A h0 ad) s.heap H locs → ∀ ls, lv_has ls 3 [(0, .ref h0), (1, .int cnt), (2, .int (nI k - 1))] → u_G p l e ({ frames := 4, cells := 0, slots := 0, locals := 85 } : Room) s m ([.ref h0] : List Value).toArray below meth c H locs (some (.int (x_eaC nr nr σ 0))) (x_P D tI tZ h0 ad (x_eaS nr nr σ)) (x_A h0 ad) (F0 m 9 ls []) := by
      intro k
      induction k with
      | zero =>
        intro hk_k cnt σ1 hC hT hnr1 H locs hP hS ls hl
        refine lv_iload_n hx hb dX0_eraseAll_9 rfl (lv_at hl 2 rfl) ?_
        refine lv_if_lt (tgt := 35) hx hb dX0_eraseAll_10 (by decide) (fun c10 => ?_) (fun c10 => absurd (show nI 0 - 1 < 0 by decide) c10)
        refine lv_iload_n hx hb dX0_eraseAll_35 rfl (lv_at hl 1 rfl) ?_
        exact u_iret hx hb hr hlocks hS (by rw [← hT]; exact hP) (by rw [← hC]; rfl) dX0_eraseAll_36
      | succ k ihk =>
        intro hk_k cnt σ1 hC hT hnr1 H locs hP hS ls hl
        have hl : lv_has ls 3 [(0, .ref h0), (1, .int cnt), (2, .int (nI k))] := (lv_to (L := [(0, .ref h0), (1, .int cnt), (2, .int (nI (k + 1) - 1))]) (lv_sub hl [0, 1, 2] rfl) (lv_cr (lv_cr (lv_ci (nI_pred k) rfl))))
        refine lv_iload_n hx hb dX0_eraseAll_9 rfl (lv_at hl 2 rfl) ?_
        refine lv_if_lt (tgt := 35) hx hb dX0_eraseAll_10 (by decide) (fun c10 => absurd c10 (nI_pos (by omega))) (fun c10 => ?_)
        refine lv_aload_n hx hb dX0_eraseAll_13 rfl (lv_at hl 0 rfl) ?_
        refine lv_iload_n hx hb dX0_eraseAll_14 rfl (lv_at hl 2 rfl) ?_
        refine k_X0_whyKept D tI tZ tL h0 ad σ1 k nr (hnr1) hn30 (by omega) ⟨hx, hb, hml, hown, hts⟩ gX0_eraseAll_X0_whyKept ⟨Nat.le_of_ble_eq_true rfl, Nat.le_of_ble_eq_true rfl⟩ hl.1 ⟨Nat.zero_le _, Nat.zero_le _⟩ (Nat.le_of_ble_eq_true rfl) hK hP dX0_eraseAll_15 ?_
        refine lv_if_ne (tgt := 29) hx hb dX0_eraseAll_18 (by decide) (fun c18 => ?_) (fun c18 => ?_)
        · refine lv_iinc (v := (nI k) + (-1)) (lv' := [(2, .int ((nI k) + (-1))), (0, .ref h0), (1, .int cnt)]) hx hb dX0_eraseAll_29 hl (k := 2) rfl rfl (by decide) rfl (fun ls hl => ?_)
          refine lv_goto (tgt := 9) hx hb dX0_eraseAll_32 (by decide) ?_
          exact ihk (by omega) cnt σ1 (by rw [← hC, x_eaC, if_neg c18]) (by rw [← hT, x_eaS, if_neg c18]) (hnr1) _ _ (hP) hS _ (lv_to (L := [(0, .ref h0), (1, .int cnt), (2, .int ((nI k) + (-1)))]) (lv_sub hl [1, 2, 0] rfl) (lv_cr (lv_cr (lv_ci (sub1 _) rfl))))
        · refine lv_aload_n hx hb dX0_eraseAll_21 rfl (lv_at hl 0 rfl) ?_
          refine lv_iload_n hx hb dX0_eraseAll_22 rfl (lv_at hl 2 rfl) ?_
          refine k_X0_moveToErased D tI tZ tL h0 ad σ1 k ⟨hx, hb, hml, hown, hts⟩ gX0_eraseAll_X0_moveToErased ⟨Nat.le_of_ble_eq_true rfl, Nat.le_of_ble_eq_true rfl⟩ hl.1 ⟨Nat.zero_le _, Nat.zero_le _⟩ (Nat.le_of_ble_eq_true rfl) hn hK hP hS (fun q h => h) dX0_eraseAll_23 (fun H locs hP _ _ hS => ?_)
          refine lv_iinc (v := cnt + 1) (lv' := [(1, .int (cnt + 1)), (0, .ref h0), (2, .int (nI k))]) hx hb dX0_eraseAll_26 hl (k := 1) rfl rfl (by decide) rfl (fun ls hl => ?_)
          refine lv_iinc (v := (nI k) + (-1)) (lv' := [(2, .int ((nI k) + (-1))), (1, .int (cnt + 1)), (0, .ref h0)]) hx hb dX0_eraseAll_29 hl (k := 2) rfl rfl (by decide) rfl (fun ls hl => ?_)
          refine lv_goto (tgt := 9) hx hb dX0_eraseAll_32 (by decide) ?_
          exact ihk (by omega) (cnt + 1) (x_mv σ1 k) (by rw [← hC, x_eaC, if_pos c18]) (by rw [← hT, x_eaS, if_pos c18]) (hnr1) _ _ (hP) hS _ (lv_to (L := [(0, .ref h0), (1, .int (cnt + 1)), (2, .int ((nI k) + (-1)))]) (lv_sub hl [2, 1, 0] rfl) (lv_cr (lv_cr (lv_ci (sub1 _) rfl))))
    exact loop9 nr (by omega) 0 σ (rfl) (rfl) (hnr) _ _ (hP) hS _ (lv_to (L := [(0, .ref h0), (1, .int 0), (2, .int ((σ.1 6) - 1))]) (lv_sub hl [2, 1, 0] rfl) (lv_cr (lv_cr (lv_ci (by rw [hnr]) rfl))))
  exact key _ _ hP hS ls hl
theorem k_X0_eraseAll {p : Program} {l : Launch} {e : Env} {R : Room} {s : State} {m : MethodId} {args : Array Value} {below : List Frame} {meth : Method} {c : Code} {H : Heap} {locs : List Loc} {cells slots : Nat} {Q : State → Prop} {cc : ByteArray} {pc : Nat} {ls : Array Slot} {rest : List Value} {Ts : List Cond} (D : va_G) (tI tZ tL : ClassId) (h0 : Nat) (ad : Nat → Nat) (σ : ST) (nr : Nat) (hnr : σ.1 6 = nI nr) (hn30 : nr ≤ 30) {A0 : Nat → Prop} {H0 : Heap} {own : String} {idx nL : Nat} (S : CallFix p m c cc nL s args Ts own) (hG : GoodIn Ts (wsV own idx RX0 yX0_eraseAll wsX0_eraseAll)) (hR : ({ frames := 4, cells := 0, slots := 0, locals := 85 } : Room).frames + 1 ≤ R.frames ∧ 8 + (3 + 11) + ({ frames := 4, cells := 0, slots := 0, locals := 85 } : Room).locals ≤ R.locals) (hsz : ls.size = nL) (hcap : cells ≤ R.cells ∧ slots ≤ R.slots) (hrm : (rest.map fun v => v.category).sum ≤ 8) (hn : (x_L h0 ad).Nodup) (hK : va_K D vwCl (kTY tI tZ tL) s) (hP : va_P D vwCl (x_W tI tZ h0 ad σ) H) (hS : va_S A0 H0 H locs) (hA : ∀ q, x_A h0 ad q → A0 q) (hdg : decode cc pc = .ok (.invokevirtual idx, 3)) (kk : ∀ (H1 : Heap) (locs1 : List Loc), va_P D vwCl (x_W tI tZ h0 ad (x_eaS nr nr σ)) H1 → H.size ≤ H1.size → (∀ q : Nat, q < H.size → ¬ x_A h0 ad q → H1[q]? = H[q]?) → va_S A0 H0 H1 locs1 → W p l e R s m args below meth c H1 locs1 cells slots Q (F0 m (pc + 3) ls (.int (x_eaC nr nr σ 0) :: rest))) : W p l e R s m args below meth c H locs cells slots Q (F0 m pc ls (.ref h0 :: rest)) :=
  u_call (va_runV (As := []) (rest := rest) S (c_X0_eraseAll l D tI tZ tL h0 ad σ nr hnr hn30 hn) (cwV 0 S.2.2.2.2 hG rfl rfl rfl (by decide +kernel) hR) (x_pre hK hP) rfl rfl hsz rfl (lv_room hrm) hdg hcap) hS hA hA kk

set_option maxHeartbeats 4000000 in
set_option maxRecDepth 100000 in
theorem c_X0_use_tC (l : Launch) (D : va_G) (tI tZ tL : ClassId) (h0 : Nat) (ad : Nat → Nat) (σ : ST) (r q : Nat) (nr : Nat) (hnr : σ.1 6 = nI nr) (hn30 : nr ≤ 30) (hrn : r < nr) (np : Nat) (hnp : σ.1 1 = nI np) (hn8 : np ≤ 8) (hq : q < np) (hw : ¬ x_why σ np r q = 0) (hlf : l.stackTraces = false) : vx_Met l yX0_use wsX0_use ({ frames := 6, cells := 1, slots := 6, locals := 140 } : Room) (va_Pc ([.ref h0, .int (nI r), .int (nI q)] : List Value) (t_B D tI tZ tL h0 ad σ)) t_N (e_X "java/lang/IllegalStateException") 1 6 q_no := by
  refine t_met (cc := cX0_use) (maxL := 4) (ret := (some .int)) (by decide) rfl (Nat.le_of_ble_eq_true rfl) ?_
  intro p e s m below meth c hx hb hml hr hts hown hlocks hnt hB ls hl
  have hown : s.vm.findClass RX0 = some m.cls := hown
  obtain ⟨hP, hK, hE⟩ := hB
  have hl : lv_has ls 4 [(0, .ref h0), (1, .int (nI r)), (2, .int (nI q))] := hl
  refine lv_aload_n hx hb dX0_use_0 rfl (lv_at hl 0 rfl) ?_
  refine lv_iload_n hx hb dX0_use_1 rfl (lv_at hl 1 rfl) ?_
  refine lv_iload_n hx hb dX0_use_2 rfl (lv_at hl 2 rfl) ?_
  refine k_X0_whyNoUse D tI tZ tL h0 ad σ r q nr hnr hn30 hrn np hnp hn8 hq ⟨hx, hb, hml, hown, hts⟩ gX0_use_X0_whyNoUse ⟨Nat.le_of_ble_eq_true rfl, Nat.le_of_ble_eq_true rfl⟩ hl.1 ⟨Nat.zero_le _, Nat.zero_le _⟩ (Nat.le_of_ble_eq_true rfl) hK hP dX0_use_3 ?_
  refine lv_if_eq (tgt := 19) hx hb dX0_use_6 (by decide) (fun c6 => absurd c6 hw) (fun c6 => ?_)
  exact t_thr (ik := 45) (is := 139) (ic := 49) hx hb hlf hown (by decide +kernel) (by decide +kernel) hts (by decide +kernel) (by decide +kernel) (by decide +kernel) (by decide +kernel) (by decide +kernel) hE (t := "the record must not be used for the purpose") (by decide +kernel) (by rw [hml]; exact hl.1) dX0_use_9 dX0_use_12 dX0_use_13 dX0_use_15 dX0_use_18 hnt (Nat.le_of_ble_eq_true rfl) (Nat.le_of_ble_eq_true rfl) (Nat.le_of_ble_eq_true rfl) (Nat.le_of_ble_eq_true rfl) hlocks
theorem k_X0_use_tC {p : Program} {l : Launch} {e : Env} {R : Room} {s : State} {m : MethodId} {args : Array Value} {below : List Frame} {meth : Method} {c : Code} {cc : ByteArray} {pc : Nat} {ls : Array Slot} {rest : List Value} {Ts : List Cond} (D : va_G) (tI tZ tL : ClassId) (h0 : Nat) (ad : Nat → Nat) (σ : ST) (r q : Nat) (nr : Nat) (hnr : σ.1 6 = nI nr) (hn30 : nr ≤ 30) (hrn : r < nr) (np : Nat) (hnp : σ.1 1 = nI np) (hn8 : np ≤ 8) (hq : q < np) (hw : ¬ x_why σ np r q = 0) {Qc : Array Value → State → Outcome → State → Prop} {own : String} {idx nL : Nat} (S : CallFix p m c cc nL s args Ts own) (hG : GoodIn Ts (wsV own idx RX0 yX0_use wsX0_use)) (hR : ({ frames := 6, cells := 1, slots := 6, locals := 140 } : Room).frames + 1 ≤ R.frames ∧ 8 + (4 + 11) + ({ frames := 6, cells := 1, slots := 6, locals := 140 } : Room).locals ≤ R.locals) (hsz : ls.size = nL) (hrm : (rest.map fun v => v.category).sum ≤ 8) (hlf : l.stackTraces = false) (hcap : 1 ≤ R.cells ∧ 6 ≤ R.slots) (hE : e_E s s.heap) (hK : va_K D vwCl (kTY tI tZ tL) s) (hP : va_P D vwCl (x_W tI tZ h0 ad σ) s.heap) (hlocks : meth.locks = false) (hnt : ∀ x ∈ c.exceptionTable.toList, False) (hdg : decode cc pc = .ok (.invokevirtual idx, 3)) : W p l e R s m args below meth c s.heap [] 0 0 (vx_MQ below Qc (e_X "java/lang/IllegalStateException") args s 1 6 q_no) (F0 m pc ls (.int (nI q) :: .int (nI r) :: .ref h0 :: rest)) :=
  t_pass (vx_runV (As := [.int (nI r), .int (nI q)]) (rest := rest) S (c_X0_use_tC l D tI tZ tL h0 ad σ r q nr hnr hn30 hrn np hnp hn8 hq hw hlf) (cwV 2 S.2.2.2.2 hG rfl rfl rfl (by decide +kernel) hR) (t_pre hK hP hE) rfl rfl hsz rfl (lv_room hrm) hdg ⟨by omega, by omega⟩) hnt hlocks

