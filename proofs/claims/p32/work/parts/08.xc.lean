set_option maxHeartbeats 4000000 in
set_option maxRecDepth 100000 in
theorem c_J6_bitCount_0f7a4 (l : Launch) (x : Int32) : Met l yJ6_bitCount_0f7a4 wsJ6_bitCount_0f7a4 ({ frames := 0, cells := 0, slots := 0, locals := 0 } : Room) (va_Pc ([.int x] : List Value) (fun _ => True)) (q_Q (some (.int (x_pop x)))) 0 0 q_no := by
  refine q_met (cc := cJ6_bitCount_0f7a4) (maxL := 1) (ret := (some .int)) (by decide) rfl (Nat.le_of_ble_eq_true rfl) ?_
  intro p e s m below meth c hx hb hml hr hts hown hlocks hB ls hl
  have hown : s.vm.findClass RJ6 = some m.cls := hown
  have hl : lv_has ls 1 [(0, .int x)] := hl
  refine lv_iload_n hx hb dJ6_bitCount_0f7a4_0 rfl (lv_at hl 0 rfl) ?_
  refine lv_iload_n hx hb dJ6_bitCount_0f7a4_1 rfl (lv_at hl 0 rfl) ?_
  refine lv_iconst (v := 1) hx hb dJ6_bitCount_0f7a4_2 (by decide) ?_
  refine lv_iushr hx hb dJ6_bitCount_0f7a4_3 rfl ?_
  refine lv_ldcw hx hb hown (hts (.constant RJ6 265 1431655765) (by decide +kernel)) dJ6_bitCount_0f7a4_4 ?_
  refine lv_iand hx hb dJ6_bitCount_0f7a4_7 ?_
  refine lv_isub hx hb dJ6_bitCount_0f7a4_8 ?_
  refine lv_topc (y := x_popA x) (rfl) ?_
  refine lv_istore_n (lv' := [(0, .int (x_popA x))]) hx hb dJ6_bitCount_0f7a4_9 rfl hl (by decide) rfl (fun ls hl => ?_)
  refine lv_iload_n hx hb dJ6_bitCount_0f7a4_10 rfl (lv_at hl 0 rfl) ?_
  refine lv_ldcw hx hb hown (hts (.constant RJ6 266 858993459) (by decide +kernel)) dJ6_bitCount_0f7a4_11 ?_
  refine lv_iand hx hb dJ6_bitCount_0f7a4_14 ?_
  refine lv_iload_n hx hb dJ6_bitCount_0f7a4_15 rfl (lv_at hl 0 rfl) ?_
  refine lv_iconst (v := 2) hx hb dJ6_bitCount_0f7a4_16 (by decide) ?_
  refine lv_iushr hx hb dJ6_bitCount_0f7a4_17 rfl ?_
  refine lv_ldcw hx hb hown (hts (.constant RJ6 266 858993459) (by decide +kernel)) dJ6_bitCount_0f7a4_18 ?_
  refine lv_iand hx hb dJ6_bitCount_0f7a4_21 ?_
  refine lv_iadd hx hb dJ6_bitCount_0f7a4_22 ?_
  refine lv_topc (y := x_popB (x_popA x)) (rfl) ?_
  refine lv_istore_n (lv' := [(0, .int (x_popB (x_popA x)))]) hx hb dJ6_bitCount_0f7a4_23 rfl hl (by decide) rfl (fun ls hl => ?_)
  refine lv_iload_n hx hb dJ6_bitCount_0f7a4_24 rfl (lv_at hl 0 rfl) ?_
  refine lv_iload_n hx hb dJ6_bitCount_0f7a4_25 rfl (lv_at hl 0 rfl) ?_
  refine lv_iconst (v := 4) hx hb dJ6_bitCount_0f7a4_26 (by decide) ?_
  refine lv_iushr hx hb dJ6_bitCount_0f7a4_27 rfl ?_
  refine lv_iadd hx hb dJ6_bitCount_0f7a4_28 ?_
  refine lv_ldcw hx hb hown (hts (.constant RJ6 267 252645135) (by decide +kernel)) dJ6_bitCount_0f7a4_29 ?_
  refine lv_iand hx hb dJ6_bitCount_0f7a4_32 ?_
  refine lv_topc (y := x_popC (x_popB (x_popA x))) (rfl) ?_
  refine lv_istore_n (lv' := [(0, .int (x_popC (x_popB (x_popA x))))]) hx hb dJ6_bitCount_0f7a4_33 rfl hl (by decide) rfl (fun ls hl => ?_)
  refine lv_iload_n hx hb dJ6_bitCount_0f7a4_34 rfl (lv_at hl 0 rfl) ?_
  refine lv_iload_n hx hb dJ6_bitCount_0f7a4_35 rfl (lv_at hl 0 rfl) ?_
  refine lv_bipush (v := 8) hx hb dJ6_bitCount_0f7a4_36 (by decide) ?_
  refine lv_iushr hx hb dJ6_bitCount_0f7a4_38 rfl ?_
  refine lv_iadd hx hb dJ6_bitCount_0f7a4_39 ?_
  refine lv_topc (y := x_popD (x_popC (x_popB (x_popA x)))) (rfl) ?_
  refine lv_istore_n (lv' := [(0, .int (x_popD (x_popC (x_popB (x_popA x)))))]) hx hb dJ6_bitCount_0f7a4_40 rfl hl (by decide) rfl (fun ls hl => ?_)
  refine lv_iload_n hx hb dJ6_bitCount_0f7a4_41 rfl (lv_at hl 0 rfl) ?_
  refine lv_iload_n hx hb dJ6_bitCount_0f7a4_42 rfl (lv_at hl 0 rfl) ?_
  refine lv_bipush (v := 16) hx hb dJ6_bitCount_0f7a4_43 (by decide) ?_
  refine lv_iushr hx hb dJ6_bitCount_0f7a4_45 rfl ?_
  refine lv_iadd hx hb dJ6_bitCount_0f7a4_46 ?_
  refine lv_topc (y := x_popE (x_popD (x_popC (x_popB (x_popA x))))) (rfl) ?_
  refine lv_istore_n (lv' := [(0, .int (x_popE (x_popD (x_popC (x_popB (x_popA x))))))]) hx hb dJ6_bitCount_0f7a4_47 rfl hl (by decide) rfl (fun ls hl => ?_)
  refine lv_iload_n hx hb dJ6_bitCount_0f7a4_48 rfl (lv_at hl 0 rfl) ?_
  refine lv_bipush (v := 63) hx hb dJ6_bitCount_0f7a4_49 (by decide) ?_
  refine lv_iand hx hb dJ6_bitCount_0f7a4_51 ?_
  exact q_iret hx hb hr hlocks (rfl) dJ6_bitCount_0f7a4_52
theorem k_J6_bitCount_0f7a4 {p : Program} {l : Launch} {e : Env} {R : Room} {s : State} {m : MethodId} {args : Array Value} {below : List Frame} {meth : Method} {c : Code} {H : Heap} {locs : List Loc} {cells slots : Nat} {Q : State → Prop} {cc : ByteArray} {pc : Nat} {ls : Array Slot} {rest : List Value} {Ts : List Cond} (x : Int32) {own : String} {idx nL : Nat} (S : CallFix p m c cc nL s args Ts own) (hG : GoodIn Ts (va_wsS own idx yJ6_bitCount_0f7a4 wsJ6_bitCount_0f7a4)) (hR : ({ frames := 0, cells := 0, slots := 0, locals := 0 } : Room).frames + 1 ≤ R.frames ∧ 8 + (1 + 11) + ({ frames := 0, cells := 0, slots := 0, locals := 0 } : Room).locals ≤ R.locals) (hsz : ls.size = nL) (hcap : cells ≤ R.cells ∧ slots ≤ R.slots) (hrm : (rest.map fun v => v.category).sum ≤ 8) (hdg : decode cc pc = .ok (.invokestatic idx, 3)) (kk : W p l e R s m args below meth c H locs cells slots Q (F0 m (pc + 3) ls (.int (x_pop x) :: rest))) : W p l e R s m args below meth c H locs cells slots Q (F0 m pc ls (.int x :: rest)) :=
  q_call (va_runS (As := [.int x]) (rest := rest) S (c_J6_bitCount_0f7a4 l x) (va_cwS 1 S.2.2.2.2 hG rfl rfl rfl (by decide +kernel) hR) ⟨ty_blind (fun _ _ _ _ h => h), fun U _ _ => ⟨rfl, trivial⟩⟩ rfl rfl hsz rfl (lv_room hrm) hdg hcap) kk

set_option maxHeartbeats 4000000 in
set_option maxRecDepth 100000 in
theorem c_X0_checkSubject (l : Launch) (D : va_G) (tI tZ tL : ClassId) (h0 : Nat) (ad : Nat → Nat) (σ : ST) (j : Nat) (hj12 : j < 12) : Met l yX0_checkSubject wsX0_checkSubject ({ frames := 0, cells := 0, slots := 0, locals := 0 } : Room) (va_Pc ([.ref h0, .int (nI j)] : List Value) (x_B D tI tZ tL h0 ad σ)) (q_Q none) 0 0 q_no := by
  refine q_met (cc := cX0_checkSubject) (maxL := 2) (ret := none) (by decide) rfl (Nat.le_of_ble_eq_true rfl) ?_
  intro p e s m below meth c hx hb hml hr hts hown hlocks hB ls hl
  have hown : s.vm.findClass RX0 = some m.cls := hown
  obtain ⟨hP, hK⟩ := hB
  have hl : lv_has ls 2 [(0, .ref h0), (1, .int (nI j))] := hl
  refine lv_iload_n hx hb dX0_checkSubject_0 rfl (lv_at hl 1 rfl) ?_
  refine lv_if_lt (tgt := 10) hx hb dX0_checkSubject_1 (by decide) (fun c1 => absurd c1 (nI_pos (by omega))) (fun c1 => ?_)
  refine lv_iload_n hx hb dX0_checkSubject_4 rfl (lv_at hl 1 rfl) ?_
  refine lv_bipush (v := 12) hx hb dX0_checkSubject_5 (by decide) ?_
  refine lv_icmp_lt (tgt := 20) hx hb dX0_checkSubject_7 (by decide) (fun c7 => ?_) (fun c7 => absurd (show nI j < 12 from nI_lt (b := 12) hj12 (by decide)) c7)
  exact q_vret hx hb hr hlocks dX0_checkSubject_20
theorem k_X0_checkSubject {p : Program} {l : Launch} {e : Env} {R : Room} {s : State} {m : MethodId} {args : Array Value} {below : List Frame} {meth : Method} {c : Code} {H : Heap} {locs : List Loc} {cells slots : Nat} {Q : State → Prop} {cc : ByteArray} {pc : Nat} {ls : Array Slot} {rest : List Value} {Ts : List Cond} (D : va_G) (tI tZ tL : ClassId) (h0 : Nat) (ad : Nat → Nat) (σ : ST) (j : Nat) (hj12 : j < 12) {own : String} {idx nL : Nat} (S : CallFix p m c cc nL s args Ts own) (hG : GoodIn Ts (wsV own idx RX0 yX0_checkSubject wsX0_checkSubject)) (hR : ({ frames := 0, cells := 0, slots := 0, locals := 0 } : Room).frames + 1 ≤ R.frames ∧ 8 + (2 + 11) + ({ frames := 0, cells := 0, slots := 0, locals := 0 } : Room).locals ≤ R.locals) (hsz : ls.size = nL) (hcap : cells ≤ R.cells ∧ slots ≤ R.slots) (hrm : (rest.map fun v => v.category).sum ≤ 8) (hK : va_K D vwCl (kTY tI tZ tL) s) (hP : va_P D vwCl (x_W tI tZ h0 ad σ) H) (hdg : decode cc pc = .ok (.invokevirtual idx, 3)) (kk : W p l e R s m args below meth c H locs cells slots Q (F0 m (pc + 3) ls (rest))) : W p l e R s m args below meth c H locs cells slots Q (F0 m pc ls (.int (nI j) :: .ref h0 :: rest)) :=
  q_call (va_runV (As := [.int (nI j)]) (rest := rest) S (c_X0_checkSubject l D tI tZ tL h0 ad σ j hj12) (cwV 1 S.2.2.2.2 hG rfl rfl rfl (by decide +kernel) hR) (x_pre hK hP) rfl rfl hsz rfl (lv_room hrm) hdg hcap) kk

set_option maxHeartbeats 4000000 in
set_option maxRecDepth 100000 in
theorem c_X0_checkCase (l : Launch) (D : va_G) (tI tZ tL : ClassId) (h0 : Nat) (ad : Nat → Nat) (σ : ST) (i : Nat) (hi6 : i < 6) : Met l yX0_checkCase wsX0_checkCase ({ frames := 0, cells := 0, slots := 0, locals := 0 } : Room) (va_Pc ([.ref h0, .int (nI i)] : List Value) (x_B D tI tZ tL h0 ad σ)) (q_Q none) 0 0 q_no := by
  refine q_met (cc := cX0_checkCase) (maxL := 2) (ret := none) (by decide) rfl (Nat.le_of_ble_eq_true rfl) ?_
  intro p e s m below meth c hx hb hml hr hts hown hlocks hB ls hl
  have hown : s.vm.findClass RX0 = some m.cls := hown
  obtain ⟨hP, hK⟩ := hB
  have hl : lv_has ls 2 [(0, .ref h0), (1, .int (nI i))] := hl
  refine lv_iload_n hx hb dX0_checkCase_0 rfl (lv_at hl 1 rfl) ?_
  refine lv_if_lt (tgt := 10) hx hb dX0_checkCase_1 (by decide) (fun c1 => absurd c1 (nI_pos (by omega))) (fun c1 => ?_)
  refine lv_iload_n hx hb dX0_checkCase_4 rfl (lv_at hl 1 rfl) ?_
  refine lv_bipush (v := 6) hx hb dX0_checkCase_5 (by decide) ?_
  refine lv_icmp_lt (tgt := 20) hx hb dX0_checkCase_7 (by decide) (fun c7 => ?_) (fun c7 => absurd (show nI i < 6 from nI_lt (b := 6) hi6 (by decide)) c7)
  exact q_vret hx hb hr hlocks dX0_checkCase_20
theorem k_X0_checkCase {p : Program} {l : Launch} {e : Env} {R : Room} {s : State} {m : MethodId} {args : Array Value} {below : List Frame} {meth : Method} {c : Code} {H : Heap} {locs : List Loc} {cells slots : Nat} {Q : State → Prop} {cc : ByteArray} {pc : Nat} {ls : Array Slot} {rest : List Value} {Ts : List Cond} (D : va_G) (tI tZ tL : ClassId) (h0 : Nat) (ad : Nat → Nat) (σ : ST) (i : Nat) (hi6 : i < 6) {own : String} {idx nL : Nat} (S : CallFix p m c cc nL s args Ts own) (hG : GoodIn Ts (wsV own idx RX0 yX0_checkCase wsX0_checkCase)) (hR : ({ frames := 0, cells := 0, slots := 0, locals := 0 } : Room).frames + 1 ≤ R.frames ∧ 8 + (2 + 11) + ({ frames := 0, cells := 0, slots := 0, locals := 0 } : Room).locals ≤ R.locals) (hsz : ls.size = nL) (hcap : cells ≤ R.cells ∧ slots ≤ R.slots) (hrm : (rest.map fun v => v.category).sum ≤ 8) (hK : va_K D vwCl (kTY tI tZ tL) s) (hP : va_P D vwCl (x_W tI tZ h0 ad σ) H) (hdg : decode cc pc = .ok (.invokevirtual idx, 3)) (kk : W p l e R s m args below meth c H locs cells slots Q (F0 m (pc + 3) ls (rest))) : W p l e R s m args below meth c H locs cells slots Q (F0 m pc ls (.int (nI i) :: .ref h0 :: rest)) :=
  q_call (va_runV (As := [.int (nI i)]) (rest := rest) S (c_X0_checkCase l D tI tZ tL h0 ad σ i hi6) (cwV 1 S.2.2.2.2 hG rfl rfl rfl (by decide +kernel) hR) (x_pre hK hP) rfl rfl hsz rfl (lv_room hrm) hdg hcap) kk

set_option maxHeartbeats 4000000 in
set_option maxRecDepth 100000 in
theorem c_X0_checkPurpose (l : Launch) (D : va_G) (tI tZ tL : ClassId) (h0 : Nat) (ad : Nat → Nat) (σ : ST) (q : Nat) (np : Nat) (hnp : σ.1 1 = nI np) (hn8 : np ≤ 8) (hq : q < np) : Met l yX0_checkPurpose wsX0_checkPurpose ({ frames := 0, cells := 0, slots := 0, locals := 0 } : Room) (va_Pc ([.ref h0, .int (nI q)] : List Value) (x_B D tI tZ tL h0 ad σ)) (q_Q none) 0 0 q_no := by
  refine q_met (cc := cX0_checkPurpose) (maxL := 2) (ret := none) (by decide) rfl (Nat.le_of_ble_eq_true rfl) ?_
  intro p e s m below meth c hx hb hml hr hts hown hlocks hB ls hl
  have hown : s.vm.findClass RX0 = some m.cls := hown
  obtain ⟨hP, hK⟩ := hB
  have hl : lv_has ls 2 [(0, .ref h0), (1, .int (nI q))] := hl
  have hin : ∀ w ∈ wsX00, w ∈ wsX0_checkPurpose := in_X0_checkPurpose
  have hl_purposeCount : xl_purposeCount ∈ wsX0_checkPurpose := by decide +kernel
  refine lv_iload_n hx hb dX0_checkPurpose_0 rfl (lv_at hl 1 rfl) ?_
  refine lv_if_lt (tgt := 12) hx hb dX0_checkPurpose_1 (by decide) (fun c1 => absurd c1 (nI_pos (by omega))) (fun c1 => ?_)
  refine lv_iload_n hx hb dX0_checkPurpose_4 rfl (lv_at hl 1 rfl) ?_
  refine lv_aload_n hx hb dX0_checkPurpose_5 rfl (lv_at hl 0 rfl) ?_
  refine xg_purposeCount hx hb hts hin hown hK hP hl_purposeCount dX0_checkPurpose_6 ?_
  refine lv_icmp_lt (tgt := 22) hx hb dX0_checkPurpose_9 (by decide) (fun c9 => ?_) (fun c9 => absurd (show nI q < σ.1 1 by rw [hnp]; exact nI_lt hq (by omega)) c9)
  exact q_vret hx hb hr hlocks dX0_checkPurpose_22
theorem k_X0_checkPurpose {p : Program} {l : Launch} {e : Env} {R : Room} {s : State} {m : MethodId} {args : Array Value} {below : List Frame} {meth : Method} {c : Code} {H : Heap} {locs : List Loc} {cells slots : Nat} {Q : State → Prop} {cc : ByteArray} {pc : Nat} {ls : Array Slot} {rest : List Value} {Ts : List Cond} (D : va_G) (tI tZ tL : ClassId) (h0 : Nat) (ad : Nat → Nat) (σ : ST) (q : Nat) (np : Nat) (hnp : σ.1 1 = nI np) (hn8 : np ≤ 8) (hq : q < np) {own : String} {idx nL : Nat} (S : CallFix p m c cc nL s args Ts own) (hG : GoodIn Ts (wsV own idx RX0 yX0_checkPurpose wsX0_checkPurpose)) (hR : ({ frames := 0, cells := 0, slots := 0, locals := 0 } : Room).frames + 1 ≤ R.frames ∧ 8 + (2 + 11) + ({ frames := 0, cells := 0, slots := 0, locals := 0 } : Room).locals ≤ R.locals) (hsz : ls.size = nL) (hcap : cells ≤ R.cells ∧ slots ≤ R.slots) (hrm : (rest.map fun v => v.category).sum ≤ 8) (hK : va_K D vwCl (kTY tI tZ tL) s) (hP : va_P D vwCl (x_W tI tZ h0 ad σ) H) (hdg : decode cc pc = .ok (.invokevirtual idx, 3)) (kk : W p l e R s m args below meth c H locs cells slots Q (F0 m (pc + 3) ls (rest))) : W p l e R s m args below meth c H locs cells slots Q (F0 m pc ls (.int (nI q) :: .ref h0 :: rest)) :=
  q_call (va_runV (As := [.int (nI q)]) (rest := rest) S (c_X0_checkPurpose l D tI tZ tL h0 ad σ q np hnp hn8 hq) (cwV 1 S.2.2.2.2 hG rfl rfl rfl (by decide +kernel) hR) (x_pre hK hP) rfl rfl hsz rfl (lv_room hrm) hdg hcap) kk

set_option maxHeartbeats 4000000 in
set_option maxRecDepth 100000 in
theorem c_X0_checkRecord (l : Launch) (D : va_G) (tI tZ tL : ClassId) (h0 : Nat) (ad : Nat → Nat) (σ : ST) (r : Nat) (nr : Nat) (hnr : σ.1 6 = nI nr) (hn30 : nr ≤ 30) (hrn : r < nr) : Met l yX0_checkRecord wsX0_checkRecord ({ frames := 0, cells := 0, slots := 0, locals := 0 } : Room) (va_Pc ([.ref h0, .int (nI r)] : List Value) (x_B D tI tZ tL h0 ad σ)) (q_Q none) 0 0 q_no := by
  refine q_met (cc := cX0_checkRecord) (maxL := 2) (ret := none) (by decide) rfl (Nat.le_of_ble_eq_true rfl) ?_
  intro p e s m below meth c hx hb hml hr hts hown hlocks hB ls hl
  have hown : s.vm.findClass RX0 = some m.cls := hown
  obtain ⟨hP, hK⟩ := hB
  have hl : lv_has ls 2 [(0, .ref h0), (1, .int (nI r))] := hl
  have hin : ∀ w ∈ wsX00, w ∈ wsX0_checkRecord := in_X0_checkRecord
  have hl_recordCount : xl_recordCount ∈ wsX0_checkRecord := by decide +kernel
  refine lv_iload_n hx hb dX0_checkRecord_0 rfl (lv_at hl 1 rfl) ?_
  refine lv_if_lt (tgt := 12) hx hb dX0_checkRecord_1 (by decide) (fun c1 => absurd c1 (nI_pos (by omega))) (fun c1 => ?_)
  refine lv_iload_n hx hb dX0_checkRecord_4 rfl (lv_at hl 1 rfl) ?_
  refine lv_aload_n hx hb dX0_checkRecord_5 rfl (lv_at hl 0 rfl) ?_
  refine xg_recordCount hx hb hts hin hown hK hP hl_recordCount dX0_checkRecord_6 ?_
  refine lv_icmp_lt (tgt := 22) hx hb dX0_checkRecord_9 (by decide) (fun c9 => ?_) (fun c9 => absurd (show nI r < σ.1 6 by rw [hnr]; exact nI_lt hrn (by omega)) c9)
  exact q_vret hx hb hr hlocks dX0_checkRecord_22
theorem k_X0_checkRecord {p : Program} {l : Launch} {e : Env} {R : Room} {s : State} {m : MethodId} {args : Array Value} {below : List Frame} {meth : Method} {c : Code} {H : Heap} {locs : List Loc} {cells slots : Nat} {Q : State → Prop} {cc : ByteArray} {pc : Nat} {ls : Array Slot} {rest : List Value} {Ts : List Cond} (D : va_G) (tI tZ tL : ClassId) (h0 : Nat) (ad : Nat → Nat) (σ : ST) (r : Nat) (nr : Nat) (hnr : σ.1 6 = nI nr) (hn30 : nr ≤ 30) (hrn : r < nr) {own : String} {idx nL : Nat} (S : CallFix p m c cc nL s args Ts own) (hG : GoodIn Ts (wsV own idx RX0 yX0_checkRecord wsX0_checkRecord)) (hR : ({ frames := 0, cells := 0, slots := 0, locals := 0 } : Room).frames + 1 ≤ R.frames ∧ 8 + (2 + 11) + ({ frames := 0, cells := 0, slots := 0, locals := 0 } : Room).locals ≤ R.locals) (hsz : ls.size = nL) (hcap : cells ≤ R.cells ∧ slots ≤ R.slots) (hrm : (rest.map fun v => v.category).sum ≤ 8) (hK : va_K D vwCl (kTY tI tZ tL) s) (hP : va_P D vwCl (x_W tI tZ h0 ad σ) H) (hdg : decode cc pc = .ok (.invokevirtual idx, 3)) (kk : W p l e R s m args below meth c H locs cells slots Q (F0 m (pc + 3) ls (rest))) : W p l e R s m args below meth c H locs cells slots Q (F0 m pc ls (.int (nI r) :: .ref h0 :: rest)) :=
  q_call (va_runV (As := [.int (nI r)]) (rest := rest) S (c_X0_checkRecord l D tI tZ tL h0 ad σ r nr hnr hn30 hrn) (cwV 1 S.2.2.2.2 hG rfl rfl rfl (by decide +kernel) hR) (x_pre hK hP) rfl rfl hsz rfl (lv_room hrm) hdg hcap) kk

set_option maxHeartbeats 4000000 in
set_option maxRecDepth 100000 in
theorem c_X0_checkRetention (l : Launch) (D : va_G) (tI tZ tL : ClassId) (h0 : Nat) (ad : Nat → Nat) (σ : ST) (v : Int32) (hv0 : ¬ v < 0) (hv1 : v ≤ 3650) : Met l yX0_checkRetention wsX0_checkRetention ({ frames := 0, cells := 0, slots := 0, locals := 0 } : Room) (va_Pc ([.ref h0, .int v] : List Value) (x_B D tI tZ tL h0 ad σ)) (q_Q none) 0 0 q_no := by
  refine q_met (cc := cX0_checkRetention) (maxL := 2) (ret := none) (by decide) rfl (Nat.le_of_ble_eq_true rfl) ?_
  intro p e s m below meth c hx hb hml hr hts hown hlocks hB ls hl
  have hown : s.vm.findClass RX0 = some m.cls := hown
  obtain ⟨hP, hK⟩ := hB
  have hl : lv_has ls 2 [(0, .ref h0), (1, .int v)] := hl
  refine lv_iload_n hx hb dX0_checkRetention_0 rfl (lv_at hl 1 rfl) ?_
  refine lv_if_lt (tgt := 11) hx hb dX0_checkRetention_1 (by decide) (fun c1 => absurd c1 hv0) (fun c1 => ?_)
  refine lv_iload_n hx hb dX0_checkRetention_4 rfl (lv_at hl 1 rfl) ?_
  refine lv_sipush (v := 3650) hx hb dX0_checkRetention_5 (by decide) ?_
  refine lv_icmp_le (tgt := 21) hx hb dX0_checkRetention_8 (by decide) (fun c8 => ?_) (fun c8 => absurd hv1 c8)
  exact q_vret hx hb hr hlocks dX0_checkRetention_21
theorem k_X0_checkRetention {p : Program} {l : Launch} {e : Env} {R : Room} {s : State} {m : MethodId} {args : Array Value} {below : List Frame} {meth : Method} {c : Code} {H : Heap} {locs : List Loc} {cells slots : Nat} {Q : State → Prop} {cc : ByteArray} {pc : Nat} {ls : Array Slot} {rest : List Value} {Ts : List Cond} (D : va_G) (tI tZ tL : ClassId) (h0 : Nat) (ad : Nat → Nat) (σ : ST) (v : Int32) (hv0 : ¬ v < 0) (hv1 : v ≤ 3650) {own : String} {idx nL : Nat} (S : CallFix p m c cc nL s args Ts own) (hG : GoodIn Ts (wsV own idx RX0 yX0_checkRetention wsX0_checkRetention)) (hR : ({ frames := 0, cells := 0, slots := 0, locals := 0 } : Room).frames + 1 ≤ R.frames ∧ 8 + (2 + 11) + ({ frames := 0, cells := 0, slots := 0, locals := 0 } : Room).locals ≤ R.locals) (hsz : ls.size = nL) (hcap : cells ≤ R.cells ∧ slots ≤ R.slots) (hrm : (rest.map fun v => v.category).sum ≤ 8) (hK : va_K D vwCl (kTY tI tZ tL) s) (hP : va_P D vwCl (x_W tI tZ h0 ad σ) H) (hdg : decode cc pc = .ok (.invokevirtual idx, 3)) (kk : W p l e R s m args below meth c H locs cells slots Q (F0 m (pc + 3) ls (rest))) : W p l e R s m args below meth c H locs cells slots Q (F0 m pc ls (.int v :: .ref h0 :: rest)) :=
  q_call (va_runV (As := [.int v]) (rest := rest) S (c_X0_checkRetention l D tI tZ tL h0 ad σ v hv0 hv1) (cwV 1 S.2.2.2.2 hG rfl rfl rfl (by decide +kernel) hR) (x_pre hK hP) rfl rfl hsz rfl (lv_room hrm) hdg hcap) kk

set_option maxHeartbeats 4000000 in
set_option maxRecDepth 100000 in
theorem c_X0_checkPurposes (l : Launch) (D : va_G) (tI tZ tL : ClassId) (h0 : Nat) (ad : Nat → Nat) (σ : ST) (P : Int32) (np : Nat) (hnp : σ.1 1 = nI np) (hn8 : np ≤ 8) (hq1 : P &&& ((bI np - 1) ^^^ (-1)) = 0) (hq2 : ¬ P = 0) : Met l yX0_checkPurposes wsX0_checkPurposes ({ frames := 2, cells := 0, slots := 0, locals := 40 } : Room) (va_Pc ([.ref h0, .int P] : List Value) (x_B D tI tZ tL h0 ad σ)) (q_Q none) 0 0 q_no := by
  refine q_met (cc := cX0_checkPurposes) (maxL := 2) (ret := none) (by decide) rfl (Nat.le_of_ble_eq_true rfl) ?_
  intro p e s m below meth c hx hb hml hr hts hown hlocks hB ls hl
  have hown : s.vm.findClass RX0 = some m.cls := hown
  obtain ⟨hP, hK⟩ := hB
  have hl : lv_has ls 2 [(0, .ref h0), (1, .int P)] := hl
  refine lv_iload_n hx hb dX0_checkPurposes_0 rfl (lv_at hl 1 rfl) ?_
  refine lv_aload_n hx hb dX0_checkPurposes_1 rfl (lv_at hl 0 rfl) ?_
  refine k_X0_allPurposes D tI tZ tL h0 ad σ np hnp hn8 ⟨hx, hb, hml, hown, hts⟩ gX0_checkPurposes_X0_allPurposes ⟨Nat.le_of_ble_eq_true rfl, Nat.le_of_ble_eq_true rfl⟩ hl.1 ⟨Nat.zero_le _, Nat.zero_le _⟩ (Nat.le_of_ble_eq_true rfl) hK hP dX0_checkPurposes_2 ?_
  refine lv_iconst (v := (-1)) hx hb dX0_checkPurposes_5 (by decide) ?_
  refine lv_ixor hx hb dX0_checkPurposes_6 ?_
  refine lv_iand hx hb dX0_checkPurposes_7 ?_
  refine lv_if_eq (tgt := 21) hx hb dX0_checkPurposes_8 (by decide) (fun c8 => ?_) (fun c8 => absurd hq1 c8)
  refine lv_iload_n hx hb dX0_checkPurposes_21 rfl (lv_at hl 1 rfl) ?_
  refine lv_if_ne (tgt := 35) hx hb dX0_checkPurposes_22 (by decide) (fun c22 => ?_) (fun c22 => absurd c22 hq2)
  exact q_vret hx hb hr hlocks dX0_checkPurposes_35
theorem k_X0_checkPurposes {p : Program} {l : Launch} {e : Env} {R : Room} {s : State} {m : MethodId} {args : Array Value} {below : List Frame} {meth : Method} {c : Code} {H : Heap} {locs : List Loc} {cells slots : Nat} {Q : State → Prop} {cc : ByteArray} {pc : Nat} {ls : Array Slot} {rest : List Value} {Ts : List Cond} (D : va_G) (tI tZ tL : ClassId) (h0 : Nat) (ad : Nat → Nat) (σ : ST) (P : Int32) (np : Nat) (hnp : σ.1 1 = nI np) (hn8 : np ≤ 8) (hq1 : P &&& ((bI np - 1) ^^^ (-1)) = 0) (hq2 : ¬ P = 0) {own : String} {idx nL : Nat} (S : CallFix p m c cc nL s args Ts own) (hG : GoodIn Ts (wsV own idx RX0 yX0_checkPurposes wsX0_checkPurposes)) (hR : ({ frames := 2, cells := 0, slots := 0, locals := 40 } : Room).frames + 1 ≤ R.frames ∧ 8 + (2 + 11) + ({ frames := 2, cells := 0, slots := 0, locals := 40 } : Room).locals ≤ R.locals) (hsz : ls.size = nL) (hcap : cells ≤ R.cells ∧ slots ≤ R.slots) (hrm : (rest.map fun v => v.category).sum ≤ 8) (hK : va_K D vwCl (kTY tI tZ tL) s) (hP : va_P D vwCl (x_W tI tZ h0 ad σ) H) (hdg : decode cc pc = .ok (.invokevirtual idx, 3)) (kk : W p l e R s m args below meth c H locs cells slots Q (F0 m (pc + 3) ls (rest))) : W p l e R s m args below meth c H locs cells slots Q (F0 m pc ls (.int P :: .ref h0 :: rest)) :=
  q_call (va_runV (As := [.int P]) (rest := rest) S (c_X0_checkPurposes l D tI tZ tL h0 ad σ P np hnp hn8 hq1 hq2) (cwV 1 S.2.2.2.2 hG rfl rfl rfl (by decide +kernel) hR) (x_pre hK hP) rfl rfl hsz rfl (lv_room hrm) hdg hcap) kk

